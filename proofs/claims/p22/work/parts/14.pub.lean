theorem n64_of {r : UInt64} (h : r.toNat % 2 ^ 63 ≤ 9218868437227405312) : vf_n64 r := by
  unfold vf_n64
  rw [UInt64.le_iff_toNat_le, UInt64.toNat_and]
  rw [show (0x7fffffffffffffff : UInt64).toNat = 2 ^ 63 - 1 from rfl, Nat.and_two_pow_sub_one_eq_mod]
  exact h
theorem mean_n64 (x j : Int32) (hj : ¬ j = 0) : vf_n64 (FP.ddiv (FP.i2d x) (FP.i2d j)) := by
  have h := Jvm.FP.Core.ddiv_out (Jvm.FP.Core.DFin.notNaN (Jvm.FP.Core.i2d_fin x)) (Jvm.FP.Core.i2d_fin j) (fun z => Jvm.FP.Core.i2d_ne_zero hj ((Jvm.FP.Core.zero_bits2 _).mp z))
  have h2 := (Jvm.FP.Core.ne_nan _).mp ((Jvm.FP.Core.notNaN_iff _).mp h)
  exact n64_of h2
theorem best_skip {c : Int32 → Int32} {B : N2I} {e : Nat} (h : ¬ B e = 0) : aBest c B (e + 1) = aBest c B e := if_neg h
theorem best_keep {c : Int32 → Int32} {B : N2I} {e : Nat} (h : B e = 0) (h2 : c (nI e) ≤ (aBest c B e).2) : aBest c B (e + 1) = aBest c B e := (if_pos h).trans (if_pos h2)
theorem best_new {c : Int32 → Int32} {B : N2I} {e : Nat} (h : B e = 0) (h2 : ¬ c (nI e) ≤ (aBest c B e).2) : aBest c B (e + 1) = (nI e, c (nI e)) := (if_pos h).trans (if_neg h2)
theorem swp_01 {B : N2I} (h : ∀ i, B i = 0 ∨ B i = 1) (a b : Nat) : ∀ i, swp B a b i = 0 ∨ swp B a b i = 1 := by
  intro i
  unfold swp upd
  split
  · exact h a
  · split
    · exact h b
    · exact h i
theorem upS_01 {B : N2I} {i : Nat} (h : ∀ i, B i = 0 ∨ B i = 1) : ∀ t j, upS B i t j = 0 ∨ upS B i t j = 1 := by
  intro t
  induction t with
  | zero => exact h
  | succ t ih => exact swp_01 ih _ _
theorem dnS_01 {B : N2I} {i : Nat} (h : ∀ i, B i = 0 ∨ B i = 1) : ∀ t j, dnS B i t j = 0 ∨ dnS B i t j = 1 := by
  intro t
  induction t with
  | zero => exact h
  | succ t ih => exact swp_01 ih _ _
set_option maxHeartbeats 4000000 in
set_option maxRecDepth 100000 in
theorem c_X1_append (l : Launch) (dC : Nat → ClassId) (dI : Nat → Nat → Nat) (cI cZ : ClassId) (kl aK aF aS aB rk aL aT aU : Nat) (sz : Nat) (L : N2I) (T : N2I) (K : N2I) (F : N2I) (S : N2I) (B : N2I) (U : N2I) (n : Nat) (co : Int32) (pl : Int32) (st : Int32) (jo : Int32) (cn : Int32) (ii : Int32) (fi : Int32) (fe : Int32) (k : Int32) (a : Int32) (b : Int32) (hn : n < 60) : Met l yX1_append wsX1_append ({ frames := 0, cells := 0, slots := 0, locals := 0 } : Room) (va_Pc [.ref kl, .int k, .int a, .int b] (pc_ (dC, dI) [(cI, .int), (cZ, .boolean)] [(kl, .inr (1, [.ref aK, .ref aF, .ref aS, .ref aB, .int (nI n), .ref rk])), (aK, .inl (cI, 60, .inl K)), (aF, .inl (cI, 60, .inl F)), (aS, .inl (cI, 60, .inl S)), (aB, .inl (cZ, 60, .inl B)), (rk, .inr (0, [.ref aL, .ref aT, .ref aU, .int co, .int pl, .int st, .int jo, .int cn, .int ii, .int fi, .int fe])), (aL, .inl (cI, 4, .inl L)), (aT, .inl (cI, 4, .inl T)), (aU, .inl (cI, 6, .inl U))] sz)) (va_Qi (fun (r : Int32) (u : Unit) => r = nI n) (fun (u : Unit) (t : State) => va_P (dC, dI) vwCl [(kl, .inr (1, [.ref aK, .ref aF, .ref aS, .ref aB, .int (nI (n + 1)), .ref rk])), (aK, .inl (cI, 60, .inl (upd K n k))), (aF, .inl (cI, 60, .inl (upd F n a))), (aS, .inl (cI, 60, .inl (upd S n b))), (aB, .inl (cZ, 60, .inl (upd B n 0))), (rk, .inr (0, [.ref aL, .ref aT, .ref aU, .int co, .int pl, .int st, .int jo, .int cn, .int ii, .int fi, .int fe])), (aL, .inl (cI, 4, .inl L)), (aT, .inl (cI, 4, .inl T)), (aU, .inl (cI, 6, .inl U))] t.heap ∧ va_D (va_A [(kl, .inr (1, [.ref aK, .ref aF, .ref aS, .ref aB, .int (nI n), .ref rk])), (aK, .inl (cI, 60, .inl K)), (aF, .inl (cI, 60, .inl F)), (aS, .inl (cI, 60, .inl S)), (aB, .inl (cZ, 60, .inl B)), (rk, .inr (0, [.ref aL, .ref aT, .ref aU, .int co, .int pl, .int st, .int jo, .int cn, .int ii, .int fi, .int fe])), (aL, .inl (cI, 4, .inl L)), (aT, .inl (cI, 4, .inl T)), (aU, .inl (cI, 6, .inl U))] sz) [(kl, .inr (1, [.ref aK, .ref aF, .ref aS, .ref aB, .int (nI (n + 1)), .ref rk])), (aK, .inl (cI, 60, .inl (upd K n k))), (aF, .inl (cI, 60, .inl (upd F n a))), (aS, .inl (cI, 60, .inl (upd S n b))), (aB, .inl (cZ, 60, .inl (upd B n 0))), (rk, .inr (0, [.ref aL, .ref aT, .ref aU, .int co, .int pl, .int st, .int jo, .int cn, .int ii, .int fi, .int fe])), (aL, .inl (cI, 4, .inl L)), (aT, .inl (cI, 4, .inl T)), (aU, .inl (cI, 6, .inl U))]) (va_A [(kl, .inr (1, [.ref aK, .ref aF, .ref aS, .ref aB, .int (nI n), .ref rk])), (aK, .inl (cI, 60, .inl K)), (aF, .inl (cI, 60, .inl F)), (aS, .inl (cI, 60, .inl S)), (aB, .inl (cZ, 60, .inl B)), (rk, .inr (0, [.ref aL, .ref aT, .ref aU, .int co, .int pl, .int st, .int jo, .int cn, .int ii, .int fi, .int fe])), (aL, .inl (cI, 4, .inl L)), (aT, .inl (cI, 4, .inl T)), (aU, .inl (cI, 6, .inl U))] sz)) 0 0 (va_A [(kl, .inr (1, [.ref aK, .ref aF, .ref aS, .ref aB, .int (nI n), .ref rk])), (aK, .inl (cI, 60, .inl K)), (aF, .inl (cI, 60, .inl F)), (aS, .inl (cI, 60, .inl S)), (aB, .inl (cZ, 60, .inl B)), (rk, .inr (0, [.ref aL, .ref aT, .ref aU, .int co, .int pl, .int st, .int jo, .int cn, .int ii, .int fi, .int fe])), (aL, .inl (cI, 4, .inl L)), (aT, .inl (cI, 4, .inl T)), (aU, .inl (cI, 6, .inl U))] sz) := by
  refine Met.ofW (cc := cX1_append) (maxL := 4) (ret := (some .int)) (by decide) rfl ?_
  intro p e s m args below meth c s₁ BB hml hv
  obtain ⟨rfl, hsz, hP, hK, hD0⟩ := hv
  have hx := BB.exec
  have hb := BB.bytes
  have hr := BB.returns
  have hts := atoms_spec (ws := wsX1_append) BB.pre
  have hown : s.vm.findClass RX1 = some m.cls := findClass_of_methodNamed BB.named
  have hlocks := BB.notSynchronized
  subst hsz
  have hD := hD0.self (sz := s.heap.size)
  generalize hAe : va_A [(kl, .inr (1, [.ref aK, .ref aF, .ref aS, .ref aB, .int (nI n), .ref rk])), (aK, .inl (cI, 60, .inl K)), (aF, .inl (cI, 60, .inl F)), (aS, .inl (cI, 60, .inl S)), (aB, .inl (cZ, 60, .inl B)), (rk, .inr (0, [.ref aL, .ref aT, .ref aU, .int co, .int pl, .int st, .int jo, .int cn, .int ii, .int fi, .int fe])), (aL, .inl (cI, 4, .inl L)), (aT, .inl (cI, 4, .inl T)), (aU, .inl (cI, 6, .inl U))] s.heap.size = A at hD ⊢
  have hA : ∀ q : Nat, s.heap.size ≤ q → A q := fun q h => by rw [← hAe]; exact Or.inr h
  have hS : va_S A s.heap s.heap [] := va_S.rf
  have hP : va_P (dC, dI) vwCl [(kl, .inr (1, [.ref aK, .ref aF, .ref aS, .ref aB, .int (nI n), .ref rk])), (aK, .inl (cI, 60, .inl K)), (aF, .inl (cI, 60, .inl F)), (aS, .inl (cI, 60, .inl S)), (aB, .inl (cZ, 60, .inl B)), (rk, .inr (0, [.ref aL, .ref aT, .ref aU, .int co, .int pl, .int st, .int jo, .int cn, .int ii, .int fi, .int fe])), (aL, .inl (cI, 4, .inl L)), (aT, .inl (cI, 4, .inl T)), (aU, .inl (cI, 6, .inl U))] s.heap := hP
  have hl := lv_entry ([.ref kl, .int k, .int a, .int b]) (n := 4) (Nat.le_of_ble_eq_true rfl)
  rw [lg_entry_eq]
  generalize (lg_sl ([.ref kl, .int k, .int a, .int b]) ++ List.replicate (4 - (lg_sl ([.ref kl, .int k, .int a, .int b])).length) Slot.unset).toArray = ls at hl ⊢
  have hl : lv_has ls 4 [(0, .ref kl), (1, .int k), (2, .int a), (3, .int b)] := hl
  have k0 := hts (.fieldLink RX1 23 "KnifeLedger" "size" "I") (by decide +kernel)
  have hinX1 : ∀ w ∈ wsX10, w ∈ wsX1_append := by decide +kernel
  have k2 := hts (.fieldLink RX1 9 "KnifeLedger" "kinds" "[I") (by decide +kernel)
  have k3 := hts (.fieldLink RX1 13 "KnifeLedger" "firsts" "[I") (by decide +kernel)
  have k4 := hts (.fieldLink RX1 16 "KnifeLedger" "seconds" "[I") (by decide +kernel)
  have k5 := hts (.fieldLink RX1 19 "KnifeLedger" "struck" "[Z") (by decide +kernel)
  refine lv_aload_n hx hb dX1_append_0 rfl (lv_at hl 0 rfl) ?_
  refine va_get (D := (dC, dI)) (ci := 1) (v := .int (nI n)) (C := RX1) (T := TX1) (N := 6) hx hb hts hinX1 hown hK hP 0 rfl rfl 4 (by decide) k0 (fun _ h9 => h9) rfl dX1_append_1 ?_
  refine lv_bipush (v := 60) hx hb dX1_append_4 (by decide) ?_
  refine lv_icmp_lt (tgt := 19) hx hb dX1_append_6 (by decide) (fun _ => ?_) (fun h9 => absurd (nI_lt hn (by omega)) h9)
  refine lv_aload_n hx hb dX1_append_19 rfl (lv_at hl 0 rfl) ?_
  refine va_get (D := (dC, dI)) (ci := 1) (v := .ref aK) (C := RX1) (T := TX1) (N := 6) hx hb hts hinX1 hown hK hP 0 rfl rfl 0 (by decide) k2 (fun _ h9 => h9) rfl dX1_append_20 ?_
  refine lv_aload_n hx hb dX1_append_23 rfl (lv_at hl 0 rfl) ?_
  refine va_get (D := (dC, dI)) (ci := 1) (v := .int (nI n)) (C := RX1) (T := TX1) (N := 6) hx hb hts hinX1 hown hK hP 0 rfl rfl 4 (by decide) k0 (fun _ h9 => h9) rfl dX1_append_24 ?_
  refine lv_iload_n hx hb dX1_append_27 rfl (lv_at hl 1 rfl) ?_
  refine va_iast hx hb hK hP hD hS 1 0 rfl rfl (vp_in_nI (by omega) (by omega)) dX1_append_28 (fun H_1 locs hP hD hS => ?_)
  have hP : va_P (dC, dI) vwCl [(kl, .inr (1, [.ref aK, .ref aF, .ref aS, .ref aB, .int (nI n), .ref rk])), (aK, .inl (cI, 60, .inl (upd K ((nI n).toNatClampNeg) k))), (aF, .inl (cI, 60, .inl F)), (aS, .inl (cI, 60, .inl S)), (aB, .inl (cZ, 60, .inl B)), (rk, .inr (0, [.ref aL, .ref aT, .ref aU, .int co, .int pl, .int st, .int jo, .int cn, .int ii, .int fi, .int fe])), (aL, .inl (cI, 4, .inl L)), (aT, .inl (cI, 4, .inl T)), (aU, .inl (cI, 6, .inl U))] H_1 := hP
  have hD : va_D A [(kl, .inr (1, [.ref aK, .ref aF, .ref aS, .ref aB, .int (nI n), .ref rk])), (aK, .inl (cI, 60, .inl (upd K ((nI n).toNatClampNeg) k))), (aF, .inl (cI, 60, .inl F)), (aS, .inl (cI, 60, .inl S)), (aB, .inl (cZ, 60, .inl B)), (rk, .inr (0, [.ref aL, .ref aT, .ref aU, .int co, .int pl, .int st, .int jo, .int cn, .int ii, .int fi, .int fe])), (aL, .inl (cI, 4, .inl L)), (aT, .inl (cI, 4, .inl T)), (aU, .inl (cI, 6, .inl U))] := hD
  rw [nI_clamp (by omega)] at hP hD
  have hP : va_P (dC, dI) vwCl [(kl, .inr (1, [.ref aK, .ref aF, .ref aS, .ref aB, .int (nI n), .ref rk])), (aK, .inl (cI, 60, .inl (upd K (n) k))), (aF, .inl (cI, 60, .inl F)), (aS, .inl (cI, 60, .inl S)), (aB, .inl (cZ, 60, .inl B)), (rk, .inr (0, [.ref aL, .ref aT, .ref aU, .int co, .int pl, .int st, .int jo, .int cn, .int ii, .int fi, .int fe])), (aL, .inl (cI, 4, .inl L)), (aT, .inl (cI, 4, .inl T)), (aU, .inl (cI, 6, .inl U))] H_1 := hP
  have hD : va_D A [(kl, .inr (1, [.ref aK, .ref aF, .ref aS, .ref aB, .int (nI n), .ref rk])), (aK, .inl (cI, 60, .inl (upd K (n) k))), (aF, .inl (cI, 60, .inl F)), (aS, .inl (cI, 60, .inl S)), (aB, .inl (cZ, 60, .inl B)), (rk, .inr (0, [.ref aL, .ref aT, .ref aU, .int co, .int pl, .int st, .int jo, .int cn, .int ii, .int fi, .int fe])), (aL, .inl (cI, 4, .inl L)), (aT, .inl (cI, 4, .inl T)), (aU, .inl (cI, 6, .inl U))] := hD
  refine lv_aload_n hx hb dX1_append_29 rfl (lv_at hl 0 rfl) ?_
  refine va_get (D := (dC, dI)) (ci := 1) (v := .ref aF) (C := RX1) (T := TX1) (N := 6) hx hb hts hinX1 hown hK hP 0 rfl rfl 1 (by decide) k3 (fun _ h9 => h9) rfl dX1_append_30 ?_
  refine lv_aload_n hx hb dX1_append_33 rfl (lv_at hl 0 rfl) ?_
  refine va_get (D := (dC, dI)) (ci := 1) (v := .int (nI n)) (C := RX1) (T := TX1) (N := 6) hx hb hts hinX1 hown hK hP 0 rfl rfl 4 (by decide) k0 (fun _ h9 => h9) rfl dX1_append_34 ?_
  refine lv_iload_n hx hb dX1_append_37 rfl (lv_at hl 2 rfl) ?_
  refine va_iast hx hb hK hP hD hS 2 0 rfl rfl (vp_in_nI (by omega) (by omega)) dX1_append_38 (fun H_2 locs hP hD hS => ?_)
  have hP : va_P (dC, dI) vwCl [(kl, .inr (1, [.ref aK, .ref aF, .ref aS, .ref aB, .int (nI n), .ref rk])), (aK, .inl (cI, 60, .inl (upd K (n) k))), (aF, .inl (cI, 60, .inl (upd F ((nI n).toNatClampNeg) a))), (aS, .inl (cI, 60, .inl S)), (aB, .inl (cZ, 60, .inl B)), (rk, .inr (0, [.ref aL, .ref aT, .ref aU, .int co, .int pl, .int st, .int jo, .int cn, .int ii, .int fi, .int fe])), (aL, .inl (cI, 4, .inl L)), (aT, .inl (cI, 4, .inl T)), (aU, .inl (cI, 6, .inl U))] H_2 := hP
  have hD : va_D A [(kl, .inr (1, [.ref aK, .ref aF, .ref aS, .ref aB, .int (nI n), .ref rk])), (aK, .inl (cI, 60, .inl (upd K (n) k))), (aF, .inl (cI, 60, .inl (upd F ((nI n).toNatClampNeg) a))), (aS, .inl (cI, 60, .inl S)), (aB, .inl (cZ, 60, .inl B)), (rk, .inr (0, [.ref aL, .ref aT, .ref aU, .int co, .int pl, .int st, .int jo, .int cn, .int ii, .int fi, .int fe])), (aL, .inl (cI, 4, .inl L)), (aT, .inl (cI, 4, .inl T)), (aU, .inl (cI, 6, .inl U))] := hD
  rw [nI_clamp (by omega)] at hP hD
  have hP : va_P (dC, dI) vwCl [(kl, .inr (1, [.ref aK, .ref aF, .ref aS, .ref aB, .int (nI n), .ref rk])), (aK, .inl (cI, 60, .inl (upd K (n) k))), (aF, .inl (cI, 60, .inl (upd F (n) a))), (aS, .inl (cI, 60, .inl S)), (aB, .inl (cZ, 60, .inl B)), (rk, .inr (0, [.ref aL, .ref aT, .ref aU, .int co, .int pl, .int st, .int jo, .int cn, .int ii, .int fi, .int fe])), (aL, .inl (cI, 4, .inl L)), (aT, .inl (cI, 4, .inl T)), (aU, .inl (cI, 6, .inl U))] H_2 := hP
  have hD : va_D A [(kl, .inr (1, [.ref aK, .ref aF, .ref aS, .ref aB, .int (nI n), .ref rk])), (aK, .inl (cI, 60, .inl (upd K (n) k))), (aF, .inl (cI, 60, .inl (upd F (n) a))), (aS, .inl (cI, 60, .inl S)), (aB, .inl (cZ, 60, .inl B)), (rk, .inr (0, [.ref aL, .ref aT, .ref aU, .int co, .int pl, .int st, .int jo, .int cn, .int ii, .int fi, .int fe])), (aL, .inl (cI, 4, .inl L)), (aT, .inl (cI, 4, .inl T)), (aU, .inl (cI, 6, .inl U))] := hD
  refine lv_aload_n hx hb dX1_append_39 rfl (lv_at hl 0 rfl) ?_
  refine va_get (D := (dC, dI)) (ci := 1) (v := .ref aS) (C := RX1) (T := TX1) (N := 6) hx hb hts hinX1 hown hK hP 0 rfl rfl 2 (by decide) k4 (fun _ h9 => h9) rfl dX1_append_40 ?_
  refine lv_aload_n hx hb dX1_append_43 rfl (lv_at hl 0 rfl) ?_
  refine va_get (D := (dC, dI)) (ci := 1) (v := .int (nI n)) (C := RX1) (T := TX1) (N := 6) hx hb hts hinX1 hown hK hP 0 rfl rfl 4 (by decide) k0 (fun _ h9 => h9) rfl dX1_append_44 ?_
  refine lv_iload_n hx hb dX1_append_47 rfl (lv_at hl 3 rfl) ?_
  refine va_iast hx hb hK hP hD hS 3 0 rfl rfl (vp_in_nI (by omega) (by omega)) dX1_append_48 (fun H_3 locs hP hD hS => ?_)
  have hP : va_P (dC, dI) vwCl [(kl, .inr (1, [.ref aK, .ref aF, .ref aS, .ref aB, .int (nI n), .ref rk])), (aK, .inl (cI, 60, .inl (upd K (n) k))), (aF, .inl (cI, 60, .inl (upd F (n) a))), (aS, .inl (cI, 60, .inl (upd S ((nI n).toNatClampNeg) b))), (aB, .inl (cZ, 60, .inl B)), (rk, .inr (0, [.ref aL, .ref aT, .ref aU, .int co, .int pl, .int st, .int jo, .int cn, .int ii, .int fi, .int fe])), (aL, .inl (cI, 4, .inl L)), (aT, .inl (cI, 4, .inl T)), (aU, .inl (cI, 6, .inl U))] H_3 := hP
  have hD : va_D A [(kl, .inr (1, [.ref aK, .ref aF, .ref aS, .ref aB, .int (nI n), .ref rk])), (aK, .inl (cI, 60, .inl (upd K (n) k))), (aF, .inl (cI, 60, .inl (upd F (n) a))), (aS, .inl (cI, 60, .inl (upd S ((nI n).toNatClampNeg) b))), (aB, .inl (cZ, 60, .inl B)), (rk, .inr (0, [.ref aL, .ref aT, .ref aU, .int co, .int pl, .int st, .int jo, .int cn, .int ii, .int fi, .int fe])), (aL, .inl (cI, 4, .inl L)), (aT, .inl (cI, 4, .inl T)), (aU, .inl (cI, 6, .inl U))] := hD
  rw [nI_clamp (by omega)] at hP hD
  have hP : va_P (dC, dI) vwCl [(kl, .inr (1, [.ref aK, .ref aF, .ref aS, .ref aB, .int (nI n), .ref rk])), (aK, .inl (cI, 60, .inl (upd K (n) k))), (aF, .inl (cI, 60, .inl (upd F (n) a))), (aS, .inl (cI, 60, .inl (upd S (n) b))), (aB, .inl (cZ, 60, .inl B)), (rk, .inr (0, [.ref aL, .ref aT, .ref aU, .int co, .int pl, .int st, .int jo, .int cn, .int ii, .int fi, .int fe])), (aL, .inl (cI, 4, .inl L)), (aT, .inl (cI, 4, .inl T)), (aU, .inl (cI, 6, .inl U))] H_3 := hP
  have hD : va_D A [(kl, .inr (1, [.ref aK, .ref aF, .ref aS, .ref aB, .int (nI n), .ref rk])), (aK, .inl (cI, 60, .inl (upd K (n) k))), (aF, .inl (cI, 60, .inl (upd F (n) a))), (aS, .inl (cI, 60, .inl (upd S (n) b))), (aB, .inl (cZ, 60, .inl B)), (rk, .inr (0, [.ref aL, .ref aT, .ref aU, .int co, .int pl, .int st, .int jo, .int cn, .int ii, .int fi, .int fe])), (aL, .inl (cI, 4, .inl L)), (aT, .inl (cI, 4, .inl T)), (aU, .inl (cI, 6, .inl U))] := hD
  refine lv_aload_n hx hb dX1_append_49 rfl (lv_at hl 0 rfl) ?_
  refine va_get (D := (dC, dI)) (ci := 1) (v := .ref aB) (C := RX1) (T := TX1) (N := 6) hx hb hts hinX1 hown hK hP 0 rfl rfl 3 (by decide) k5 (fun _ h9 => h9) rfl dX1_append_50 ?_
  refine lv_aload_n hx hb dX1_append_53 rfl (lv_at hl 0 rfl) ?_
  refine va_get (D := (dC, dI)) (ci := 1) (v := .int (nI n)) (C := RX1) (T := TX1) (N := 6) hx hb hts hinX1 hown hK hP 0 rfl rfl 4 (by decide) k0 (fun _ h9 => h9) rfl dX1_append_54 ?_
  refine lv_iconst (v := 0) hx hb dX1_append_57 (by decide) ?_
  refine va_zast hx hb hK hP hD hS 4 1 rfl rfl (vp_in_nI (by omega) (by omega)) dX1_append_58 (fun H_4 locs hP hD hS => ?_)
  have hP : va_P (dC, dI) vwCl [(kl, .inr (1, [.ref aK, .ref aF, .ref aS, .ref aB, .int (nI n), .ref rk])), (aK, .inl (cI, 60, .inl (upd K (n) k))), (aF, .inl (cI, 60, .inl (upd F (n) a))), (aS, .inl (cI, 60, .inl (upd S (n) b))), (aB, .inl (cZ, 60, .inl (upd B ((nI n).toNatClampNeg) 0))), (rk, .inr (0, [.ref aL, .ref aT, .ref aU, .int co, .int pl, .int st, .int jo, .int cn, .int ii, .int fi, .int fe])), (aL, .inl (cI, 4, .inl L)), (aT, .inl (cI, 4, .inl T)), (aU, .inl (cI, 6, .inl U))] H_4 := hP
  have hD : va_D A [(kl, .inr (1, [.ref aK, .ref aF, .ref aS, .ref aB, .int (nI n), .ref rk])), (aK, .inl (cI, 60, .inl (upd K (n) k))), (aF, .inl (cI, 60, .inl (upd F (n) a))), (aS, .inl (cI, 60, .inl (upd S (n) b))), (aB, .inl (cZ, 60, .inl (upd B ((nI n).toNatClampNeg) 0))), (rk, .inr (0, [.ref aL, .ref aT, .ref aU, .int co, .int pl, .int st, .int jo, .int cn, .int ii, .int fi, .int fe])), (aL, .inl (cI, 4, .inl L)), (aT, .inl (cI, 4, .inl T)), (aU, .inl (cI, 6, .inl U))] := hD
  rw [nI_clamp (by omega)] at hP hD
  have hP : va_P (dC, dI) vwCl [(kl, .inr (1, [.ref aK, .ref aF, .ref aS, .ref aB, .int (nI n), .ref rk])), (aK, .inl (cI, 60, .inl (upd K (n) k))), (aF, .inl (cI, 60, .inl (upd F (n) a))), (aS, .inl (cI, 60, .inl (upd S (n) b))), (aB, .inl (cZ, 60, .inl (upd B (n) 0))), (rk, .inr (0, [.ref aL, .ref aT, .ref aU, .int co, .int pl, .int st, .int jo, .int cn, .int ii, .int fi, .int fe])), (aL, .inl (cI, 4, .inl L)), (aT, .inl (cI, 4, .inl T)), (aU, .inl (cI, 6, .inl U))] H_4 := hP
  have hD : va_D A [(kl, .inr (1, [.ref aK, .ref aF, .ref aS, .ref aB, .int (nI n), .ref rk])), (aK, .inl (cI, 60, .inl (upd K (n) k))), (aF, .inl (cI, 60, .inl (upd F (n) a))), (aS, .inl (cI, 60, .inl (upd S (n) b))), (aB, .inl (cZ, 60, .inl (upd B (n) 0))), (rk, .inr (0, [.ref aL, .ref aT, .ref aU, .int co, .int pl, .int st, .int jo, .int cn, .int ii, .int fi, .int fe])), (aL, .inl (cI, 4, .inl L)), (aT, .inl (cI, 4, .inl T)), (aU, .inl (cI, 6, .inl U))] := hD
  refine lv_aload_n hx hb dX1_append_59 rfl (lv_at hl 0 rfl) ?_
  refine lv_dup hx hb dX1_append_60 rfl ?_
  refine va_get (D := (dC, dI)) (ci := 1) (v := .int (nI n)) (C := RX1) (T := TX1) (N := 6) hx hb hts hinX1 hown hK hP 0 rfl rfl 4 (by decide) k0 (fun _ h9 => h9) rfl dX1_append_61 ?_
  refine lv_iconst (v := 1) hx hb dX1_append_64 (by decide) ?_
  refine lv_iadd hx hb dX1_append_65 ?_
  rw [nI_1 n]
  refine va_put (D := (dC, dI)) (ci := 1) (v := .int (nI (n + 1))) (ty := .int) (C := RX1) (T := TX1) (N := 6) hx hb hts hinX1 tyX1 tyX1_ok nmX1 hown hK hP hD hS 0 rfl rfl 4 (by decide) k0 (fun _ h9 => h9) rfl (by decide +kernel) rfl rfl (Nat.le_of_ble_eq_true rfl) dX1_append_66 (fun H_5 locs hP hD hS => ?_)
  have hP : va_P (dC, dI) vwCl [(kl, .inr (1, [.ref aK, .ref aF, .ref aS, .ref aB, .int (nI (n + 1)), .ref rk])), (aK, .inl (cI, 60, .inl (upd K (n) k))), (aF, .inl (cI, 60, .inl (upd F (n) a))), (aS, .inl (cI, 60, .inl (upd S (n) b))), (aB, .inl (cZ, 60, .inl (upd B (n) 0))), (rk, .inr (0, [.ref aL, .ref aT, .ref aU, .int co, .int pl, .int st, .int jo, .int cn, .int ii, .int fi, .int fe])), (aL, .inl (cI, 4, .inl L)), (aT, .inl (cI, 4, .inl T)), (aU, .inl (cI, 6, .inl U))] H_5 := hP
  have hD : va_D A [(kl, .inr (1, [.ref aK, .ref aF, .ref aS, .ref aB, .int (nI (n + 1)), .ref rk])), (aK, .inl (cI, 60, .inl (upd K (n) k))), (aF, .inl (cI, 60, .inl (upd F (n) a))), (aS, .inl (cI, 60, .inl (upd S (n) b))), (aB, .inl (cZ, 60, .inl (upd B (n) 0))), (rk, .inr (0, [.ref aL, .ref aT, .ref aU, .int co, .int pl, .int st, .int jo, .int cn, .int ii, .int fi, .int fe])), (aL, .inl (cI, 4, .inl L)), (aT, .inl (cI, 4, .inl T)), (aU, .inl (cI, 6, .inl U))] := hD
  refine lv_aload_n hx hb dX1_append_69 rfl (lv_at hl 0 rfl) ?_
  refine va_get (D := (dC, dI)) (ci := 1) (v := .int (nI (n + 1))) (C := RX1) (T := TX1) (N := 6) hx hb hts hinX1 hown hK hP 0 rfl rfl 4 (by decide) k0 (fun _ h9 => h9) rfl dX1_append_70 ?_
  refine lv_iconst (v := 1) hx hb dX1_append_73 (by decide) ?_
  refine lv_isub hx hb dX1_append_74 ?_
  rw [nI_pred n]
  have hpost : (nI n) = nI n := by
    rfl
  have hP9 := hP.sub (ws' := [(kl, .inr (1, [.ref aK, .ref aF, .ref aS, .ref aB, .int (nI (n + 1)), .ref rk])), (aK, .inl (cI, 60, .inl (upd K (n) k))), (aF, .inl (cI, 60, .inl (upd F (n) a))), (aS, .inl (cI, 60, .inl (upd S (n) b))), (aB, .inl (cZ, 60, .inl (upd B (n) 0))), (rk, .inr (0, [.ref aL, .ref aT, .ref aU, .int co, .int pl, .int st, .int jo, .int cn, .int ii, .int fi, .int fe])), (aL, .inl (cI, 4, .inl L)), (aT, .inl (cI, 4, .inl T)), (aU, .inl (cI, 6, .inl U))]) [0, 1, 2, 3, 4, 5, 6, 7, 8] rfl
  have hD9 := hD.sub (ws' := [(kl, .inr (1, [.ref aK, .ref aF, .ref aS, .ref aB, .int (nI (n + 1)), .ref rk])), (aK, .inl (cI, 60, .inl (upd K (n) k))), (aF, .inl (cI, 60, .inl (upd F (n) a))), (aS, .inl (cI, 60, .inl (upd S (n) b))), (aB, .inl (cZ, 60, .inl (upd B (n) 0))), (rk, .inr (0, [.ref aL, .ref aT, .ref aU, .int co, .int pl, .int st, .int jo, .int cn, .int ii, .int fi, .int fe])), (aL, .inl (cI, 4, .inl L)), (aT, .inl (cI, 4, .inl T)), (aU, .inl (cI, 6, .inl U))]) [0, 1, 2, 3, 4, 5, 6, 7, 8] (by decide) rfl
  exact W.iret (v := nI n) hx hb hr (fun t ht hW => ⟨⟨(nI n), (), rfl, hpost, by rw [ht]; exact hP9, hD9⟩, hS.F ht⟩) hS.2.2 dX1_append_75

set_option maxHeartbeats 4000000 in
set_option maxRecDepth 100000 in
theorem c_X1_swap (l : Launch) (dC : Nat → ClassId) (dI : Nat → Nat → Nat) (cI cZ : ClassId) (kl aK aF aS aB rk aL aT aU : Nat) (sz : Nat) (L : N2I) (T : N2I) (K : N2I) (F : N2I) (S : N2I) (B : N2I) (U : N2I) (n : Nat) (co : Int32) (pl : Int32) (st : Int32) (jo : Int32) (cn : Int32) (ii : Int32) (fi : Int32) (fe : Int32) (i : Nat) (q : Nat) (hi : i < 60) (hq : q < 60) (hB : ∀ i, B i = 0 ∨ B i = 1) : Met l yX1_swap wsX1_swap ({ frames := 1, cells := 0, slots := 0, locals := 23 } : Room) (va_Pc [.ref kl, .int (nI i), .int (nI q)] (pc_ (dC, dI) [(cI, .int), (cZ, .boolean)] [(kl, .inr (1, [.ref aK, .ref aF, .ref aS, .ref aB, .int (nI n), .ref rk])), (aK, .inl (cI, 60, .inl K)), (aF, .inl (cI, 60, .inl F)), (aS, .inl (cI, 60, .inl S)), (aB, .inl (cZ, 60, .inl B)), (rk, .inr (0, [.ref aL, .ref aT, .ref aU, .int co, .int pl, .int st, .int jo, .int cn, .int ii, .int fi, .int fe])), (aL, .inl (cI, 4, .inl L)), (aT, .inl (cI, 4, .inl T)), (aU, .inl (cI, 6, .inl U))] sz)) (va_Qv (fun (u : Unit) => True) (fun (u : Unit) (t : State) => va_P (dC, dI) vwCl [(kl, .inr (1, [.ref aK, .ref aF, .ref aS, .ref aB, .int (nI n), .ref rk])), (aK, .inl (cI, 60, .inl (swp K i q))), (aF, .inl (cI, 60, .inl (swp F i q))), (aS, .inl (cI, 60, .inl (swp S i q))), (aB, .inl (cZ, 60, .inl (swp B i q))), (rk, .inr (0, [.ref aL, .ref aT, .ref aU, .int co, .int pl, .int st, .int jo, .int cn, .int ii, .int fi, .int fe])), (aL, .inl (cI, 4, .inl L)), (aT, .inl (cI, 4, .inl T)), (aU, .inl (cI, 6, .inl U))] t.heap ∧ va_D (va_A [(kl, .inr (1, [.ref aK, .ref aF, .ref aS, .ref aB, .int (nI n), .ref rk])), (aK, .inl (cI, 60, .inl K)), (aF, .inl (cI, 60, .inl F)), (aS, .inl (cI, 60, .inl S)), (aB, .inl (cZ, 60, .inl B)), (rk, .inr (0, [.ref aL, .ref aT, .ref aU, .int co, .int pl, .int st, .int jo, .int cn, .int ii, .int fi, .int fe])), (aL, .inl (cI, 4, .inl L)), (aT, .inl (cI, 4, .inl T)), (aU, .inl (cI, 6, .inl U))] sz) [(kl, .inr (1, [.ref aK, .ref aF, .ref aS, .ref aB, .int (nI n), .ref rk])), (aK, .inl (cI, 60, .inl (swp K i q))), (aF, .inl (cI, 60, .inl (swp F i q))), (aS, .inl (cI, 60, .inl (swp S i q))), (aB, .inl (cZ, 60, .inl (swp B i q))), (rk, .inr (0, [.ref aL, .ref aT, .ref aU, .int co, .int pl, .int st, .int jo, .int cn, .int ii, .int fi, .int fe])), (aL, .inl (cI, 4, .inl L)), (aT, .inl (cI, 4, .inl T)), (aU, .inl (cI, 6, .inl U))]) (va_A [(kl, .inr (1, [.ref aK, .ref aF, .ref aS, .ref aB, .int (nI n), .ref rk])), (aK, .inl (cI, 60, .inl K)), (aF, .inl (cI, 60, .inl F)), (aS, .inl (cI, 60, .inl S)), (aB, .inl (cZ, 60, .inl B)), (rk, .inr (0, [.ref aL, .ref aT, .ref aU, .int co, .int pl, .int st, .int jo, .int cn, .int ii, .int fi, .int fe])), (aL, .inl (cI, 4, .inl L)), (aT, .inl (cI, 4, .inl T)), (aU, .inl (cI, 6, .inl U))] sz)) 0 0 (va_A [(kl, .inr (1, [.ref aK, .ref aF, .ref aS, .ref aB, .int (nI n), .ref rk])), (aK, .inl (cI, 60, .inl K)), (aF, .inl (cI, 60, .inl F)), (aS, .inl (cI, 60, .inl S)), (aB, .inl (cZ, 60, .inl B)), (rk, .inr (0, [.ref aL, .ref aT, .ref aU, .int co, .int pl, .int st, .int jo, .int cn, .int ii, .int fi, .int fe])), (aL, .inl (cI, 4, .inl L)), (aT, .inl (cI, 4, .inl T)), (aU, .inl (cI, 6, .inl U))] sz) := by
  refine Met.ofW (cc := cX1_swap) (maxL := 4) (ret := none) (by decide) rfl ?_
  intro p e s m args below meth c s₁ BB hml hv
  obtain ⟨rfl, hsz, hP, hK, hD0⟩ := hv
  have hx := BB.exec
  have hb := BB.bytes
  have hr := BB.returns
  have hts := atoms_spec (ws := wsX1_swap) BB.pre
  have hown : s.vm.findClass RX1 = some m.cls := findClass_of_methodNamed BB.named
  have hlocks := BB.notSynchronized
  subst hsz
  have hD := hD0.self (sz := s.heap.size)
  generalize hAe : va_A [(kl, .inr (1, [.ref aK, .ref aF, .ref aS, .ref aB, .int (nI n), .ref rk])), (aK, .inl (cI, 60, .inl K)), (aF, .inl (cI, 60, .inl F)), (aS, .inl (cI, 60, .inl S)), (aB, .inl (cZ, 60, .inl B)), (rk, .inr (0, [.ref aL, .ref aT, .ref aU, .int co, .int pl, .int st, .int jo, .int cn, .int ii, .int fi, .int fe])), (aL, .inl (cI, 4, .inl L)), (aT, .inl (cI, 4, .inl T)), (aU, .inl (cI, 6, .inl U))] s.heap.size = A at hD ⊢
  have hA : ∀ q : Nat, s.heap.size ≤ q → A q := fun q h => by rw [← hAe]; exact Or.inr h
  have hS : va_S A s.heap s.heap [] := va_S.rf
  have hP : va_P (dC, dI) vwCl [(kl, .inr (1, [.ref aK, .ref aF, .ref aS, .ref aB, .int (nI n), .ref rk])), (aK, .inl (cI, 60, .inl K)), (aF, .inl (cI, 60, .inl F)), (aS, .inl (cI, 60, .inl S)), (aB, .inl (cZ, 60, .inl B)), (rk, .inr (0, [.ref aL, .ref aT, .ref aU, .int co, .int pl, .int st, .int jo, .int cn, .int ii, .int fi, .int fe])), (aL, .inl (cI, 4, .inl L)), (aT, .inl (cI, 4, .inl T)), (aU, .inl (cI, 6, .inl U))] s.heap := hP
  have hl := lv_entry ([.ref kl, .int (nI i), .int (nI q)]) (n := 4) (Nat.le_of_ble_eq_true rfl)
  rw [lg_entry_eq]
  generalize (lg_sl ([.ref kl, .int (nI i), .int (nI q)]) ++ List.replicate (4 - (lg_sl ([.ref kl, .int (nI i), .int (nI q)])).length) Slot.unset).toArray = ls at hl ⊢
  have hl : lv_has ls 4 [(0, .ref kl), (1, .int (nI i)), (2, .int (nI q))] := hl
  have k0 := hts (.fieldLink RX1 9 "KnifeLedger" "kinds" "[I") (by decide +kernel)
  have hinX1 : ∀ w ∈ wsX10, w ∈ wsX1_swap := by decide +kernel
  have k2 := hts (.fieldLink RX1 13 "KnifeLedger" "firsts" "[I") (by decide +kernel)
  have k3 := hts (.fieldLink RX1 16 "KnifeLedger" "seconds" "[I") (by decide +kernel)
  have k4 := hts (.fieldLink RX1 19 "KnifeLedger" "struck" "[Z") (by decide +kernel)
  refine lv_aload_n hx hb dX1_swap_0 rfl (lv_at hl 0 rfl) ?_
  refine va_get (D := (dC, dI)) (ci := 1) (v := .ref aK) (C := RX1) (T := TX1) (N := 6) hx hb hts hinX1 hown hK hP 0 rfl rfl 0 (by decide) k0 (fun _ h9 => h9) rfl dX1_swap_1 ?_
  refine lv_iload_n hx hb dX1_swap_4 rfl (lv_at hl 1 rfl) ?_
  refine lv_iload_n hx hb dX1_swap_5 rfl (lv_at hl 2 rfl) ?_
  have hPc := hP.sub (ws' := [(aK, .inl (cI, 60, .inl K))]) [1] rfl
  have hDc := hD.sub (ws' := [(aK, .inl (cI, 60, .inl K))]) [1] (by decide) rfl
  have hKc := hK.sub (tys' := [(cI, .int)]) [0] rfl
  have hFc := va_free (wc := [(aK, .inl (cI, 60, .inl K))]) hD hS hA [1] rfl
  refine va_callv (va_runS (As := [.ref aK, .int (nI i), .int (nI q)]) (rest := []) ⟨hx, hb, hml, hown, hts⟩ (c_X1_swapNumbers l dC dI cI aK s.heap.size K i q (by assumption) (by assumption)) (va_cwS 3 hts gX1_swap_X1_swapNumbers rfl rfl rfl (by decide +kernel) ⟨Nat.le_of_ble_eq_true rfl, Nat.le_of_ble_eq_true rfl⟩) (pc_S hKc hPc hDc) rfl rfl hl.1 rfl (lv_room (Nat.le_of_ble_eq_true rfl)) dX1_swap_6 ⟨Nat.le_of_ble_eq_true rfl, Nat.le_of_ble_eq_true rfl⟩) hS (fun q _ h => hFc q h) hFc (fun u t H_1 locs ht hvm hw hB hz1 hk1 hS => ?_)
  obtain ⟨f1_1, rfl⟩ : ∃ z, z = u := ⟨_, rfl⟩
  try dsimp only at hw hB
  have hw_1 := hw
  replace hw_1 := hw_1.symm
  subst hw_1
  obtain ⟨hP1, hD1⟩ := hB
  rw [ht] at hP1
  obtain ⟨hP, hD⟩ := va_join (wr := [(kl, .inr (1, [.ref aK, .ref aF, .ref aS, .ref aB, .int (nI n), .ref rk])), (aF, .inl (cI, 60, .inl F)), (aS, .inl (cI, 60, .inl S)), (aB, .inl (cZ, 60, .inl B)), (rk, .inr (0, [.ref aL, .ref aT, .ref aU, .int co, .int pl, .int st, .int jo, .int cn, .int ii, .int fi, .int fe])), (aL, .inl (cI, 4, .inl L)), (aT, .inl (cI, 4, .inl T)), (aU, .inl (cI, 6, .inl U))]) (w1 := [(aK, .inl (cI, 60, .inl (swp K i q)))]) hP hD [1] [0, 2, 3, 4, 5, 6, 7, 8] rfl rfl (by decide) (by decide) hk1 hFc hP1 hD1
  have hP : va_P (dC, dI) vwCl [(kl, .inr (1, [.ref aK, .ref aF, .ref aS, .ref aB, .int (nI n), .ref rk])), (aF, .inl (cI, 60, .inl F)), (aS, .inl (cI, 60, .inl S)), (aB, .inl (cZ, 60, .inl B)), (rk, .inr (0, [.ref aL, .ref aT, .ref aU, .int co, .int pl, .int st, .int jo, .int cn, .int ii, .int fi, .int fe])), (aL, .inl (cI, 4, .inl L)), (aT, .inl (cI, 4, .inl T)), (aU, .inl (cI, 6, .inl U)), (aK, .inl (cI, 60, .inl (swp K i q)))] H_1 := hP
  have hD : va_D A [(kl, .inr (1, [.ref aK, .ref aF, .ref aS, .ref aB, .int (nI n), .ref rk])), (aF, .inl (cI, 60, .inl F)), (aS, .inl (cI, 60, .inl S)), (aB, .inl (cZ, 60, .inl B)), (rk, .inr (0, [.ref aL, .ref aT, .ref aU, .int co, .int pl, .int st, .int jo, .int cn, .int ii, .int fi, .int fe])), (aL, .inl (cI, 4, .inl L)), (aT, .inl (cI, 4, .inl T)), (aU, .inl (cI, 6, .inl U)), (aK, .inl (cI, 60, .inl (swp K i q)))] := hD
  have hP := hP.sub (ws' := [(kl, .inr (1, [.ref aK, .ref aF, .ref aS, .ref aB, .int (nI n), .ref rk])), (aK, .inl (cI, 60, .inl (swp K i q))), (aF, .inl (cI, 60, .inl F)), (aS, .inl (cI, 60, .inl S)), (aB, .inl (cZ, 60, .inl B)), (rk, .inr (0, [.ref aL, .ref aT, .ref aU, .int co, .int pl, .int st, .int jo, .int cn, .int ii, .int fi, .int fe])), (aL, .inl (cI, 4, .inl L)), (aT, .inl (cI, 4, .inl T)), (aU, .inl (cI, 6, .inl U))]) [0, 8, 1, 2, 3, 4, 5, 6, 7] rfl
  have hD := hD.sub (ws' := [(kl, .inr (1, [.ref aK, .ref aF, .ref aS, .ref aB, .int (nI n), .ref rk])), (aK, .inl (cI, 60, .inl (swp K i q))), (aF, .inl (cI, 60, .inl F)), (aS, .inl (cI, 60, .inl S)), (aB, .inl (cZ, 60, .inl B)), (rk, .inr (0, [.ref aL, .ref aT, .ref aU, .int co, .int pl, .int st, .int jo, .int cn, .int ii, .int fi, .int fe])), (aL, .inl (cI, 4, .inl L)), (aT, .inl (cI, 4, .inl T)), (aU, .inl (cI, 6, .inl U))]) [0, 8, 1, 2, 3, 4, 5, 6, 7] (by decide) rfl
  refine lv_aload_n hx hb dX1_swap_9 rfl (lv_at hl 0 rfl) ?_
  refine va_get (D := (dC, dI)) (ci := 1) (v := .ref aF) (C := RX1) (T := TX1) (N := 6) hx hb hts hinX1 hown hK hP 0 rfl rfl 1 (by decide) k2 (fun _ h9 => h9) rfl dX1_swap_10 ?_
  refine lv_iload_n hx hb dX1_swap_13 rfl (lv_at hl 1 rfl) ?_
  refine lv_iload_n hx hb dX1_swap_14 rfl (lv_at hl 2 rfl) ?_
  have hPc := hP.sub (ws' := [(aF, .inl (cI, 60, .inl F))]) [2] rfl
  have hDc := hD.sub (ws' := [(aF, .inl (cI, 60, .inl F))]) [2] (by decide) rfl
  have hKc := hK.sub (tys' := [(cI, .int)]) [0] rfl
  have hFc := va_free (wc := [(aF, .inl (cI, 60, .inl F))]) hD hS hA [2] rfl
  refine va_callv (va_runS (As := [.ref aF, .int (nI i), .int (nI q)]) (rest := []) ⟨hx, hb, hml, hown, hts⟩ (c_X1_swapNumbers l dC dI cI aF H_1.size F i q (by assumption) (by assumption)) (va_cwS 3 hts gX1_swap_X1_swapNumbers rfl rfl rfl (by decide +kernel) ⟨Nat.le_of_ble_eq_true rfl, Nat.le_of_ble_eq_true rfl⟩) (pc_S hKc hPc hDc) rfl rfl hl.1 rfl (lv_room (Nat.le_of_ble_eq_true rfl)) dX1_swap_15 ⟨Nat.le_of_ble_eq_true rfl, Nat.le_of_ble_eq_true rfl⟩) hS (fun q _ h => hFc q h) hFc (fun u t H_2 locs ht hvm hw hB hz1 hk1 hS => ?_)
  obtain ⟨f1_2, rfl⟩ : ∃ z, z = u := ⟨_, rfl⟩
  try dsimp only at hw hB
  have hw_2 := hw
  replace hw_2 := hw_2.symm
  subst hw_2
  obtain ⟨hP1, hD1⟩ := hB
  rw [ht] at hP1
  obtain ⟨hP, hD⟩ := va_join (wr := [(kl, .inr (1, [.ref aK, .ref aF, .ref aS, .ref aB, .int (nI n), .ref rk])), (aK, .inl (cI, 60, .inl (swp K i q))), (aS, .inl (cI, 60, .inl S)), (aB, .inl (cZ, 60, .inl B)), (rk, .inr (0, [.ref aL, .ref aT, .ref aU, .int co, .int pl, .int st, .int jo, .int cn, .int ii, .int fi, .int fe])), (aL, .inl (cI, 4, .inl L)), (aT, .inl (cI, 4, .inl T)), (aU, .inl (cI, 6, .inl U))]) (w1 := [(aF, .inl (cI, 60, .inl (swp F i q)))]) hP hD [2] [0, 1, 3, 4, 5, 6, 7, 8] rfl rfl (by decide) (by decide) hk1 hFc hP1 hD1
  have hP : va_P (dC, dI) vwCl [(kl, .inr (1, [.ref aK, .ref aF, .ref aS, .ref aB, .int (nI n), .ref rk])), (aK, .inl (cI, 60, .inl (swp K i q))), (aS, .inl (cI, 60, .inl S)), (aB, .inl (cZ, 60, .inl B)), (rk, .inr (0, [.ref aL, .ref aT, .ref aU, .int co, .int pl, .int st, .int jo, .int cn, .int ii, .int fi, .int fe])), (aL, .inl (cI, 4, .inl L)), (aT, .inl (cI, 4, .inl T)), (aU, .inl (cI, 6, .inl U)), (aF, .inl (cI, 60, .inl (swp F i q)))] H_2 := hP
  have hD : va_D A [(kl, .inr (1, [.ref aK, .ref aF, .ref aS, .ref aB, .int (nI n), .ref rk])), (aK, .inl (cI, 60, .inl (swp K i q))), (aS, .inl (cI, 60, .inl S)), (aB, .inl (cZ, 60, .inl B)), (rk, .inr (0, [.ref aL, .ref aT, .ref aU, .int co, .int pl, .int st, .int jo, .int cn, .int ii, .int fi, .int fe])), (aL, .inl (cI, 4, .inl L)), (aT, .inl (cI, 4, .inl T)), (aU, .inl (cI, 6, .inl U)), (aF, .inl (cI, 60, .inl (swp F i q)))] := hD
  have hP := hP.sub (ws' := [(kl, .inr (1, [.ref aK, .ref aF, .ref aS, .ref aB, .int (nI n), .ref rk])), (aK, .inl (cI, 60, .inl (swp K i q))), (aF, .inl (cI, 60, .inl (swp F i q))), (aS, .inl (cI, 60, .inl S)), (aB, .inl (cZ, 60, .inl B)), (rk, .inr (0, [.ref aL, .ref aT, .ref aU, .int co, .int pl, .int st, .int jo, .int cn, .int ii, .int fi, .int fe])), (aL, .inl (cI, 4, .inl L)), (aT, .inl (cI, 4, .inl T)), (aU, .inl (cI, 6, .inl U))]) [0, 1, 8, 2, 3, 4, 5, 6, 7] rfl
  have hD := hD.sub (ws' := [(kl, .inr (1, [.ref aK, .ref aF, .ref aS, .ref aB, .int (nI n), .ref rk])), (aK, .inl (cI, 60, .inl (swp K i q))), (aF, .inl (cI, 60, .inl (swp F i q))), (aS, .inl (cI, 60, .inl S)), (aB, .inl (cZ, 60, .inl B)), (rk, .inr (0, [.ref aL, .ref aT, .ref aU, .int co, .int pl, .int st, .int jo, .int cn, .int ii, .int fi, .int fe])), (aL, .inl (cI, 4, .inl L)), (aT, .inl (cI, 4, .inl T)), (aU, .inl (cI, 6, .inl U))]) [0, 1, 8, 2, 3, 4, 5, 6, 7] (by decide) rfl
  refine lv_aload_n hx hb dX1_swap_18 rfl (lv_at hl 0 rfl) ?_
  refine va_get (D := (dC, dI)) (ci := 1) (v := .ref aS) (C := RX1) (T := TX1) (N := 6) hx hb hts hinX1 hown hK hP 0 rfl rfl 2 (by decide) k3 (fun _ h9 => h9) rfl dX1_swap_19 ?_
  refine lv_iload_n hx hb dX1_swap_22 rfl (lv_at hl 1 rfl) ?_
  refine lv_iload_n hx hb dX1_swap_23 rfl (lv_at hl 2 rfl) ?_
  have hPc := hP.sub (ws' := [(aS, .inl (cI, 60, .inl S))]) [3] rfl
  have hDc := hD.sub (ws' := [(aS, .inl (cI, 60, .inl S))]) [3] (by decide) rfl
  have hKc := hK.sub (tys' := [(cI, .int)]) [0] rfl
  have hFc := va_free (wc := [(aS, .inl (cI, 60, .inl S))]) hD hS hA [3] rfl
  refine va_callv (va_runS (As := [.ref aS, .int (nI i), .int (nI q)]) (rest := []) ⟨hx, hb, hml, hown, hts⟩ (c_X1_swapNumbers l dC dI cI aS H_2.size S i q (by assumption) (by assumption)) (va_cwS 3 hts gX1_swap_X1_swapNumbers rfl rfl rfl (by decide +kernel) ⟨Nat.le_of_ble_eq_true rfl, Nat.le_of_ble_eq_true rfl⟩) (pc_S hKc hPc hDc) rfl rfl hl.1 rfl (lv_room (Nat.le_of_ble_eq_true rfl)) dX1_swap_24 ⟨Nat.le_of_ble_eq_true rfl, Nat.le_of_ble_eq_true rfl⟩) hS (fun q _ h => hFc q h) hFc (fun u t H_3 locs ht hvm hw hB hz1 hk1 hS => ?_)
  obtain ⟨f1_3, rfl⟩ : ∃ z, z = u := ⟨_, rfl⟩
  try dsimp only at hw hB
  have hw_3 := hw
  replace hw_3 := hw_3.symm
  subst hw_3
  obtain ⟨hP1, hD1⟩ := hB
  rw [ht] at hP1
  obtain ⟨hP, hD⟩ := va_join (wr := [(kl, .inr (1, [.ref aK, .ref aF, .ref aS, .ref aB, .int (nI n), .ref rk])), (aK, .inl (cI, 60, .inl (swp K i q))), (aF, .inl (cI, 60, .inl (swp F i q))), (aB, .inl (cZ, 60, .inl B)), (rk, .inr (0, [.ref aL, .ref aT, .ref aU, .int co, .int pl, .int st, .int jo, .int cn, .int ii, .int fi, .int fe])), (aL, .inl (cI, 4, .inl L)), (aT, .inl (cI, 4, .inl T)), (aU, .inl (cI, 6, .inl U))]) (w1 := [(aS, .inl (cI, 60, .inl (swp S i q)))]) hP hD [3] [0, 1, 2, 4, 5, 6, 7, 8] rfl rfl (by decide) (by decide) hk1 hFc hP1 hD1
  have hP : va_P (dC, dI) vwCl [(kl, .inr (1, [.ref aK, .ref aF, .ref aS, .ref aB, .int (nI n), .ref rk])), (aK, .inl (cI, 60, .inl (swp K i q))), (aF, .inl (cI, 60, .inl (swp F i q))), (aB, .inl (cZ, 60, .inl B)), (rk, .inr (0, [.ref aL, .ref aT, .ref aU, .int co, .int pl, .int st, .int jo, .int cn, .int ii, .int fi, .int fe])), (aL, .inl (cI, 4, .inl L)), (aT, .inl (cI, 4, .inl T)), (aU, .inl (cI, 6, .inl U)), (aS, .inl (cI, 60, .inl (swp S i q)))] H_3 := hP
  have hD : va_D A [(kl, .inr (1, [.ref aK, .ref aF, .ref aS, .ref aB, .int (nI n), .ref rk])), (aK, .inl (cI, 60, .inl (swp K i q))), (aF, .inl (cI, 60, .inl (swp F i q))), (aB, .inl (cZ, 60, .inl B)), (rk, .inr (0, [.ref aL, .ref aT, .ref aU, .int co, .int pl, .int st, .int jo, .int cn, .int ii, .int fi, .int fe])), (aL, .inl (cI, 4, .inl L)), (aT, .inl (cI, 4, .inl T)), (aU, .inl (cI, 6, .inl U)), (aS, .inl (cI, 60, .inl (swp S i q)))] := hD
  have hP := hP.sub (ws' := [(kl, .inr (1, [.ref aK, .ref aF, .ref aS, .ref aB, .int (nI n), .ref rk])), (aK, .inl (cI, 60, .inl (swp K i q))), (aF, .inl (cI, 60, .inl (swp F i q))), (aS, .inl (cI, 60, .inl (swp S i q))), (aB, .inl (cZ, 60, .inl B)), (rk, .inr (0, [.ref aL, .ref aT, .ref aU, .int co, .int pl, .int st, .int jo, .int cn, .int ii, .int fi, .int fe])), (aL, .inl (cI, 4, .inl L)), (aT, .inl (cI, 4, .inl T)), (aU, .inl (cI, 6, .inl U))]) [0, 1, 2, 8, 3, 4, 5, 6, 7] rfl
  have hD := hD.sub (ws' := [(kl, .inr (1, [.ref aK, .ref aF, .ref aS, .ref aB, .int (nI n), .ref rk])), (aK, .inl (cI, 60, .inl (swp K i q))), (aF, .inl (cI, 60, .inl (swp F i q))), (aS, .inl (cI, 60, .inl (swp S i q))), (aB, .inl (cZ, 60, .inl B)), (rk, .inr (0, [.ref aL, .ref aT, .ref aU, .int co, .int pl, .int st, .int jo, .int cn, .int ii, .int fi, .int fe])), (aL, .inl (cI, 4, .inl L)), (aT, .inl (cI, 4, .inl T)), (aU, .inl (cI, 6, .inl U))]) [0, 1, 2, 8, 3, 4, 5, 6, 7] (by decide) rfl
  refine lv_aload_n hx hb dX1_swap_27 rfl (lv_at hl 0 rfl) ?_
  refine va_get (D := (dC, dI)) (ci := 1) (v := .ref aB) (C := RX1) (T := TX1) (N := 6) hx hb hts hinX1 hown hK hP 0 rfl rfl 3 (by decide) k4 (fun _ h9 => h9) rfl dX1_swap_28 ?_
  refine lv_iload_n hx hb dX1_swap_31 rfl (lv_at hl 1 rfl) ?_
  refine va_zald hx hb hK hP 4 1 rfl rfl (vp_in_nI (by omega) (by omega)) dX1_swap_32 ?_
  rw [nI_clamp (n := i) (by omega)]
  refine lv_istore_n (lv' := [(3, .int (B i)), (0, .ref kl), (1, .int (nI i)), (2, .int (nI q))]) hx hb dX1_swap_33 rfl hl (by decide) rfl (fun ls hl => ?_)
  refine lv_aload_n hx hb dX1_swap_34 rfl (lv_at hl 1 rfl) ?_
  refine va_get (D := (dC, dI)) (ci := 1) (v := .ref aB) (C := RX1) (T := TX1) (N := 6) hx hb hts hinX1 hown hK hP 0 rfl rfl 3 (by decide) k4 (fun _ h9 => h9) rfl dX1_swap_35 ?_
  refine lv_iload_n hx hb dX1_swap_38 rfl (lv_at hl 2 rfl) ?_
  refine lv_aload_n hx hb dX1_swap_39 rfl (lv_at hl 1 rfl) ?_
  refine va_get (D := (dC, dI)) (ci := 1) (v := .ref aB) (C := RX1) (T := TX1) (N := 6) hx hb hts hinX1 hown hK hP 0 rfl rfl 3 (by decide) k4 (fun _ h9 => h9) rfl dX1_swap_40 ?_
  refine lv_iload_n hx hb dX1_swap_43 rfl (lv_at hl 3 rfl) ?_
  refine va_zald hx hb hK hP 4 1 rfl rfl (vp_in_nI (by omega) (by omega)) dX1_swap_44 ?_
  rw [nI_clamp (n := q) (by omega)]
  refine va_zast hx hb hK hP hD hS 4 1 rfl rfl (vp_in_nI (by omega) (by omega)) dX1_swap_45 (fun H_5 locs hP hD hS => ?_)
  have hP : va_P (dC, dI) vwCl [(kl, .inr (1, [.ref aK, .ref aF, .ref aS, .ref aB, .int (nI n), .ref rk])), (aK, .inl (cI, 60, .inl (swp K i q))), (aF, .inl (cI, 60, .inl (swp F i q))), (aS, .inl (cI, 60, .inl (swp S i q))), (aB, .inl (cZ, 60, .inl (upd B ((nI i).toNatClampNeg) (vp_nar .boolean (B q))))), (rk, .inr (0, [.ref aL, .ref aT, .ref aU, .int co, .int pl, .int st, .int jo, .int cn, .int ii, .int fi, .int fe])), (aL, .inl (cI, 4, .inl L)), (aT, .inl (cI, 4, .inl T)), (aU, .inl (cI, 6, .inl U))] H_5 := hP
  have hD : va_D A [(kl, .inr (1, [.ref aK, .ref aF, .ref aS, .ref aB, .int (nI n), .ref rk])), (aK, .inl (cI, 60, .inl (swp K i q))), (aF, .inl (cI, 60, .inl (swp F i q))), (aS, .inl (cI, 60, .inl (swp S i q))), (aB, .inl (cZ, 60, .inl (upd B ((nI i).toNatClampNeg) (vp_nar .boolean (B q))))), (rk, .inr (0, [.ref aL, .ref aT, .ref aU, .int co, .int pl, .int st, .int jo, .int cn, .int ii, .int fi, .int fe])), (aL, .inl (cI, 4, .inl L)), (aT, .inl (cI, 4, .inl T)), (aU, .inl (cI, 6, .inl U))] := hD
  rw [nI_clamp (by omega)] at hP hD
  have hP : va_P (dC, dI) vwCl [(kl, .inr (1, [.ref aK, .ref aF, .ref aS, .ref aB, .int (nI n), .ref rk])), (aK, .inl (cI, 60, .inl (swp K i q))), (aF, .inl (cI, 60, .inl (swp F i q))), (aS, .inl (cI, 60, .inl (swp S i q))), (aB, .inl (cZ, 60, .inl (upd B (i) (vp_nar .boolean (B q))))), (rk, .inr (0, [.ref aL, .ref aT, .ref aU, .int co, .int pl, .int st, .int jo, .int cn, .int ii, .int fi, .int fe])), (aL, .inl (cI, 4, .inl L)), (aT, .inl (cI, 4, .inl T)), (aU, .inl (cI, 6, .inl U))] H_5 := hP
  have hD : va_D A [(kl, .inr (1, [.ref aK, .ref aF, .ref aS, .ref aB, .int (nI n), .ref rk])), (aK, .inl (cI, 60, .inl (swp K i q))), (aF, .inl (cI, 60, .inl (swp F i q))), (aS, .inl (cI, 60, .inl (swp S i q))), (aB, .inl (cZ, 60, .inl (upd B (i) (vp_nar .boolean (B q))))), (rk, .inr (0, [.ref aL, .ref aT, .ref aU, .int co, .int pl, .int st, .int jo, .int cn, .int ii, .int fi, .int fe])), (aL, .inl (cI, 4, .inl L)), (aT, .inl (cI, 4, .inl T)), (aU, .inl (cI, 6, .inl U))] := hD
  rw [vp_nb (hB _)] at hP hD
  have hP : va_P (dC, dI) vwCl [(kl, .inr (1, [.ref aK, .ref aF, .ref aS, .ref aB, .int (nI n), .ref rk])), (aK, .inl (cI, 60, .inl (swp K i q))), (aF, .inl (cI, 60, .inl (swp F i q))), (aS, .inl (cI, 60, .inl (swp S i q))), (aB, .inl (cZ, 60, .inl (upd B (i) (B q)))), (rk, .inr (0, [.ref aL, .ref aT, .ref aU, .int co, .int pl, .int st, .int jo, .int cn, .int ii, .int fi, .int fe])), (aL, .inl (cI, 4, .inl L)), (aT, .inl (cI, 4, .inl T)), (aU, .inl (cI, 6, .inl U))] H_5 := hP
  have hD : va_D A [(kl, .inr (1, [.ref aK, .ref aF, .ref aS, .ref aB, .int (nI n), .ref rk])), (aK, .inl (cI, 60, .inl (swp K i q))), (aF, .inl (cI, 60, .inl (swp F i q))), (aS, .inl (cI, 60, .inl (swp S i q))), (aB, .inl (cZ, 60, .inl (upd B (i) (B q)))), (rk, .inr (0, [.ref aL, .ref aT, .ref aU, .int co, .int pl, .int st, .int jo, .int cn, .int ii, .int fi, .int fe])), (aL, .inl (cI, 4, .inl L)), (aT, .inl (cI, 4, .inl T)), (aU, .inl (cI, 6, .inl U))] := hD
  refine lv_aload_n hx hb dX1_swap_46 rfl (lv_at hl 1 rfl) ?_
  refine va_get (D := (dC, dI)) (ci := 1) (v := .ref aB) (C := RX1) (T := TX1) (N := 6) hx hb hts hinX1 hown hK hP 0 rfl rfl 3 (by decide) k4 (fun _ h9 => h9) rfl dX1_swap_47 ?_
  refine lv_iload_n hx hb dX1_swap_50 rfl (lv_at hl 3 rfl) ?_
  refine lv_iload_n hx hb dX1_swap_51 rfl (lv_at hl 0 rfl) ?_
  refine va_zast hx hb hK hP hD hS 4 1 rfl rfl (vp_in_nI (by omega) (by omega)) dX1_swap_52 (fun H_7 locs hP hD hS => ?_)
  have hP : va_P (dC, dI) vwCl [(kl, .inr (1, [.ref aK, .ref aF, .ref aS, .ref aB, .int (nI n), .ref rk])), (aK, .inl (cI, 60, .inl (swp K i q))), (aF, .inl (cI, 60, .inl (swp F i q))), (aS, .inl (cI, 60, .inl (swp S i q))), (aB, .inl (cZ, 60, .inl (upd (upd B (i) (B q)) ((nI q).toNatClampNeg) (vp_nar .boolean (B i))))), (rk, .inr (0, [.ref aL, .ref aT, .ref aU, .int co, .int pl, .int st, .int jo, .int cn, .int ii, .int fi, .int fe])), (aL, .inl (cI, 4, .inl L)), (aT, .inl (cI, 4, .inl T)), (aU, .inl (cI, 6, .inl U))] H_7 := hP
  have hD : va_D A [(kl, .inr (1, [.ref aK, .ref aF, .ref aS, .ref aB, .int (nI n), .ref rk])), (aK, .inl (cI, 60, .inl (swp K i q))), (aF, .inl (cI, 60, .inl (swp F i q))), (aS, .inl (cI, 60, .inl (swp S i q))), (aB, .inl (cZ, 60, .inl (upd (upd B (i) (B q)) ((nI q).toNatClampNeg) (vp_nar .boolean (B i))))), (rk, .inr (0, [.ref aL, .ref aT, .ref aU, .int co, .int pl, .int st, .int jo, .int cn, .int ii, .int fi, .int fe])), (aL, .inl (cI, 4, .inl L)), (aT, .inl (cI, 4, .inl T)), (aU, .inl (cI, 6, .inl U))] := hD
  rw [nI_clamp (by omega)] at hP hD
  have hP : va_P (dC, dI) vwCl [(kl, .inr (1, [.ref aK, .ref aF, .ref aS, .ref aB, .int (nI n), .ref rk])), (aK, .inl (cI, 60, .inl (swp K i q))), (aF, .inl (cI, 60, .inl (swp F i q))), (aS, .inl (cI, 60, .inl (swp S i q))), (aB, .inl (cZ, 60, .inl (upd (upd B (i) (B q)) (q) (vp_nar .boolean (B i))))), (rk, .inr (0, [.ref aL, .ref aT, .ref aU, .int co, .int pl, .int st, .int jo, .int cn, .int ii, .int fi, .int fe])), (aL, .inl (cI, 4, .inl L)), (aT, .inl (cI, 4, .inl T)), (aU, .inl (cI, 6, .inl U))] H_7 := hP
  have hD : va_D A [(kl, .inr (1, [.ref aK, .ref aF, .ref aS, .ref aB, .int (nI n), .ref rk])), (aK, .inl (cI, 60, .inl (swp K i q))), (aF, .inl (cI, 60, .inl (swp F i q))), (aS, .inl (cI, 60, .inl (swp S i q))), (aB, .inl (cZ, 60, .inl (upd (upd B (i) (B q)) (q) (vp_nar .boolean (B i))))), (rk, .inr (0, [.ref aL, .ref aT, .ref aU, .int co, .int pl, .int st, .int jo, .int cn, .int ii, .int fi, .int fe])), (aL, .inl (cI, 4, .inl L)), (aT, .inl (cI, 4, .inl T)), (aU, .inl (cI, 6, .inl U))] := hD
  rw [vp_nb (hB _)] at hP hD
  have hP : va_P (dC, dI) vwCl [(kl, .inr (1, [.ref aK, .ref aF, .ref aS, .ref aB, .int (nI n), .ref rk])), (aK, .inl (cI, 60, .inl (swp K i q))), (aF, .inl (cI, 60, .inl (swp F i q))), (aS, .inl (cI, 60, .inl (swp S i q))), (aB, .inl (cZ, 60, .inl (upd (upd B (i) (B q)) (q) (B i)))), (rk, .inr (0, [.ref aL, .ref aT, .ref aU, .int co, .int pl, .int st, .int jo, .int cn, .int ii, .int fi, .int fe])), (aL, .inl (cI, 4, .inl L)), (aT, .inl (cI, 4, .inl T)), (aU, .inl (cI, 6, .inl U))] H_7 := hP
  have hD : va_D A [(kl, .inr (1, [.ref aK, .ref aF, .ref aS, .ref aB, .int (nI n), .ref rk])), (aK, .inl (cI, 60, .inl (swp K i q))), (aF, .inl (cI, 60, .inl (swp F i q))), (aS, .inl (cI, 60, .inl (swp S i q))), (aB, .inl (cZ, 60, .inl (upd (upd B (i) (B q)) (q) (B i)))), (rk, .inr (0, [.ref aL, .ref aT, .ref aU, .int co, .int pl, .int st, .int jo, .int cn, .int ii, .int fi, .int fe])), (aL, .inl (cI, 4, .inl L)), (aT, .inl (cI, 4, .inl T)), (aU, .inl (cI, 6, .inl U))] := hD
  have hpost : True := by
    trivial
  have hP9 := hP.sub (ws' := [(kl, .inr (1, [.ref aK, .ref aF, .ref aS, .ref aB, .int (nI n), .ref rk])), (aK, .inl (cI, 60, .inl (swp K i q))), (aF, .inl (cI, 60, .inl (swp F i q))), (aS, .inl (cI, 60, .inl (swp S i q))), (aB, .inl (cZ, 60, .inl (upd (upd B (i) (B q)) (q) (B i)))), (rk, .inr (0, [.ref aL, .ref aT, .ref aU, .int co, .int pl, .int st, .int jo, .int cn, .int ii, .int fi, .int fe])), (aL, .inl (cI, 4, .inl L)), (aT, .inl (cI, 4, .inl T)), (aU, .inl (cI, 6, .inl U))]) [0, 1, 2, 3, 4, 5, 6, 7, 8] rfl
  have hD9 := hD.sub (ws' := [(kl, .inr (1, [.ref aK, .ref aF, .ref aS, .ref aB, .int (nI n), .ref rk])), (aK, .inl (cI, 60, .inl (swp K i q))), (aF, .inl (cI, 60, .inl (swp F i q))), (aS, .inl (cI, 60, .inl (swp S i q))), (aB, .inl (cZ, 60, .inl (upd (upd B (i) (B q)) (q) (B i)))), (rk, .inr (0, [.ref aL, .ref aT, .ref aU, .int co, .int pl, .int st, .int jo, .int cn, .int ii, .int fi, .int fe])), (aL, .inl (cI, 4, .inl L)), (aT, .inl (cI, 4, .inl T)), (aU, .inl (cI, 6, .inl U))]) [0, 1, 2, 3, 4, 5, 6, 7, 8] (by decide) rfl
  exact W.vret hx hb hr (fun t ht hW => ⟨⟨(), rfl, hpost, by rw [ht]; exact hP9, hD9⟩, hS.F ht⟩) hS.2.2 dX1_swap_53

set_option maxHeartbeats 4000000 in
set_option maxRecDepth 100000 in
theorem c_X1_join (l : Launch) (dC : Nat → ClassId) (dI : Nat → Nat → Nat) (cI cZ : ClassId) (kl aK aF aS aB rk aL aT aU : Nat) (sz : Nat) (L : N2I) (T : N2I) (K : N2I) (F : N2I) (S : N2I) (B : N2I) (U : N2I) (n : Nat) (co : Int32) (pl : Int32) (st : Int32) (jo : Int32) (cn : Int32) (ii : Int32) (fi : Int32) (fe : Int32) (a : Int32) (hn : n < 60) (h0 : ¬ a < 0) (h1 : a ≤ 100) : Met l yX1_join wsX1_join ({ frames := 1, cells := 0, slots := 0, locals := 23 } : Room) (va_Pc [.ref kl, .int a] (pc_ (dC, dI) [(cI, .int), (cZ, .boolean)] [(kl, .inr (1, [.ref aK, .ref aF, .ref aS, .ref aB, .int (nI n), .ref rk])), (aK, .inl (cI, 60, .inl K)), (aF, .inl (cI, 60, .inl F)), (aS, .inl (cI, 60, .inl S)), (aB, .inl (cZ, 60, .inl B)), (rk, .inr (0, [.ref aL, .ref aT, .ref aU, .int co, .int pl, .int st, .int jo, .int cn, .int ii, .int fi, .int fe])), (aL, .inl (cI, 4, .inl L)), (aT, .inl (cI, 4, .inl T)), (aU, .inl (cI, 6, .inl U))] sz)) (va_Qi (fun (r : Int32) (u : Unit) => r = nI n) (fun (u : Unit) (t : State) => va_P (dC, dI) vwCl [(kl, .inr (1, [.ref aK, .ref aF, .ref aS, .ref aB, .int (nI (n + 1)), .ref rk])), (aK, .inl (cI, 60, .inl (upd K n 0))), (aF, .inl (cI, 60, .inl (upd F n a))), (aS, .inl (cI, 60, .inl (upd S n 0))), (aB, .inl (cZ, 60, .inl (upd B n 0))), (rk, .inr (0, [.ref aL, .ref aT, .ref aU, .int co, .int pl, .int st, .int jo, .int cn, .int ii, .int fi, .int fe])), (aL, .inl (cI, 4, .inl L)), (aT, .inl (cI, 4, .inl T)), (aU, .inl (cI, 6, .inl U))] t.heap ∧ va_D (va_A [(kl, .inr (1, [.ref aK, .ref aF, .ref aS, .ref aB, .int (nI n), .ref rk])), (aK, .inl (cI, 60, .inl K)), (aF, .inl (cI, 60, .inl F)), (aS, .inl (cI, 60, .inl S)), (aB, .inl (cZ, 60, .inl B)), (rk, .inr (0, [.ref aL, .ref aT, .ref aU, .int co, .int pl, .int st, .int jo, .int cn, .int ii, .int fi, .int fe])), (aL, .inl (cI, 4, .inl L)), (aT, .inl (cI, 4, .inl T)), (aU, .inl (cI, 6, .inl U))] sz) [(kl, .inr (1, [.ref aK, .ref aF, .ref aS, .ref aB, .int (nI (n + 1)), .ref rk])), (aK, .inl (cI, 60, .inl (upd K n 0))), (aF, .inl (cI, 60, .inl (upd F n a))), (aS, .inl (cI, 60, .inl (upd S n 0))), (aB, .inl (cZ, 60, .inl (upd B n 0))), (rk, .inr (0, [.ref aL, .ref aT, .ref aU, .int co, .int pl, .int st, .int jo, .int cn, .int ii, .int fi, .int fe])), (aL, .inl (cI, 4, .inl L)), (aT, .inl (cI, 4, .inl T)), (aU, .inl (cI, 6, .inl U))]) (va_A [(kl, .inr (1, [.ref aK, .ref aF, .ref aS, .ref aB, .int (nI n), .ref rk])), (aK, .inl (cI, 60, .inl K)), (aF, .inl (cI, 60, .inl F)), (aS, .inl (cI, 60, .inl S)), (aB, .inl (cZ, 60, .inl B)), (rk, .inr (0, [.ref aL, .ref aT, .ref aU, .int co, .int pl, .int st, .int jo, .int cn, .int ii, .int fi, .int fe])), (aL, .inl (cI, 4, .inl L)), (aT, .inl (cI, 4, .inl T)), (aU, .inl (cI, 6, .inl U))] sz)) 0 0 (va_A [(kl, .inr (1, [.ref aK, .ref aF, .ref aS, .ref aB, .int (nI n), .ref rk])), (aK, .inl (cI, 60, .inl K)), (aF, .inl (cI, 60, .inl F)), (aS, .inl (cI, 60, .inl S)), (aB, .inl (cZ, 60, .inl B)), (rk, .inr (0, [.ref aL, .ref aT, .ref aU, .int co, .int pl, .int st, .int jo, .int cn, .int ii, .int fi, .int fe])), (aL, .inl (cI, 4, .inl L)), (aT, .inl (cI, 4, .inl T)), (aU, .inl (cI, 6, .inl U))] sz) := by
  refine Met.ofW (cc := cX1_join) (maxL := 2) (ret := (some .int)) (by decide) rfl ?_
  intro p e s m args below meth c s₁ BB hml hv
  obtain ⟨rfl, hsz, hP, hK, hD0⟩ := hv
  have hx := BB.exec
  have hb := BB.bytes
  have hr := BB.returns
  have hts := atoms_spec (ws := wsX1_join) BB.pre
  have hown : s.vm.findClass RX1 = some m.cls := findClass_of_methodNamed BB.named
  have hlocks := BB.notSynchronized
  subst hsz
  have hD := hD0.self (sz := s.heap.size)
  generalize hAe : va_A [(kl, .inr (1, [.ref aK, .ref aF, .ref aS, .ref aB, .int (nI n), .ref rk])), (aK, .inl (cI, 60, .inl K)), (aF, .inl (cI, 60, .inl F)), (aS, .inl (cI, 60, .inl S)), (aB, .inl (cZ, 60, .inl B)), (rk, .inr (0, [.ref aL, .ref aT, .ref aU, .int co, .int pl, .int st, .int jo, .int cn, .int ii, .int fi, .int fe])), (aL, .inl (cI, 4, .inl L)), (aT, .inl (cI, 4, .inl T)), (aU, .inl (cI, 6, .inl U))] s.heap.size = A at hD ⊢
  have hA : ∀ q : Nat, s.heap.size ≤ q → A q := fun q h => by rw [← hAe]; exact Or.inr h
  have hS : va_S A s.heap s.heap [] := va_S.rf
  have hP : va_P (dC, dI) vwCl [(kl, .inr (1, [.ref aK, .ref aF, .ref aS, .ref aB, .int (nI n), .ref rk])), (aK, .inl (cI, 60, .inl K)), (aF, .inl (cI, 60, .inl F)), (aS, .inl (cI, 60, .inl S)), (aB, .inl (cZ, 60, .inl B)), (rk, .inr (0, [.ref aL, .ref aT, .ref aU, .int co, .int pl, .int st, .int jo, .int cn, .int ii, .int fi, .int fe])), (aL, .inl (cI, 4, .inl L)), (aT, .inl (cI, 4, .inl T)), (aU, .inl (cI, 6, .inl U))] s.heap := hP
  have hl := lv_entry ([.ref kl, .int a]) (n := 2) (Nat.le_of_ble_eq_true rfl)
  rw [lg_entry_eq]
  generalize (lg_sl ([.ref kl, .int a]) ++ List.replicate (2 - (lg_sl ([.ref kl, .int a])).length) Slot.unset).toArray = ls at hl ⊢
  have hl : lv_has ls 2 [(0, .ref kl), (1, .int a)] := hl
  refine lv_iload_n hx hb dX1_join_0 rfl (lv_at hl 1 rfl) ?_
  refine lv_iconst (v := 0) hx hb dX1_join_1 (by decide) ?_
  refine lv_bipush (v := 100) hx hb dX1_join_2 (by decide) ?_
  have hPc := hP.sub (ws' := []) [] rfl
  have hDc := hD.sub (ws' := []) [] (by decide) rfl
  have hKc := hK.sub (tys' := []) [] rfl
  have hFc := va_free (wc := []) hD hS hA [] rfl
  refine va_callv (va_runS (As := [.int a, .int 0, .int 100]) (rest := []) ⟨hx, hb, hml, hown, hts⟩ (c_X1_needWithin l dC dI s.heap.size a 0 100 (h0) (h1)) (va_cwS 3 hts gX1_join_X1_needWithin rfl rfl rfl (by decide +kernel) ⟨Nat.le_of_ble_eq_true rfl, Nat.le_of_ble_eq_true rfl⟩) (pc_S hKc hPc hDc) rfl rfl hl.1 rfl (lv_room (Nat.le_of_ble_eq_true rfl)) dX1_join_4 ⟨Nat.le_of_ble_eq_true rfl, Nat.le_of_ble_eq_true rfl⟩) hS (fun q _ h => hFc q h) hFc (fun u t H_1 locs ht hvm hw hB hz1 hk1 hS => ?_)
  try dsimp only at hw hB
  have hw_1 := hw
  obtain ⟨hP1, hD1⟩ := hB
  rw [ht] at hP1
  obtain ⟨hP, hD⟩ := va_join (wr := [(kl, .inr (1, [.ref aK, .ref aF, .ref aS, .ref aB, .int (nI n), .ref rk])), (aK, .inl (cI, 60, .inl K)), (aF, .inl (cI, 60, .inl F)), (aS, .inl (cI, 60, .inl S)), (aB, .inl (cZ, 60, .inl B)), (rk, .inr (0, [.ref aL, .ref aT, .ref aU, .int co, .int pl, .int st, .int jo, .int cn, .int ii, .int fi, .int fe])), (aL, .inl (cI, 4, .inl L)), (aT, .inl (cI, 4, .inl T)), (aU, .inl (cI, 6, .inl U))]) (w1 := []) hP hD [] [0, 1, 2, 3, 4, 5, 6, 7, 8] rfl rfl (by decide) (by decide) hk1 hFc hP1 hD1
  have hP : va_P (dC, dI) vwCl [(kl, .inr (1, [.ref aK, .ref aF, .ref aS, .ref aB, .int (nI n), .ref rk])), (aK, .inl (cI, 60, .inl K)), (aF, .inl (cI, 60, .inl F)), (aS, .inl (cI, 60, .inl S)), (aB, .inl (cZ, 60, .inl B)), (rk, .inr (0, [.ref aL, .ref aT, .ref aU, .int co, .int pl, .int st, .int jo, .int cn, .int ii, .int fi, .int fe])), (aL, .inl (cI, 4, .inl L)), (aT, .inl (cI, 4, .inl T)), (aU, .inl (cI, 6, .inl U))] H_1 := hP
  have hD : va_D A [(kl, .inr (1, [.ref aK, .ref aF, .ref aS, .ref aB, .int (nI n), .ref rk])), (aK, .inl (cI, 60, .inl K)), (aF, .inl (cI, 60, .inl F)), (aS, .inl (cI, 60, .inl S)), (aB, .inl (cZ, 60, .inl B)), (rk, .inr (0, [.ref aL, .ref aT, .ref aU, .int co, .int pl, .int st, .int jo, .int cn, .int ii, .int fi, .int fe])), (aL, .inl (cI, 4, .inl L)), (aT, .inl (cI, 4, .inl T)), (aU, .inl (cI, 6, .inl U))] := hD
  refine lv_aload_n hx hb dX1_join_7 rfl (lv_at hl 0 rfl) ?_
  refine lv_iconst (v := 0) hx hb dX1_join_8 (by decide) ?_
  refine lv_iload_n hx hb dX1_join_9 rfl (lv_at hl 1 rfl) ?_
  refine lv_iconst (v := 0) hx hb dX1_join_10 (by decide) ?_
  have hPc := hP.sub (ws' := [(kl, .inr (1, [.ref aK, .ref aF, .ref aS, .ref aB, .int (nI n), .ref rk])), (aK, .inl (cI, 60, .inl K)), (aF, .inl (cI, 60, .inl F)), (aS, .inl (cI, 60, .inl S)), (aB, .inl (cZ, 60, .inl B)), (rk, .inr (0, [.ref aL, .ref aT, .ref aU, .int co, .int pl, .int st, .int jo, .int cn, .int ii, .int fi, .int fe])), (aL, .inl (cI, 4, .inl L)), (aT, .inl (cI, 4, .inl T)), (aU, .inl (cI, 6, .inl U))]) [0, 1, 2, 3, 4, 5, 6, 7, 8] rfl
  have hDc := hD.sub (ws' := [(kl, .inr (1, [.ref aK, .ref aF, .ref aS, .ref aB, .int (nI n), .ref rk])), (aK, .inl (cI, 60, .inl K)), (aF, .inl (cI, 60, .inl F)), (aS, .inl (cI, 60, .inl S)), (aB, .inl (cZ, 60, .inl B)), (rk, .inr (0, [.ref aL, .ref aT, .ref aU, .int co, .int pl, .int st, .int jo, .int cn, .int ii, .int fi, .int fe])), (aL, .inl (cI, 4, .inl L)), (aT, .inl (cI, 4, .inl T)), (aU, .inl (cI, 6, .inl U))]) [0, 1, 2, 3, 4, 5, 6, 7, 8] (by decide) rfl
  have hKc := hK.sub (tys' := [(cI, .int), (cZ, .boolean)]) [0, 1] rfl
  have hFc := va_free (wc := [(kl, .inr (1, [.ref aK, .ref aF, .ref aS, .ref aB, .int (nI n), .ref rk])), (aK, .inl (cI, 60, .inl K)), (aF, .inl (cI, 60, .inl F)), (aS, .inl (cI, 60, .inl S)), (aB, .inl (cZ, 60, .inl B)), (rk, .inr (0, [.ref aL, .ref aT, .ref aU, .int co, .int pl, .int st, .int jo, .int cn, .int ii, .int fi, .int fe])), (aL, .inl (cI, 4, .inl L)), (aT, .inl (cI, 4, .inl T)), (aU, .inl (cI, 6, .inl U))]) hD hS hA [0, 1, 2, 3, 4, 5, 6, 7, 8] rfl
  refine va_calli (va_runV (As := [.int 0, .int a, .int 0]) (rest := []) ⟨hx, hb, hml, hown, hts⟩ (c_X1_append l dC dI cI cZ kl aK aF aS aB rk aL aT aU H_1.size L T K F S B U n co pl st jo cn ii fi fe 0 a 0 (hn)) (cwV 3 hts gX1_join_X1_append rfl rfl rfl (by decide +kernel) ⟨Nat.le_of_ble_eq_true rfl, Nat.le_of_ble_eq_true rfl⟩) (pc_V hKc hPc hDc (ci := 1) (C := RX1) (T := TX1) (N := 6) (q0 := 0) rfl rfl) rfl rfl hl.1 rfl (lv_room (Nat.le_of_ble_eq_true rfl)) dX1_join_11 ⟨Nat.le_of_ble_eq_true rfl, Nat.le_of_ble_eq_true rfl⟩) hS (fun q _ h => hFc q h) hFc (fun r_2 u t H_2 locs ht hvm hw hB hz1 hk1 hS => ?_)
  try dsimp only at hw hB
  have hw_2 := hw
  replace hw_2 := hw_2.symm
  subst hw_2
  obtain ⟨hP1, hD1⟩ := hB
  rw [ht] at hP1
  obtain ⟨hP, hD⟩ := va_join (wr := []) (w1 := [(kl, .inr (1, [.ref aK, .ref aF, .ref aS, .ref aB, .int (nI (n + 1)), .ref rk])), (aK, .inl (cI, 60, .inl (upd K n 0))), (aF, .inl (cI, 60, .inl (upd F n a))), (aS, .inl (cI, 60, .inl (upd S n 0))), (aB, .inl (cZ, 60, .inl (upd B n 0))), (rk, .inr (0, [.ref aL, .ref aT, .ref aU, .int co, .int pl, .int st, .int jo, .int cn, .int ii, .int fi, .int fe])), (aL, .inl (cI, 4, .inl L)), (aT, .inl (cI, 4, .inl T)), (aU, .inl (cI, 6, .inl U))]) hP hD [0, 1, 2, 3, 4, 5, 6, 7, 8] [] rfl rfl (by decide) (by decide) hk1 hFc hP1 hD1
  have hP : va_P (dC, dI) vwCl [(kl, .inr (1, [.ref aK, .ref aF, .ref aS, .ref aB, .int (nI (n + 1)), .ref rk])), (aK, .inl (cI, 60, .inl (upd K n 0))), (aF, .inl (cI, 60, .inl (upd F n a))), (aS, .inl (cI, 60, .inl (upd S n 0))), (aB, .inl (cZ, 60, .inl (upd B n 0))), (rk, .inr (0, [.ref aL, .ref aT, .ref aU, .int co, .int pl, .int st, .int jo, .int cn, .int ii, .int fi, .int fe])), (aL, .inl (cI, 4, .inl L)), (aT, .inl (cI, 4, .inl T)), (aU, .inl (cI, 6, .inl U))] H_2 := hP
  have hD : va_D A [(kl, .inr (1, [.ref aK, .ref aF, .ref aS, .ref aB, .int (nI (n + 1)), .ref rk])), (aK, .inl (cI, 60, .inl (upd K n 0))), (aF, .inl (cI, 60, .inl (upd F n a))), (aS, .inl (cI, 60, .inl (upd S n 0))), (aB, .inl (cZ, 60, .inl (upd B n 0))), (rk, .inr (0, [.ref aL, .ref aT, .ref aU, .int co, .int pl, .int st, .int jo, .int cn, .int ii, .int fi, .int fe])), (aL, .inl (cI, 4, .inl L)), (aT, .inl (cI, 4, .inl T)), (aU, .inl (cI, 6, .inl U))] := hD
  have hpost : (nI n) = nI n := by
    rfl
  have hP9 := hP.sub (ws' := [(kl, .inr (1, [.ref aK, .ref aF, .ref aS, .ref aB, .int (nI (n + 1)), .ref rk])), (aK, .inl (cI, 60, .inl (upd K n 0))), (aF, .inl (cI, 60, .inl (upd F n a))), (aS, .inl (cI, 60, .inl (upd S n 0))), (aB, .inl (cZ, 60, .inl (upd B n 0))), (rk, .inr (0, [.ref aL, .ref aT, .ref aU, .int co, .int pl, .int st, .int jo, .int cn, .int ii, .int fi, .int fe])), (aL, .inl (cI, 4, .inl L)), (aT, .inl (cI, 4, .inl T)), (aU, .inl (cI, 6, .inl U))]) [0, 1, 2, 3, 4, 5, 6, 7, 8] rfl
  have hD9 := hD.sub (ws' := [(kl, .inr (1, [.ref aK, .ref aF, .ref aS, .ref aB, .int (nI (n + 1)), .ref rk])), (aK, .inl (cI, 60, .inl (upd K n 0))), (aF, .inl (cI, 60, .inl (upd F n a))), (aS, .inl (cI, 60, .inl (upd S n 0))), (aB, .inl (cZ, 60, .inl (upd B n 0))), (rk, .inr (0, [.ref aL, .ref aT, .ref aU, .int co, .int pl, .int st, .int jo, .int cn, .int ii, .int fi, .int fe])), (aL, .inl (cI, 4, .inl L)), (aT, .inl (cI, 4, .inl T)), (aU, .inl (cI, 6, .inl U))]) [0, 1, 2, 3, 4, 5, 6, 7, 8] (by decide) rfl
  exact W.iret (v := nI n) hx hb hr (fun t ht hW => ⟨⟨(nI n), (), rfl, hpost, by rw [ht]; exact hP9, hD9⟩, hS.F ht⟩) hS.2.2 dX1_join_14

set_option maxHeartbeats 4000000 in
set_option maxRecDepth 100000 in
theorem c_X1_toss (l : Launch) (dC : Nat → ClassId) (dI : Nat → Nat → Nat) (cI cZ : ClassId) (kl aK aF aS aB rk aL aT aU : Nat) (sz : Nat) (L : N2I) (T : N2I) (K : N2I) (F : N2I) (S : N2I) (B : N2I) (U : N2I) (n : Nat) (co : Int32) (pl : Int32) (st : Int32) (jo : Int32) (cn : Int32) (ii : Int32) (fi : Int32) (fe : Int32) (a : Int32) (b : Int32) (hn : n < 60) (h0 : ¬ a < 0) (h1 : a < 6) (h2 : ¬ b < 0) (h3 : b ≤ 20) : Met l yX1_toss wsX1_toss ({ frames := 1, cells := 0, slots := 0, locals := 23 } : Room) (va_Pc [.ref kl, .int a, .int b] (pc_ (dC, dI) [(cI, .int), (cZ, .boolean)] [(kl, .inr (1, [.ref aK, .ref aF, .ref aS, .ref aB, .int (nI n), .ref rk])), (aK, .inl (cI, 60, .inl K)), (aF, .inl (cI, 60, .inl F)), (aS, .inl (cI, 60, .inl S)), (aB, .inl (cZ, 60, .inl B)), (rk, .inr (0, [.ref aL, .ref aT, .ref aU, .int co, .int pl, .int st, .int jo, .int cn, .int ii, .int fi, .int fe])), (aL, .inl (cI, 4, .inl L)), (aT, .inl (cI, 4, .inl T)), (aU, .inl (cI, 6, .inl U))] sz)) (va_Qi (fun (r : Int32) (u : Unit) => r = nI n) (fun (u : Unit) (t : State) => va_P (dC, dI) vwCl [(kl, .inr (1, [.ref aK, .ref aF, .ref aS, .ref aB, .int (nI (n + 1)), .ref rk])), (aK, .inl (cI, 60, .inl (upd K n 1))), (aF, .inl (cI, 60, .inl (upd F n a))), (aS, .inl (cI, 60, .inl (upd S n b))), (aB, .inl (cZ, 60, .inl (upd B n 0))), (rk, .inr (0, [.ref aL, .ref aT, .ref aU, .int co, .int pl, .int st, .int jo, .int cn, .int ii, .int fi, .int fe])), (aL, .inl (cI, 4, .inl L)), (aT, .inl (cI, 4, .inl T)), (aU, .inl (cI, 6, .inl U))] t.heap ∧ va_D (va_A [(kl, .inr (1, [.ref aK, .ref aF, .ref aS, .ref aB, .int (nI n), .ref rk])), (aK, .inl (cI, 60, .inl K)), (aF, .inl (cI, 60, .inl F)), (aS, .inl (cI, 60, .inl S)), (aB, .inl (cZ, 60, .inl B)), (rk, .inr (0, [.ref aL, .ref aT, .ref aU, .int co, .int pl, .int st, .int jo, .int cn, .int ii, .int fi, .int fe])), (aL, .inl (cI, 4, .inl L)), (aT, .inl (cI, 4, .inl T)), (aU, .inl (cI, 6, .inl U))] sz) [(kl, .inr (1, [.ref aK, .ref aF, .ref aS, .ref aB, .int (nI (n + 1)), .ref rk])), (aK, .inl (cI, 60, .inl (upd K n 1))), (aF, .inl (cI, 60, .inl (upd F n a))), (aS, .inl (cI, 60, .inl (upd S n b))), (aB, .inl (cZ, 60, .inl (upd B n 0))), (rk, .inr (0, [.ref aL, .ref aT, .ref aU, .int co, .int pl, .int st, .int jo, .int cn, .int ii, .int fi, .int fe])), (aL, .inl (cI, 4, .inl L)), (aT, .inl (cI, 4, .inl T)), (aU, .inl (cI, 6, .inl U))]) (va_A [(kl, .inr (1, [.ref aK, .ref aF, .ref aS, .ref aB, .int (nI n), .ref rk])), (aK, .inl (cI, 60, .inl K)), (aF, .inl (cI, 60, .inl F)), (aS, .inl (cI, 60, .inl S)), (aB, .inl (cZ, 60, .inl B)), (rk, .inr (0, [.ref aL, .ref aT, .ref aU, .int co, .int pl, .int st, .int jo, .int cn, .int ii, .int fi, .int fe])), (aL, .inl (cI, 4, .inl L)), (aT, .inl (cI, 4, .inl T)), (aU, .inl (cI, 6, .inl U))] sz)) 0 0 (va_A [(kl, .inr (1, [.ref aK, .ref aF, .ref aS, .ref aB, .int (nI n), .ref rk])), (aK, .inl (cI, 60, .inl K)), (aF, .inl (cI, 60, .inl F)), (aS, .inl (cI, 60, .inl S)), (aB, .inl (cZ, 60, .inl B)), (rk, .inr (0, [.ref aL, .ref aT, .ref aU, .int co, .int pl, .int st, .int jo, .int cn, .int ii, .int fi, .int fe])), (aL, .inl (cI, 4, .inl L)), (aT, .inl (cI, 4, .inl T)), (aU, .inl (cI, 6, .inl U))] sz) := by
  refine Met.ofW (cc := cX1_toss) (maxL := 3) (ret := (some .int)) (by decide) rfl ?_
  intro p e s m args below meth c s₁ BB hml hv
  obtain ⟨rfl, hsz, hP, hK, hD0⟩ := hv
  have hx := BB.exec
  have hb := BB.bytes
  have hr := BB.returns
  have hts := atoms_spec (ws := wsX1_toss) BB.pre
  have hown : s.vm.findClass RX1 = some m.cls := findClass_of_methodNamed BB.named
  have hlocks := BB.notSynchronized
  subst hsz
  have hD := hD0.self (sz := s.heap.size)
  generalize hAe : va_A [(kl, .inr (1, [.ref aK, .ref aF, .ref aS, .ref aB, .int (nI n), .ref rk])), (aK, .inl (cI, 60, .inl K)), (aF, .inl (cI, 60, .inl F)), (aS, .inl (cI, 60, .inl S)), (aB, .inl (cZ, 60, .inl B)), (rk, .inr (0, [.ref aL, .ref aT, .ref aU, .int co, .int pl, .int st, .int jo, .int cn, .int ii, .int fi, .int fe])), (aL, .inl (cI, 4, .inl L)), (aT, .inl (cI, 4, .inl T)), (aU, .inl (cI, 6, .inl U))] s.heap.size = A at hD ⊢
  have hA : ∀ q : Nat, s.heap.size ≤ q → A q := fun q h => by rw [← hAe]; exact Or.inr h
  have hS : va_S A s.heap s.heap [] := va_S.rf
  have hP : va_P (dC, dI) vwCl [(kl, .inr (1, [.ref aK, .ref aF, .ref aS, .ref aB, .int (nI n), .ref rk])), (aK, .inl (cI, 60, .inl K)), (aF, .inl (cI, 60, .inl F)), (aS, .inl (cI, 60, .inl S)), (aB, .inl (cZ, 60, .inl B)), (rk, .inr (0, [.ref aL, .ref aT, .ref aU, .int co, .int pl, .int st, .int jo, .int cn, .int ii, .int fi, .int fe])), (aL, .inl (cI, 4, .inl L)), (aT, .inl (cI, 4, .inl T)), (aU, .inl (cI, 6, .inl U))] s.heap := hP
  have hl := lv_entry ([.ref kl, .int a, .int b]) (n := 3) (Nat.le_of_ble_eq_true rfl)
  rw [lg_entry_eq]
  generalize (lg_sl ([.ref kl, .int a, .int b]) ++ List.replicate (3 - (lg_sl ([.ref kl, .int a, .int b])).length) Slot.unset).toArray = ls at hl ⊢
  have hl : lv_has ls 3 [(0, .ref kl), (1, .int a), (2, .int b)] := hl
  refine lv_iload_n hx hb dX1_toss_0 rfl (lv_at hl 1 rfl) ?_
  refine lv_bipush (v := 6) hx hb dX1_toss_1 (by decide) ?_
  have hPc := hP.sub (ws' := []) [] rfl
  have hDc := hD.sub (ws' := []) [] (by decide) rfl
  have hKc := hK.sub (tys' := []) [] rfl
  have hFc := va_free (wc := []) hD hS hA [] rfl
  refine va_callv (va_runS (As := [.int a, .int 6]) (rest := []) ⟨hx, hb, hml, hown, hts⟩ (c_X1_needIndex l dC dI s.heap.size a 6 (h0) (h1)) (va_cwS 2 hts gX1_toss_X1_needIndex rfl rfl rfl (by decide +kernel) ⟨Nat.le_of_ble_eq_true rfl, Nat.le_of_ble_eq_true rfl⟩) (pc_S hKc hPc hDc) rfl rfl hl.1 rfl (lv_room (Nat.le_of_ble_eq_true rfl)) dX1_toss_3 ⟨Nat.le_of_ble_eq_true rfl, Nat.le_of_ble_eq_true rfl⟩) hS (fun q _ h => hFc q h) hFc (fun u t H_1 locs ht hvm hw hB hz1 hk1 hS => ?_)
  try dsimp only at hw hB
  have hw_1 := hw
  obtain ⟨hP1, hD1⟩ := hB
  rw [ht] at hP1
  obtain ⟨hP, hD⟩ := va_join (wr := [(kl, .inr (1, [.ref aK, .ref aF, .ref aS, .ref aB, .int (nI n), .ref rk])), (aK, .inl (cI, 60, .inl K)), (aF, .inl (cI, 60, .inl F)), (aS, .inl (cI, 60, .inl S)), (aB, .inl (cZ, 60, .inl B)), (rk, .inr (0, [.ref aL, .ref aT, .ref aU, .int co, .int pl, .int st, .int jo, .int cn, .int ii, .int fi, .int fe])), (aL, .inl (cI, 4, .inl L)), (aT, .inl (cI, 4, .inl T)), (aU, .inl (cI, 6, .inl U))]) (w1 := []) hP hD [] [0, 1, 2, 3, 4, 5, 6, 7, 8] rfl rfl (by decide) (by decide) hk1 hFc hP1 hD1
  have hP : va_P (dC, dI) vwCl [(kl, .inr (1, [.ref aK, .ref aF, .ref aS, .ref aB, .int (nI n), .ref rk])), (aK, .inl (cI, 60, .inl K)), (aF, .inl (cI, 60, .inl F)), (aS, .inl (cI, 60, .inl S)), (aB, .inl (cZ, 60, .inl B)), (rk, .inr (0, [.ref aL, .ref aT, .ref aU, .int co, .int pl, .int st, .int jo, .int cn, .int ii, .int fi, .int fe])), (aL, .inl (cI, 4, .inl L)), (aT, .inl (cI, 4, .inl T)), (aU, .inl (cI, 6, .inl U))] H_1 := hP
  have hD : va_D A [(kl, .inr (1, [.ref aK, .ref aF, .ref aS, .ref aB, .int (nI n), .ref rk])), (aK, .inl (cI, 60, .inl K)), (aF, .inl (cI, 60, .inl F)), (aS, .inl (cI, 60, .inl S)), (aB, .inl (cZ, 60, .inl B)), (rk, .inr (0, [.ref aL, .ref aT, .ref aU, .int co, .int pl, .int st, .int jo, .int cn, .int ii, .int fi, .int fe])), (aL, .inl (cI, 4, .inl L)), (aT, .inl (cI, 4, .inl T)), (aU, .inl (cI, 6, .inl U))] := hD
  refine lv_iload_n hx hb dX1_toss_6 rfl (lv_at hl 2 rfl) ?_
  refine lv_iconst (v := 0) hx hb dX1_toss_7 (by decide) ?_
  refine lv_bipush (v := 20) hx hb dX1_toss_8 (by decide) ?_
  have hPc := hP.sub (ws' := []) [] rfl
  have hDc := hD.sub (ws' := []) [] (by decide) rfl
  have hKc := hK.sub (tys' := []) [] rfl
  have hFc := va_free (wc := []) hD hS hA [] rfl
  refine va_callv (va_runS (As := [.int b, .int 0, .int 20]) (rest := []) ⟨hx, hb, hml, hown, hts⟩ (c_X1_needWithin l dC dI H_1.size b 0 20 (h2) (h3)) (va_cwS 3 hts gX1_toss_X1_needWithin rfl rfl rfl (by decide +kernel) ⟨Nat.le_of_ble_eq_true rfl, Nat.le_of_ble_eq_true rfl⟩) (pc_S hKc hPc hDc) rfl rfl hl.1 rfl (lv_room (Nat.le_of_ble_eq_true rfl)) dX1_toss_10 ⟨Nat.le_of_ble_eq_true rfl, Nat.le_of_ble_eq_true rfl⟩) hS (fun q _ h => hFc q h) hFc (fun u t H_2 locs ht hvm hw hB hz1 hk1 hS => ?_)
  try dsimp only at hw hB
  have hw_2 := hw
  obtain ⟨hP1, hD1⟩ := hB
  rw [ht] at hP1
  obtain ⟨hP, hD⟩ := va_join (wr := [(kl, .inr (1, [.ref aK, .ref aF, .ref aS, .ref aB, .int (nI n), .ref rk])), (aK, .inl (cI, 60, .inl K)), (aF, .inl (cI, 60, .inl F)), (aS, .inl (cI, 60, .inl S)), (aB, .inl (cZ, 60, .inl B)), (rk, .inr (0, [.ref aL, .ref aT, .ref aU, .int co, .int pl, .int st, .int jo, .int cn, .int ii, .int fi, .int fe])), (aL, .inl (cI, 4, .inl L)), (aT, .inl (cI, 4, .inl T)), (aU, .inl (cI, 6, .inl U))]) (w1 := []) hP hD [] [0, 1, 2, 3, 4, 5, 6, 7, 8] rfl rfl (by decide) (by decide) hk1 hFc hP1 hD1
  have hP : va_P (dC, dI) vwCl [(kl, .inr (1, [.ref aK, .ref aF, .ref aS, .ref aB, .int (nI n), .ref rk])), (aK, .inl (cI, 60, .inl K)), (aF, .inl (cI, 60, .inl F)), (aS, .inl (cI, 60, .inl S)), (aB, .inl (cZ, 60, .inl B)), (rk, .inr (0, [.ref aL, .ref aT, .ref aU, .int co, .int pl, .int st, .int jo, .int cn, .int ii, .int fi, .int fe])), (aL, .inl (cI, 4, .inl L)), (aT, .inl (cI, 4, .inl T)), (aU, .inl (cI, 6, .inl U))] H_2 := hP
  have hD : va_D A [(kl, .inr (1, [.ref aK, .ref aF, .ref aS, .ref aB, .int (nI n), .ref rk])), (aK, .inl (cI, 60, .inl K)), (aF, .inl (cI, 60, .inl F)), (aS, .inl (cI, 60, .inl S)), (aB, .inl (cZ, 60, .inl B)), (rk, .inr (0, [.ref aL, .ref aT, .ref aU, .int co, .int pl, .int st, .int jo, .int cn, .int ii, .int fi, .int fe])), (aL, .inl (cI, 4, .inl L)), (aT, .inl (cI, 4, .inl T)), (aU, .inl (cI, 6, .inl U))] := hD
  refine lv_aload_n hx hb dX1_toss_13 rfl (lv_at hl 0 rfl) ?_
  refine lv_iconst (v := 1) hx hb dX1_toss_14 (by decide) ?_
  refine lv_iload_n hx hb dX1_toss_15 rfl (lv_at hl 1 rfl) ?_
  refine lv_iload_n hx hb dX1_toss_16 rfl (lv_at hl 2 rfl) ?_
  have hPc := hP.sub (ws' := [(kl, .inr (1, [.ref aK, .ref aF, .ref aS, .ref aB, .int (nI n), .ref rk])), (aK, .inl (cI, 60, .inl K)), (aF, .inl (cI, 60, .inl F)), (aS, .inl (cI, 60, .inl S)), (aB, .inl (cZ, 60, .inl B)), (rk, .inr (0, [.ref aL, .ref aT, .ref aU, .int co, .int pl, .int st, .int jo, .int cn, .int ii, .int fi, .int fe])), (aL, .inl (cI, 4, .inl L)), (aT, .inl (cI, 4, .inl T)), (aU, .inl (cI, 6, .inl U))]) [0, 1, 2, 3, 4, 5, 6, 7, 8] rfl
  have hDc := hD.sub (ws' := [(kl, .inr (1, [.ref aK, .ref aF, .ref aS, .ref aB, .int (nI n), .ref rk])), (aK, .inl (cI, 60, .inl K)), (aF, .inl (cI, 60, .inl F)), (aS, .inl (cI, 60, .inl S)), (aB, .inl (cZ, 60, .inl B)), (rk, .inr (0, [.ref aL, .ref aT, .ref aU, .int co, .int pl, .int st, .int jo, .int cn, .int ii, .int fi, .int fe])), (aL, .inl (cI, 4, .inl L)), (aT, .inl (cI, 4, .inl T)), (aU, .inl (cI, 6, .inl U))]) [0, 1, 2, 3, 4, 5, 6, 7, 8] (by decide) rfl
  have hKc := hK.sub (tys' := [(cI, .int), (cZ, .boolean)]) [0, 1] rfl
  have hFc := va_free (wc := [(kl, .inr (1, [.ref aK, .ref aF, .ref aS, .ref aB, .int (nI n), .ref rk])), (aK, .inl (cI, 60, .inl K)), (aF, .inl (cI, 60, .inl F)), (aS, .inl (cI, 60, .inl S)), (aB, .inl (cZ, 60, .inl B)), (rk, .inr (0, [.ref aL, .ref aT, .ref aU, .int co, .int pl, .int st, .int jo, .int cn, .int ii, .int fi, .int fe])), (aL, .inl (cI, 4, .inl L)), (aT, .inl (cI, 4, .inl T)), (aU, .inl (cI, 6, .inl U))]) hD hS hA [0, 1, 2, 3, 4, 5, 6, 7, 8] rfl
  refine va_calli (va_runV (As := [.int 1, .int a, .int b]) (rest := []) ⟨hx, hb, hml, hown, hts⟩ (c_X1_append l dC dI cI cZ kl aK aF aS aB rk aL aT aU H_2.size L T K F S B U n co pl st jo cn ii fi fe 1 a b (hn)) (cwV 3 hts gX1_toss_X1_append rfl rfl rfl (by decide +kernel) ⟨Nat.le_of_ble_eq_true rfl, Nat.le_of_ble_eq_true rfl⟩) (pc_V hKc hPc hDc (ci := 1) (C := RX1) (T := TX1) (N := 6) (q0 := 0) rfl rfl) rfl rfl hl.1 rfl (lv_room (Nat.le_of_ble_eq_true rfl)) dX1_toss_17 ⟨Nat.le_of_ble_eq_true rfl, Nat.le_of_ble_eq_true rfl⟩) hS (fun q _ h => hFc q h) hFc (fun r_3 u t H_3 locs ht hvm hw hB hz1 hk1 hS => ?_)
  try dsimp only at hw hB
  have hw_3 := hw
  replace hw_3 := hw_3.symm
  subst hw_3
  obtain ⟨hP1, hD1⟩ := hB
  rw [ht] at hP1
  obtain ⟨hP, hD⟩ := va_join (wr := []) (w1 := [(kl, .inr (1, [.ref aK, .ref aF, .ref aS, .ref aB, .int (nI (n + 1)), .ref rk])), (aK, .inl (cI, 60, .inl (upd K n 1))), (aF, .inl (cI, 60, .inl (upd F n a))), (aS, .inl (cI, 60, .inl (upd S n b))), (aB, .inl (cZ, 60, .inl (upd B n 0))), (rk, .inr (0, [.ref aL, .ref aT, .ref aU, .int co, .int pl, .int st, .int jo, .int cn, .int ii, .int fi, .int fe])), (aL, .inl (cI, 4, .inl L)), (aT, .inl (cI, 4, .inl T)), (aU, .inl (cI, 6, .inl U))]) hP hD [0, 1, 2, 3, 4, 5, 6, 7, 8] [] rfl rfl (by decide) (by decide) hk1 hFc hP1 hD1
  have hP : va_P (dC, dI) vwCl [(kl, .inr (1, [.ref aK, .ref aF, .ref aS, .ref aB, .int (nI (n + 1)), .ref rk])), (aK, .inl (cI, 60, .inl (upd K n 1))), (aF, .inl (cI, 60, .inl (upd F n a))), (aS, .inl (cI, 60, .inl (upd S n b))), (aB, .inl (cZ, 60, .inl (upd B n 0))), (rk, .inr (0, [.ref aL, .ref aT, .ref aU, .int co, .int pl, .int st, .int jo, .int cn, .int ii, .int fi, .int fe])), (aL, .inl (cI, 4, .inl L)), (aT, .inl (cI, 4, .inl T)), (aU, .inl (cI, 6, .inl U))] H_3 := hP
  have hD : va_D A [(kl, .inr (1, [.ref aK, .ref aF, .ref aS, .ref aB, .int (nI (n + 1)), .ref rk])), (aK, .inl (cI, 60, .inl (upd K n 1))), (aF, .inl (cI, 60, .inl (upd F n a))), (aS, .inl (cI, 60, .inl (upd S n b))), (aB, .inl (cZ, 60, .inl (upd B n 0))), (rk, .inr (0, [.ref aL, .ref aT, .ref aU, .int co, .int pl, .int st, .int jo, .int cn, .int ii, .int fi, .int fe])), (aL, .inl (cI, 4, .inl L)), (aT, .inl (cI, 4, .inl T)), (aU, .inl (cI, 6, .inl U))] := hD
  have hpost : (nI n) = nI n := by
    rfl
  have hP9 := hP.sub (ws' := [(kl, .inr (1, [.ref aK, .ref aF, .ref aS, .ref aB, .int (nI (n + 1)), .ref rk])), (aK, .inl (cI, 60, .inl (upd K n 1))), (aF, .inl (cI, 60, .inl (upd F n a))), (aS, .inl (cI, 60, .inl (upd S n b))), (aB, .inl (cZ, 60, .inl (upd B n 0))), (rk, .inr (0, [.ref aL, .ref aT, .ref aU, .int co, .int pl, .int st, .int jo, .int cn, .int ii, .int fi, .int fe])), (aL, .inl (cI, 4, .inl L)), (aT, .inl (cI, 4, .inl T)), (aU, .inl (cI, 6, .inl U))]) [0, 1, 2, 3, 4, 5, 6, 7, 8] rfl
  have hD9 := hD.sub (ws' := [(kl, .inr (1, [.ref aK, .ref aF, .ref aS, .ref aB, .int (nI (n + 1)), .ref rk])), (aK, .inl (cI, 60, .inl (upd K n 1))), (aF, .inl (cI, 60, .inl (upd F n a))), (aS, .inl (cI, 60, .inl (upd S n b))), (aB, .inl (cZ, 60, .inl (upd B n 0))), (rk, .inr (0, [.ref aL, .ref aT, .ref aU, .int co, .int pl, .int st, .int jo, .int cn, .int ii, .int fi, .int fe])), (aL, .inl (cI, 4, .inl L)), (aT, .inl (cI, 4, .inl T)), (aU, .inl (cI, 6, .inl U))]) [0, 1, 2, 3, 4, 5, 6, 7, 8] (by decide) rfl
  exact W.iret (v := nI n) hx hb hr (fun t ht hW => ⟨⟨(nI n), (), rfl, hpost, by rw [ht]; exact hP9, hD9⟩, hS.F ht⟩) hS.2.2 dX1_toss_20

set_option maxHeartbeats 4000000 in
set_option maxRecDepth 100000 in
theorem c_X1_rest (l : Launch) (dC : Nat → ClassId) (dI : Nat → Nat → Nat) (cI cZ : ClassId) (kl aK aF aS aB rk aL aT aU : Nat) (sz : Nat) (L : N2I) (T : N2I) (K : N2I) (F : N2I) (S : N2I) (B : N2I) (U : N2I) (n : Nat) (co : Int32) (pl : Int32) (st : Int32) (jo : Int32) (cn : Int32) (ii : Int32) (fi : Int32) (fe : Int32) (a : Int32) (hn : n < 60) (h0 : ¬ a < 0) (h1 : a < 6) : Met l yX1_rest wsX1_rest ({ frames := 1, cells := 0, slots := 0, locals := 23 } : Room) (va_Pc [.ref kl, .int a] (pc_ (dC, dI) [(cI, .int), (cZ, .boolean)] [(kl, .inr (1, [.ref aK, .ref aF, .ref aS, .ref aB, .int (nI n), .ref rk])), (aK, .inl (cI, 60, .inl K)), (aF, .inl (cI, 60, .inl F)), (aS, .inl (cI, 60, .inl S)), (aB, .inl (cZ, 60, .inl B)), (rk, .inr (0, [.ref aL, .ref aT, .ref aU, .int co, .int pl, .int st, .int jo, .int cn, .int ii, .int fi, .int fe])), (aL, .inl (cI, 4, .inl L)), (aT, .inl (cI, 4, .inl T)), (aU, .inl (cI, 6, .inl U))] sz)) (va_Qi (fun (r : Int32) (u : Unit) => r = nI n) (fun (u : Unit) (t : State) => va_P (dC, dI) vwCl [(kl, .inr (1, [.ref aK, .ref aF, .ref aS, .ref aB, .int (nI (n + 1)), .ref rk])), (aK, .inl (cI, 60, .inl (upd K n 2))), (aF, .inl (cI, 60, .inl (upd F n a))), (aS, .inl (cI, 60, .inl (upd S n 0))), (aB, .inl (cZ, 60, .inl (upd B n 0))), (rk, .inr (0, [.ref aL, .ref aT, .ref aU, .int co, .int pl, .int st, .int jo, .int cn, .int ii, .int fi, .int fe])), (aL, .inl (cI, 4, .inl L)), (aT, .inl (cI, 4, .inl T)), (aU, .inl (cI, 6, .inl U))] t.heap ∧ va_D (va_A [(kl, .inr (1, [.ref aK, .ref aF, .ref aS, .ref aB, .int (nI n), .ref rk])), (aK, .inl (cI, 60, .inl K)), (aF, .inl (cI, 60, .inl F)), (aS, .inl (cI, 60, .inl S)), (aB, .inl (cZ, 60, .inl B)), (rk, .inr (0, [.ref aL, .ref aT, .ref aU, .int co, .int pl, .int st, .int jo, .int cn, .int ii, .int fi, .int fe])), (aL, .inl (cI, 4, .inl L)), (aT, .inl (cI, 4, .inl T)), (aU, .inl (cI, 6, .inl U))] sz) [(kl, .inr (1, [.ref aK, .ref aF, .ref aS, .ref aB, .int (nI (n + 1)), .ref rk])), (aK, .inl (cI, 60, .inl (upd K n 2))), (aF, .inl (cI, 60, .inl (upd F n a))), (aS, .inl (cI, 60, .inl (upd S n 0))), (aB, .inl (cZ, 60, .inl (upd B n 0))), (rk, .inr (0, [.ref aL, .ref aT, .ref aU, .int co, .int pl, .int st, .int jo, .int cn, .int ii, .int fi, .int fe])), (aL, .inl (cI, 4, .inl L)), (aT, .inl (cI, 4, .inl T)), (aU, .inl (cI, 6, .inl U))]) (va_A [(kl, .inr (1, [.ref aK, .ref aF, .ref aS, .ref aB, .int (nI n), .ref rk])), (aK, .inl (cI, 60, .inl K)), (aF, .inl (cI, 60, .inl F)), (aS, .inl (cI, 60, .inl S)), (aB, .inl (cZ, 60, .inl B)), (rk, .inr (0, [.ref aL, .ref aT, .ref aU, .int co, .int pl, .int st, .int jo, .int cn, .int ii, .int fi, .int fe])), (aL, .inl (cI, 4, .inl L)), (aT, .inl (cI, 4, .inl T)), (aU, .inl (cI, 6, .inl U))] sz)) 0 0 (va_A [(kl, .inr (1, [.ref aK, .ref aF, .ref aS, .ref aB, .int (nI n), .ref rk])), (aK, .inl (cI, 60, .inl K)), (aF, .inl (cI, 60, .inl F)), (aS, .inl (cI, 60, .inl S)), (aB, .inl (cZ, 60, .inl B)), (rk, .inr (0, [.ref aL, .ref aT, .ref aU, .int co, .int pl, .int st, .int jo, .int cn, .int ii, .int fi, .int fe])), (aL, .inl (cI, 4, .inl L)), (aT, .inl (cI, 4, .inl T)), (aU, .inl (cI, 6, .inl U))] sz) := by
  refine Met.ofW (cc := cX1_rest) (maxL := 2) (ret := (some .int)) (by decide) rfl ?_
  intro p e s m args below meth c s₁ BB hml hv
  obtain ⟨rfl, hsz, hP, hK, hD0⟩ := hv
  have hx := BB.exec
  have hb := BB.bytes
  have hr := BB.returns
  have hts := atoms_spec (ws := wsX1_rest) BB.pre
  have hown : s.vm.findClass RX1 = some m.cls := findClass_of_methodNamed BB.named
  have hlocks := BB.notSynchronized
  subst hsz
  have hD := hD0.self (sz := s.heap.size)
  generalize hAe : va_A [(kl, .inr (1, [.ref aK, .ref aF, .ref aS, .ref aB, .int (nI n), .ref rk])), (aK, .inl (cI, 60, .inl K)), (aF, .inl (cI, 60, .inl F)), (aS, .inl (cI, 60, .inl S)), (aB, .inl (cZ, 60, .inl B)), (rk, .inr (0, [.ref aL, .ref aT, .ref aU, .int co, .int pl, .int st, .int jo, .int cn, .int ii, .int fi, .int fe])), (aL, .inl (cI, 4, .inl L)), (aT, .inl (cI, 4, .inl T)), (aU, .inl (cI, 6, .inl U))] s.heap.size = A at hD ⊢
  have hA : ∀ q : Nat, s.heap.size ≤ q → A q := fun q h => by rw [← hAe]; exact Or.inr h
  have hS : va_S A s.heap s.heap [] := va_S.rf
  have hP : va_P (dC, dI) vwCl [(kl, .inr (1, [.ref aK, .ref aF, .ref aS, .ref aB, .int (nI n), .ref rk])), (aK, .inl (cI, 60, .inl K)), (aF, .inl (cI, 60, .inl F)), (aS, .inl (cI, 60, .inl S)), (aB, .inl (cZ, 60, .inl B)), (rk, .inr (0, [.ref aL, .ref aT, .ref aU, .int co, .int pl, .int st, .int jo, .int cn, .int ii, .int fi, .int fe])), (aL, .inl (cI, 4, .inl L)), (aT, .inl (cI, 4, .inl T)), (aU, .inl (cI, 6, .inl U))] s.heap := hP
  have hl := lv_entry ([.ref kl, .int a]) (n := 2) (Nat.le_of_ble_eq_true rfl)
  rw [lg_entry_eq]
  generalize (lg_sl ([.ref kl, .int a]) ++ List.replicate (2 - (lg_sl ([.ref kl, .int a])).length) Slot.unset).toArray = ls at hl ⊢
  have hl : lv_has ls 2 [(0, .ref kl), (1, .int a)] := hl
  refine lv_iload_n hx hb dX1_rest_0 rfl (lv_at hl 1 rfl) ?_
  refine lv_bipush (v := 6) hx hb dX1_rest_1 (by decide) ?_
  have hPc := hP.sub (ws' := []) [] rfl
  have hDc := hD.sub (ws' := []) [] (by decide) rfl
  have hKc := hK.sub (tys' := []) [] rfl
  have hFc := va_free (wc := []) hD hS hA [] rfl
  refine va_callv (va_runS (As := [.int a, .int 6]) (rest := []) ⟨hx, hb, hml, hown, hts⟩ (c_X1_needIndex l dC dI s.heap.size a 6 (h0) (h1)) (va_cwS 2 hts gX1_rest_X1_needIndex rfl rfl rfl (by decide +kernel) ⟨Nat.le_of_ble_eq_true rfl, Nat.le_of_ble_eq_true rfl⟩) (pc_S hKc hPc hDc) rfl rfl hl.1 rfl (lv_room (Nat.le_of_ble_eq_true rfl)) dX1_rest_3 ⟨Nat.le_of_ble_eq_true rfl, Nat.le_of_ble_eq_true rfl⟩) hS (fun q _ h => hFc q h) hFc (fun u t H_1 locs ht hvm hw hB hz1 hk1 hS => ?_)
  try dsimp only at hw hB
  have hw_1 := hw
  obtain ⟨hP1, hD1⟩ := hB
  rw [ht] at hP1
  obtain ⟨hP, hD⟩ := va_join (wr := [(kl, .inr (1, [.ref aK, .ref aF, .ref aS, .ref aB, .int (nI n), .ref rk])), (aK, .inl (cI, 60, .inl K)), (aF, .inl (cI, 60, .inl F)), (aS, .inl (cI, 60, .inl S)), (aB, .inl (cZ, 60, .inl B)), (rk, .inr (0, [.ref aL, .ref aT, .ref aU, .int co, .int pl, .int st, .int jo, .int cn, .int ii, .int fi, .int fe])), (aL, .inl (cI, 4, .inl L)), (aT, .inl (cI, 4, .inl T)), (aU, .inl (cI, 6, .inl U))]) (w1 := []) hP hD [] [0, 1, 2, 3, 4, 5, 6, 7, 8] rfl rfl (by decide) (by decide) hk1 hFc hP1 hD1
  have hP : va_P (dC, dI) vwCl [(kl, .inr (1, [.ref aK, .ref aF, .ref aS, .ref aB, .int (nI n), .ref rk])), (aK, .inl (cI, 60, .inl K)), (aF, .inl (cI, 60, .inl F)), (aS, .inl (cI, 60, .inl S)), (aB, .inl (cZ, 60, .inl B)), (rk, .inr (0, [.ref aL, .ref aT, .ref aU, .int co, .int pl, .int st, .int jo, .int cn, .int ii, .int fi, .int fe])), (aL, .inl (cI, 4, .inl L)), (aT, .inl (cI, 4, .inl T)), (aU, .inl (cI, 6, .inl U))] H_1 := hP
  have hD : va_D A [(kl, .inr (1, [.ref aK, .ref aF, .ref aS, .ref aB, .int (nI n), .ref rk])), (aK, .inl (cI, 60, .inl K)), (aF, .inl (cI, 60, .inl F)), (aS, .inl (cI, 60, .inl S)), (aB, .inl (cZ, 60, .inl B)), (rk, .inr (0, [.ref aL, .ref aT, .ref aU, .int co, .int pl, .int st, .int jo, .int cn, .int ii, .int fi, .int fe])), (aL, .inl (cI, 4, .inl L)), (aT, .inl (cI, 4, .inl T)), (aU, .inl (cI, 6, .inl U))] := hD
  refine lv_aload_n hx hb dX1_rest_6 rfl (lv_at hl 0 rfl) ?_
  refine lv_iconst (v := 2) hx hb dX1_rest_7 (by decide) ?_
  refine lv_iload_n hx hb dX1_rest_8 rfl (lv_at hl 1 rfl) ?_
  refine lv_iconst (v := 0) hx hb dX1_rest_9 (by decide) ?_
  have hPc := hP.sub (ws' := [(kl, .inr (1, [.ref aK, .ref aF, .ref aS, .ref aB, .int (nI n), .ref rk])), (aK, .inl (cI, 60, .inl K)), (aF, .inl (cI, 60, .inl F)), (aS, .inl (cI, 60, .inl S)), (aB, .inl (cZ, 60, .inl B)), (rk, .inr (0, [.ref aL, .ref aT, .ref aU, .int co, .int pl, .int st, .int jo, .int cn, .int ii, .int fi, .int fe])), (aL, .inl (cI, 4, .inl L)), (aT, .inl (cI, 4, .inl T)), (aU, .inl (cI, 6, .inl U))]) [0, 1, 2, 3, 4, 5, 6, 7, 8] rfl
  have hDc := hD.sub (ws' := [(kl, .inr (1, [.ref aK, .ref aF, .ref aS, .ref aB, .int (nI n), .ref rk])), (aK, .inl (cI, 60, .inl K)), (aF, .inl (cI, 60, .inl F)), (aS, .inl (cI, 60, .inl S)), (aB, .inl (cZ, 60, .inl B)), (rk, .inr (0, [.ref aL, .ref aT, .ref aU, .int co, .int pl, .int st, .int jo, .int cn, .int ii, .int fi, .int fe])), (aL, .inl (cI, 4, .inl L)), (aT, .inl (cI, 4, .inl T)), (aU, .inl (cI, 6, .inl U))]) [0, 1, 2, 3, 4, 5, 6, 7, 8] (by decide) rfl
  have hKc := hK.sub (tys' := [(cI, .int), (cZ, .boolean)]) [0, 1] rfl
  have hFc := va_free (wc := [(kl, .inr (1, [.ref aK, .ref aF, .ref aS, .ref aB, .int (nI n), .ref rk])), (aK, .inl (cI, 60, .inl K)), (aF, .inl (cI, 60, .inl F)), (aS, .inl (cI, 60, .inl S)), (aB, .inl (cZ, 60, .inl B)), (rk, .inr (0, [.ref aL, .ref aT, .ref aU, .int co, .int pl, .int st, .int jo, .int cn, .int ii, .int fi, .int fe])), (aL, .inl (cI, 4, .inl L)), (aT, .inl (cI, 4, .inl T)), (aU, .inl (cI, 6, .inl U))]) hD hS hA [0, 1, 2, 3, 4, 5, 6, 7, 8] rfl
  refine va_calli (va_runV (As := [.int 2, .int a, .int 0]) (rest := []) ⟨hx, hb, hml, hown, hts⟩ (c_X1_append l dC dI cI cZ kl aK aF aS aB rk aL aT aU H_1.size L T K F S B U n co pl st jo cn ii fi fe 2 a 0 (hn)) (cwV 3 hts gX1_rest_X1_append rfl rfl rfl (by decide +kernel) ⟨Nat.le_of_ble_eq_true rfl, Nat.le_of_ble_eq_true rfl⟩) (pc_V hKc hPc hDc (ci := 1) (C := RX1) (T := TX1) (N := 6) (q0 := 0) rfl rfl) rfl rfl hl.1 rfl (lv_room (Nat.le_of_ble_eq_true rfl)) dX1_rest_10 ⟨Nat.le_of_ble_eq_true rfl, Nat.le_of_ble_eq_true rfl⟩) hS (fun q _ h => hFc q h) hFc (fun r_2 u t H_2 locs ht hvm hw hB hz1 hk1 hS => ?_)
  try dsimp only at hw hB
  have hw_2 := hw
  replace hw_2 := hw_2.symm
  subst hw_2
  obtain ⟨hP1, hD1⟩ := hB
  rw [ht] at hP1
  obtain ⟨hP, hD⟩ := va_join (wr := []) (w1 := [(kl, .inr (1, [.ref aK, .ref aF, .ref aS, .ref aB, .int (nI (n + 1)), .ref rk])), (aK, .inl (cI, 60, .inl (upd K n 2))), (aF, .inl (cI, 60, .inl (upd F n a))), (aS, .inl (cI, 60, .inl (upd S n 0))), (aB, .inl (cZ, 60, .inl (upd B n 0))), (rk, .inr (0, [.ref aL, .ref aT, .ref aU, .int co, .int pl, .int st, .int jo, .int cn, .int ii, .int fi, .int fe])), (aL, .inl (cI, 4, .inl L)), (aT, .inl (cI, 4, .inl T)), (aU, .inl (cI, 6, .inl U))]) hP hD [0, 1, 2, 3, 4, 5, 6, 7, 8] [] rfl rfl (by decide) (by decide) hk1 hFc hP1 hD1
  have hP : va_P (dC, dI) vwCl [(kl, .inr (1, [.ref aK, .ref aF, .ref aS, .ref aB, .int (nI (n + 1)), .ref rk])), (aK, .inl (cI, 60, .inl (upd K n 2))), (aF, .inl (cI, 60, .inl (upd F n a))), (aS, .inl (cI, 60, .inl (upd S n 0))), (aB, .inl (cZ, 60, .inl (upd B n 0))), (rk, .inr (0, [.ref aL, .ref aT, .ref aU, .int co, .int pl, .int st, .int jo, .int cn, .int ii, .int fi, .int fe])), (aL, .inl (cI, 4, .inl L)), (aT, .inl (cI, 4, .inl T)), (aU, .inl (cI, 6, .inl U))] H_2 := hP
  have hD : va_D A [(kl, .inr (1, [.ref aK, .ref aF, .ref aS, .ref aB, .int (nI (n + 1)), .ref rk])), (aK, .inl (cI, 60, .inl (upd K n 2))), (aF, .inl (cI, 60, .inl (upd F n a))), (aS, .inl (cI, 60, .inl (upd S n 0))), (aB, .inl (cZ, 60, .inl (upd B n 0))), (rk, .inr (0, [.ref aL, .ref aT, .ref aU, .int co, .int pl, .int st, .int jo, .int cn, .int ii, .int fi, .int fe])), (aL, .inl (cI, 4, .inl L)), (aT, .inl (cI, 4, .inl T)), (aU, .inl (cI, 6, .inl U))] := hD
  have hpost : (nI n) = nI n := by
    rfl
  have hP9 := hP.sub (ws' := [(kl, .inr (1, [.ref aK, .ref aF, .ref aS, .ref aB, .int (nI (n + 1)), .ref rk])), (aK, .inl (cI, 60, .inl (upd K n 2))), (aF, .inl (cI, 60, .inl (upd F n a))), (aS, .inl (cI, 60, .inl (upd S n 0))), (aB, .inl (cZ, 60, .inl (upd B n 0))), (rk, .inr (0, [.ref aL, .ref aT, .ref aU, .int co, .int pl, .int st, .int jo, .int cn, .int ii, .int fi, .int fe])), (aL, .inl (cI, 4, .inl L)), (aT, .inl (cI, 4, .inl T)), (aU, .inl (cI, 6, .inl U))]) [0, 1, 2, 3, 4, 5, 6, 7, 8] rfl
  have hD9 := hD.sub (ws' := [(kl, .inr (1, [.ref aK, .ref aF, .ref aS, .ref aB, .int (nI (n + 1)), .ref rk])), (aK, .inl (cI, 60, .inl (upd K n 2))), (aF, .inl (cI, 60, .inl (upd F n a))), (aS, .inl (cI, 60, .inl (upd S n 0))), (aB, .inl (cZ, 60, .inl (upd B n 0))), (rk, .inr (0, [.ref aL, .ref aT, .ref aU, .int co, .int pl, .int st, .int jo, .int cn, .int ii, .int fi, .int fe])), (aL, .inl (cI, 4, .inl L)), (aT, .inl (cI, 4, .inl T)), (aU, .inl (cI, 6, .inl U))]) [0, 1, 2, 3, 4, 5, 6, 7, 8] (by decide) rfl
  exact W.iret (v := nI n) hx hb hr (fun t ht hW => ⟨⟨(nI n), (), rfl, hpost, by rw [ht]; exact hP9, hD9⟩, hS.F ht⟩) hS.2.2 dX1_rest_13

set_option maxHeartbeats 4000000 in
set_option maxRecDepth 100000 in
theorem c_X1_go (l : Launch) (dC : Nat → ClassId) (dI : Nat → Nat → Nat) (cI cZ : ClassId) (kl aK aF aS aB rk aL aT aU : Nat) (sz : Nat) (L : N2I) (T : N2I) (K : N2I) (F : N2I) (S : N2I) (B : N2I) (U : N2I) (n : Nat) (co : Int32) (pl : Int32) (st : Int32) (jo : Int32) (cn : Int32) (ii : Int32) (fi : Int32) (fe : Int32) (a : Int32) (hn : n < 60) (h0 : ¬ a < 0) (h1 : a < 4) : Met l yX1_go wsX1_go ({ frames := 1, cells := 0, slots := 0, locals := 23 } : Room) (va_Pc [.ref kl, .int a] (pc_ (dC, dI) [(cI, .int), (cZ, .boolean)] [(kl, .inr (1, [.ref aK, .ref aF, .ref aS, .ref aB, .int (nI n), .ref rk])), (aK, .inl (cI, 60, .inl K)), (aF, .inl (cI, 60, .inl F)), (aS, .inl (cI, 60, .inl S)), (aB, .inl (cZ, 60, .inl B)), (rk, .inr (0, [.ref aL, .ref aT, .ref aU, .int co, .int pl, .int st, .int jo, .int cn, .int ii, .int fi, .int fe])), (aL, .inl (cI, 4, .inl L)), (aT, .inl (cI, 4, .inl T)), (aU, .inl (cI, 6, .inl U))] sz)) (va_Qi (fun (r : Int32) (u : Unit) => r = nI n) (fun (u : Unit) (t : State) => va_P (dC, dI) vwCl [(kl, .inr (1, [.ref aK, .ref aF, .ref aS, .ref aB, .int (nI (n + 1)), .ref rk])), (aK, .inl (cI, 60, .inl (upd K n 3))), (aF, .inl (cI, 60, .inl (upd F n a))), (aS, .inl (cI, 60, .inl (upd S n 0))), (aB, .inl (cZ, 60, .inl (upd B n 0))), (rk, .inr (0, [.ref aL, .ref aT, .ref aU, .int co, .int pl, .int st, .int jo, .int cn, .int ii, .int fi, .int fe])), (aL, .inl (cI, 4, .inl L)), (aT, .inl (cI, 4, .inl T)), (aU, .inl (cI, 6, .inl U))] t.heap ∧ va_D (va_A [(kl, .inr (1, [.ref aK, .ref aF, .ref aS, .ref aB, .int (nI n), .ref rk])), (aK, .inl (cI, 60, .inl K)), (aF, .inl (cI, 60, .inl F)), (aS, .inl (cI, 60, .inl S)), (aB, .inl (cZ, 60, .inl B)), (rk, .inr (0, [.ref aL, .ref aT, .ref aU, .int co, .int pl, .int st, .int jo, .int cn, .int ii, .int fi, .int fe])), (aL, .inl (cI, 4, .inl L)), (aT, .inl (cI, 4, .inl T)), (aU, .inl (cI, 6, .inl U))] sz) [(kl, .inr (1, [.ref aK, .ref aF, .ref aS, .ref aB, .int (nI (n + 1)), .ref rk])), (aK, .inl (cI, 60, .inl (upd K n 3))), (aF, .inl (cI, 60, .inl (upd F n a))), (aS, .inl (cI, 60, .inl (upd S n 0))), (aB, .inl (cZ, 60, .inl (upd B n 0))), (rk, .inr (0, [.ref aL, .ref aT, .ref aU, .int co, .int pl, .int st, .int jo, .int cn, .int ii, .int fi, .int fe])), (aL, .inl (cI, 4, .inl L)), (aT, .inl (cI, 4, .inl T)), (aU, .inl (cI, 6, .inl U))]) (va_A [(kl, .inr (1, [.ref aK, .ref aF, .ref aS, .ref aB, .int (nI n), .ref rk])), (aK, .inl (cI, 60, .inl K)), (aF, .inl (cI, 60, .inl F)), (aS, .inl (cI, 60, .inl S)), (aB, .inl (cZ, 60, .inl B)), (rk, .inr (0, [.ref aL, .ref aT, .ref aU, .int co, .int pl, .int st, .int jo, .int cn, .int ii, .int fi, .int fe])), (aL, .inl (cI, 4, .inl L)), (aT, .inl (cI, 4, .inl T)), (aU, .inl (cI, 6, .inl U))] sz)) 0 0 (va_A [(kl, .inr (1, [.ref aK, .ref aF, .ref aS, .ref aB, .int (nI n), .ref rk])), (aK, .inl (cI, 60, .inl K)), (aF, .inl (cI, 60, .inl F)), (aS, .inl (cI, 60, .inl S)), (aB, .inl (cZ, 60, .inl B)), (rk, .inr (0, [.ref aL, .ref aT, .ref aU, .int co, .int pl, .int st, .int jo, .int cn, .int ii, .int fi, .int fe])), (aL, .inl (cI, 4, .inl L)), (aT, .inl (cI, 4, .inl T)), (aU, .inl (cI, 6, .inl U))] sz) := by
  refine Met.ofW (cc := cX1_go) (maxL := 2) (ret := (some .int)) (by decide) rfl ?_
  intro p e s m args below meth c s₁ BB hml hv
  obtain ⟨rfl, hsz, hP, hK, hD0⟩ := hv
  have hx := BB.exec
  have hb := BB.bytes
  have hr := BB.returns
  have hts := atoms_spec (ws := wsX1_go) BB.pre
  have hown : s.vm.findClass RX1 = some m.cls := findClass_of_methodNamed BB.named
  have hlocks := BB.notSynchronized
  subst hsz
  have hD := hD0.self (sz := s.heap.size)
  generalize hAe : va_A [(kl, .inr (1, [.ref aK, .ref aF, .ref aS, .ref aB, .int (nI n), .ref rk])), (aK, .inl (cI, 60, .inl K)), (aF, .inl (cI, 60, .inl F)), (aS, .inl (cI, 60, .inl S)), (aB, .inl (cZ, 60, .inl B)), (rk, .inr (0, [.ref aL, .ref aT, .ref aU, .int co, .int pl, .int st, .int jo, .int cn, .int ii, .int fi, .int fe])), (aL, .inl (cI, 4, .inl L)), (aT, .inl (cI, 4, .inl T)), (aU, .inl (cI, 6, .inl U))] s.heap.size = A at hD ⊢
  have hA : ∀ q : Nat, s.heap.size ≤ q → A q := fun q h => by rw [← hAe]; exact Or.inr h
  have hS : va_S A s.heap s.heap [] := va_S.rf
  have hP : va_P (dC, dI) vwCl [(kl, .inr (1, [.ref aK, .ref aF, .ref aS, .ref aB, .int (nI n), .ref rk])), (aK, .inl (cI, 60, .inl K)), (aF, .inl (cI, 60, .inl F)), (aS, .inl (cI, 60, .inl S)), (aB, .inl (cZ, 60, .inl B)), (rk, .inr (0, [.ref aL, .ref aT, .ref aU, .int co, .int pl, .int st, .int jo, .int cn, .int ii, .int fi, .int fe])), (aL, .inl (cI, 4, .inl L)), (aT, .inl (cI, 4, .inl T)), (aU, .inl (cI, 6, .inl U))] s.heap := hP
  have hl := lv_entry ([.ref kl, .int a]) (n := 2) (Nat.le_of_ble_eq_true rfl)
  rw [lg_entry_eq]
  generalize (lg_sl ([.ref kl, .int a]) ++ List.replicate (2 - (lg_sl ([.ref kl, .int a])).length) Slot.unset).toArray = ls at hl ⊢
  have hl : lv_has ls 2 [(0, .ref kl), (1, .int a)] := hl
  refine lv_iload_n hx hb dX1_go_0 rfl (lv_at hl 1 rfl) ?_
  refine lv_iconst (v := 4) hx hb dX1_go_1 (by decide) ?_
  have hPc := hP.sub (ws' := []) [] rfl
  have hDc := hD.sub (ws' := []) [] (by decide) rfl
  have hKc := hK.sub (tys' := []) [] rfl
  have hFc := va_free (wc := []) hD hS hA [] rfl
  refine va_callv (va_runS (As := [.int a, .int 4]) (rest := []) ⟨hx, hb, hml, hown, hts⟩ (c_X1_needIndex l dC dI s.heap.size a 4 (h0) (h1)) (va_cwS 2 hts gX1_go_X1_needIndex rfl rfl rfl (by decide +kernel) ⟨Nat.le_of_ble_eq_true rfl, Nat.le_of_ble_eq_true rfl⟩) (pc_S hKc hPc hDc) rfl rfl hl.1 rfl (lv_room (Nat.le_of_ble_eq_true rfl)) dX1_go_2 ⟨Nat.le_of_ble_eq_true rfl, Nat.le_of_ble_eq_true rfl⟩) hS (fun q _ h => hFc q h) hFc (fun u t H_1 locs ht hvm hw hB hz1 hk1 hS => ?_)
  try dsimp only at hw hB
  have hw_1 := hw
  obtain ⟨hP1, hD1⟩ := hB
  rw [ht] at hP1
  obtain ⟨hP, hD⟩ := va_join (wr := [(kl, .inr (1, [.ref aK, .ref aF, .ref aS, .ref aB, .int (nI n), .ref rk])), (aK, .inl (cI, 60, .inl K)), (aF, .inl (cI, 60, .inl F)), (aS, .inl (cI, 60, .inl S)), (aB, .inl (cZ, 60, .inl B)), (rk, .inr (0, [.ref aL, .ref aT, .ref aU, .int co, .int pl, .int st, .int jo, .int cn, .int ii, .int fi, .int fe])), (aL, .inl (cI, 4, .inl L)), (aT, .inl (cI, 4, .inl T)), (aU, .inl (cI, 6, .inl U))]) (w1 := []) hP hD [] [0, 1, 2, 3, 4, 5, 6, 7, 8] rfl rfl (by decide) (by decide) hk1 hFc hP1 hD1
  have hP : va_P (dC, dI) vwCl [(kl, .inr (1, [.ref aK, .ref aF, .ref aS, .ref aB, .int (nI n), .ref rk])), (aK, .inl (cI, 60, .inl K)), (aF, .inl (cI, 60, .inl F)), (aS, .inl (cI, 60, .inl S)), (aB, .inl (cZ, 60, .inl B)), (rk, .inr (0, [.ref aL, .ref aT, .ref aU, .int co, .int pl, .int st, .int jo, .int cn, .int ii, .int fi, .int fe])), (aL, .inl (cI, 4, .inl L)), (aT, .inl (cI, 4, .inl T)), (aU, .inl (cI, 6, .inl U))] H_1 := hP
  have hD : va_D A [(kl, .inr (1, [.ref aK, .ref aF, .ref aS, .ref aB, .int (nI n), .ref rk])), (aK, .inl (cI, 60, .inl K)), (aF, .inl (cI, 60, .inl F)), (aS, .inl (cI, 60, .inl S)), (aB, .inl (cZ, 60, .inl B)), (rk, .inr (0, [.ref aL, .ref aT, .ref aU, .int co, .int pl, .int st, .int jo, .int cn, .int ii, .int fi, .int fe])), (aL, .inl (cI, 4, .inl L)), (aT, .inl (cI, 4, .inl T)), (aU, .inl (cI, 6, .inl U))] := hD
  refine lv_aload_n hx hb dX1_go_5 rfl (lv_at hl 0 rfl) ?_
  refine lv_iconst (v := 3) hx hb dX1_go_6 (by decide) ?_
  refine lv_iload_n hx hb dX1_go_7 rfl (lv_at hl 1 rfl) ?_
  refine lv_iconst (v := 0) hx hb dX1_go_8 (by decide) ?_
  have hPc := hP.sub (ws' := [(kl, .inr (1, [.ref aK, .ref aF, .ref aS, .ref aB, .int (nI n), .ref rk])), (aK, .inl (cI, 60, .inl K)), (aF, .inl (cI, 60, .inl F)), (aS, .inl (cI, 60, .inl S)), (aB, .inl (cZ, 60, .inl B)), (rk, .inr (0, [.ref aL, .ref aT, .ref aU, .int co, .int pl, .int st, .int jo, .int cn, .int ii, .int fi, .int fe])), (aL, .inl (cI, 4, .inl L)), (aT, .inl (cI, 4, .inl T)), (aU, .inl (cI, 6, .inl U))]) [0, 1, 2, 3, 4, 5, 6, 7, 8] rfl
  have hDc := hD.sub (ws' := [(kl, .inr (1, [.ref aK, .ref aF, .ref aS, .ref aB, .int (nI n), .ref rk])), (aK, .inl (cI, 60, .inl K)), (aF, .inl (cI, 60, .inl F)), (aS, .inl (cI, 60, .inl S)), (aB, .inl (cZ, 60, .inl B)), (rk, .inr (0, [.ref aL, .ref aT, .ref aU, .int co, .int pl, .int st, .int jo, .int cn, .int ii, .int fi, .int fe])), (aL, .inl (cI, 4, .inl L)), (aT, .inl (cI, 4, .inl T)), (aU, .inl (cI, 6, .inl U))]) [0, 1, 2, 3, 4, 5, 6, 7, 8] (by decide) rfl
  have hKc := hK.sub (tys' := [(cI, .int), (cZ, .boolean)]) [0, 1] rfl
  have hFc := va_free (wc := [(kl, .inr (1, [.ref aK, .ref aF, .ref aS, .ref aB, .int (nI n), .ref rk])), (aK, .inl (cI, 60, .inl K)), (aF, .inl (cI, 60, .inl F)), (aS, .inl (cI, 60, .inl S)), (aB, .inl (cZ, 60, .inl B)), (rk, .inr (0, [.ref aL, .ref aT, .ref aU, .int co, .int pl, .int st, .int jo, .int cn, .int ii, .int fi, .int fe])), (aL, .inl (cI, 4, .inl L)), (aT, .inl (cI, 4, .inl T)), (aU, .inl (cI, 6, .inl U))]) hD hS hA [0, 1, 2, 3, 4, 5, 6, 7, 8] rfl
  refine va_calli (va_runV (As := [.int 3, .int a, .int 0]) (rest := []) ⟨hx, hb, hml, hown, hts⟩ (c_X1_append l dC dI cI cZ kl aK aF aS aB rk aL aT aU H_1.size L T K F S B U n co pl st jo cn ii fi fe 3 a 0 (hn)) (cwV 3 hts gX1_go_X1_append rfl rfl rfl (by decide +kernel) ⟨Nat.le_of_ble_eq_true rfl, Nat.le_of_ble_eq_true rfl⟩) (pc_V hKc hPc hDc (ci := 1) (C := RX1) (T := TX1) (N := 6) (q0 := 0) rfl rfl) rfl rfl hl.1 rfl (lv_room (Nat.le_of_ble_eq_true rfl)) dX1_go_9 ⟨Nat.le_of_ble_eq_true rfl, Nat.le_of_ble_eq_true rfl⟩) hS (fun q _ h => hFc q h) hFc (fun r_2 u t H_2 locs ht hvm hw hB hz1 hk1 hS => ?_)
  try dsimp only at hw hB
  have hw_2 := hw
  replace hw_2 := hw_2.symm
  subst hw_2
  obtain ⟨hP1, hD1⟩ := hB
  rw [ht] at hP1
  obtain ⟨hP, hD⟩ := va_join (wr := []) (w1 := [(kl, .inr (1, [.ref aK, .ref aF, .ref aS, .ref aB, .int (nI (n + 1)), .ref rk])), (aK, .inl (cI, 60, .inl (upd K n 3))), (aF, .inl (cI, 60, .inl (upd F n a))), (aS, .inl (cI, 60, .inl (upd S n 0))), (aB, .inl (cZ, 60, .inl (upd B n 0))), (rk, .inr (0, [.ref aL, .ref aT, .ref aU, .int co, .int pl, .int st, .int jo, .int cn, .int ii, .int fi, .int fe])), (aL, .inl (cI, 4, .inl L)), (aT, .inl (cI, 4, .inl T)), (aU, .inl (cI, 6, .inl U))]) hP hD [0, 1, 2, 3, 4, 5, 6, 7, 8] [] rfl rfl (by decide) (by decide) hk1 hFc hP1 hD1
  have hP : va_P (dC, dI) vwCl [(kl, .inr (1, [.ref aK, .ref aF, .ref aS, .ref aB, .int (nI (n + 1)), .ref rk])), (aK, .inl (cI, 60, .inl (upd K n 3))), (aF, .inl (cI, 60, .inl (upd F n a))), (aS, .inl (cI, 60, .inl (upd S n 0))), (aB, .inl (cZ, 60, .inl (upd B n 0))), (rk, .inr (0, [.ref aL, .ref aT, .ref aU, .int co, .int pl, .int st, .int jo, .int cn, .int ii, .int fi, .int fe])), (aL, .inl (cI, 4, .inl L)), (aT, .inl (cI, 4, .inl T)), (aU, .inl (cI, 6, .inl U))] H_2 := hP
  have hD : va_D A [(kl, .inr (1, [.ref aK, .ref aF, .ref aS, .ref aB, .int (nI (n + 1)), .ref rk])), (aK, .inl (cI, 60, .inl (upd K n 3))), (aF, .inl (cI, 60, .inl (upd F n a))), (aS, .inl (cI, 60, .inl (upd S n 0))), (aB, .inl (cZ, 60, .inl (upd B n 0))), (rk, .inr (0, [.ref aL, .ref aT, .ref aU, .int co, .int pl, .int st, .int jo, .int cn, .int ii, .int fi, .int fe])), (aL, .inl (cI, 4, .inl L)), (aT, .inl (cI, 4, .inl T)), (aU, .inl (cI, 6, .inl U))] := hD
  have hpost : (nI n) = nI n := by
    rfl
  have hP9 := hP.sub (ws' := [(kl, .inr (1, [.ref aK, .ref aF, .ref aS, .ref aB, .int (nI (n + 1)), .ref rk])), (aK, .inl (cI, 60, .inl (upd K n 3))), (aF, .inl (cI, 60, .inl (upd F n a))), (aS, .inl (cI, 60, .inl (upd S n 0))), (aB, .inl (cZ, 60, .inl (upd B n 0))), (rk, .inr (0, [.ref aL, .ref aT, .ref aU, .int co, .int pl, .int st, .int jo, .int cn, .int ii, .int fi, .int fe])), (aL, .inl (cI, 4, .inl L)), (aT, .inl (cI, 4, .inl T)), (aU, .inl (cI, 6, .inl U))]) [0, 1, 2, 3, 4, 5, 6, 7, 8] rfl
  have hD9 := hD.sub (ws' := [(kl, .inr (1, [.ref aK, .ref aF, .ref aS, .ref aB, .int (nI (n + 1)), .ref rk])), (aK, .inl (cI, 60, .inl (upd K n 3))), (aF, .inl (cI, 60, .inl (upd F n a))), (aS, .inl (cI, 60, .inl (upd S n 0))), (aB, .inl (cZ, 60, .inl (upd B n 0))), (rk, .inr (0, [.ref aL, .ref aT, .ref aU, .int co, .int pl, .int st, .int jo, .int cn, .int ii, .int fi, .int fe])), (aL, .inl (cI, 4, .inl L)), (aT, .inl (cI, 4, .inl T)), (aU, .inl (cI, 6, .inl U))]) [0, 1, 2, 3, 4, 5, 6, 7, 8] (by decide) rfl
  exact W.iret (v := nI n) hx hb hr (fun t ht hW => ⟨⟨(nI n), (), rfl, hpost, by rw [ht]; exact hP9, hD9⟩, hS.F ht⟩) hS.2.2 dX1_go_12

set_option maxHeartbeats 4000000 in
set_option maxRecDepth 100000 in
theorem c_X1_pay (l : Launch) (dC : Nat → ClassId) (dI : Nat → Nat → Nat) (cI cZ : ClassId) (kl aK aF aS aB rk aL aT aU : Nat) (sz : Nat) (L : N2I) (T : N2I) (K : N2I) (F : N2I) (S : N2I) (B : N2I) (U : N2I) (n : Nat) (co : Int32) (pl : Int32) (st : Int32) (jo : Int32) (cn : Int32) (ii : Int32) (fi : Int32) (fe : Int32) (a : Int32) (b : Int32) (hn : n < 60) (h0 : ¬ a < 0) (h1 : a < 6) (h2 : ¬ b < 1) (h3 : b ≤ 99) : Met l yX1_pay wsX1_pay ({ frames := 1, cells := 0, slots := 0, locals := 23 } : Room) (va_Pc [.ref kl, .int a, .int b] (pc_ (dC, dI) [(cI, .int), (cZ, .boolean)] [(kl, .inr (1, [.ref aK, .ref aF, .ref aS, .ref aB, .int (nI n), .ref rk])), (aK, .inl (cI, 60, .inl K)), (aF, .inl (cI, 60, .inl F)), (aS, .inl (cI, 60, .inl S)), (aB, .inl (cZ, 60, .inl B)), (rk, .inr (0, [.ref aL, .ref aT, .ref aU, .int co, .int pl, .int st, .int jo, .int cn, .int ii, .int fi, .int fe])), (aL, .inl (cI, 4, .inl L)), (aT, .inl (cI, 4, .inl T)), (aU, .inl (cI, 6, .inl U))] sz)) (va_Qi (fun (r : Int32) (u : Unit) => r = nI n) (fun (u : Unit) (t : State) => va_P (dC, dI) vwCl [(kl, .inr (1, [.ref aK, .ref aF, .ref aS, .ref aB, .int (nI (n + 1)), .ref rk])), (aK, .inl (cI, 60, .inl (upd K n 4))), (aF, .inl (cI, 60, .inl (upd F n a))), (aS, .inl (cI, 60, .inl (upd S n b))), (aB, .inl (cZ, 60, .inl (upd B n 0))), (rk, .inr (0, [.ref aL, .ref aT, .ref aU, .int co, .int pl, .int st, .int jo, .int cn, .int ii, .int fi, .int fe])), (aL, .inl (cI, 4, .inl L)), (aT, .inl (cI, 4, .inl T)), (aU, .inl (cI, 6, .inl U))] t.heap ∧ va_D (va_A [(kl, .inr (1, [.ref aK, .ref aF, .ref aS, .ref aB, .int (nI n), .ref rk])), (aK, .inl (cI, 60, .inl K)), (aF, .inl (cI, 60, .inl F)), (aS, .inl (cI, 60, .inl S)), (aB, .inl (cZ, 60, .inl B)), (rk, .inr (0, [.ref aL, .ref aT, .ref aU, .int co, .int pl, .int st, .int jo, .int cn, .int ii, .int fi, .int fe])), (aL, .inl (cI, 4, .inl L)), (aT, .inl (cI, 4, .inl T)), (aU, .inl (cI, 6, .inl U))] sz) [(kl, .inr (1, [.ref aK, .ref aF, .ref aS, .ref aB, .int (nI (n + 1)), .ref rk])), (aK, .inl (cI, 60, .inl (upd K n 4))), (aF, .inl (cI, 60, .inl (upd F n a))), (aS, .inl (cI, 60, .inl (upd S n b))), (aB, .inl (cZ, 60, .inl (upd B n 0))), (rk, .inr (0, [.ref aL, .ref aT, .ref aU, .int co, .int pl, .int st, .int jo, .int cn, .int ii, .int fi, .int fe])), (aL, .inl (cI, 4, .inl L)), (aT, .inl (cI, 4, .inl T)), (aU, .inl (cI, 6, .inl U))]) (va_A [(kl, .inr (1, [.ref aK, .ref aF, .ref aS, .ref aB, .int (nI n), .ref rk])), (aK, .inl (cI, 60, .inl K)), (aF, .inl (cI, 60, .inl F)), (aS, .inl (cI, 60, .inl S)), (aB, .inl (cZ, 60, .inl B)), (rk, .inr (0, [.ref aL, .ref aT, .ref aU, .int co, .int pl, .int st, .int jo, .int cn, .int ii, .int fi, .int fe])), (aL, .inl (cI, 4, .inl L)), (aT, .inl (cI, 4, .inl T)), (aU, .inl (cI, 6, .inl U))] sz)) 0 0 (va_A [(kl, .inr (1, [.ref aK, .ref aF, .ref aS, .ref aB, .int (nI n), .ref rk])), (aK, .inl (cI, 60, .inl K)), (aF, .inl (cI, 60, .inl F)), (aS, .inl (cI, 60, .inl S)), (aB, .inl (cZ, 60, .inl B)), (rk, .inr (0, [.ref aL, .ref aT, .ref aU, .int co, .int pl, .int st, .int jo, .int cn, .int ii, .int fi, .int fe])), (aL, .inl (cI, 4, .inl L)), (aT, .inl (cI, 4, .inl T)), (aU, .inl (cI, 6, .inl U))] sz) := by
  refine Met.ofW (cc := cX1_pay) (maxL := 3) (ret := (some .int)) (by decide) rfl ?_
  intro p e s m args below meth c s₁ BB hml hv
  obtain ⟨rfl, hsz, hP, hK, hD0⟩ := hv
  have hx := BB.exec
  have hb := BB.bytes
  have hr := BB.returns
  have hts := atoms_spec (ws := wsX1_pay) BB.pre
  have hown : s.vm.findClass RX1 = some m.cls := findClass_of_methodNamed BB.named
  have hlocks := BB.notSynchronized
  subst hsz
  have hD := hD0.self (sz := s.heap.size)
  generalize hAe : va_A [(kl, .inr (1, [.ref aK, .ref aF, .ref aS, .ref aB, .int (nI n), .ref rk])), (aK, .inl (cI, 60, .inl K)), (aF, .inl (cI, 60, .inl F)), (aS, .inl (cI, 60, .inl S)), (aB, .inl (cZ, 60, .inl B)), (rk, .inr (0, [.ref aL, .ref aT, .ref aU, .int co, .int pl, .int st, .int jo, .int cn, .int ii, .int fi, .int fe])), (aL, .inl (cI, 4, .inl L)), (aT, .inl (cI, 4, .inl T)), (aU, .inl (cI, 6, .inl U))] s.heap.size = A at hD ⊢
  have hA : ∀ q : Nat, s.heap.size ≤ q → A q := fun q h => by rw [← hAe]; exact Or.inr h
  have hS : va_S A s.heap s.heap [] := va_S.rf
  have hP : va_P (dC, dI) vwCl [(kl, .inr (1, [.ref aK, .ref aF, .ref aS, .ref aB, .int (nI n), .ref rk])), (aK, .inl (cI, 60, .inl K)), (aF, .inl (cI, 60, .inl F)), (aS, .inl (cI, 60, .inl S)), (aB, .inl (cZ, 60, .inl B)), (rk, .inr (0, [.ref aL, .ref aT, .ref aU, .int co, .int pl, .int st, .int jo, .int cn, .int ii, .int fi, .int fe])), (aL, .inl (cI, 4, .inl L)), (aT, .inl (cI, 4, .inl T)), (aU, .inl (cI, 6, .inl U))] s.heap := hP
  have hl := lv_entry ([.ref kl, .int a, .int b]) (n := 3) (Nat.le_of_ble_eq_true rfl)
  rw [lg_entry_eq]
  generalize (lg_sl ([.ref kl, .int a, .int b]) ++ List.replicate (3 - (lg_sl ([.ref kl, .int a, .int b])).length) Slot.unset).toArray = ls at hl ⊢
  have hl : lv_has ls 3 [(0, .ref kl), (1, .int a), (2, .int b)] := hl
  refine lv_iload_n hx hb dX1_pay_0 rfl (lv_at hl 1 rfl) ?_
  refine lv_bipush (v := 6) hx hb dX1_pay_1 (by decide) ?_
  have hPc := hP.sub (ws' := []) [] rfl
  have hDc := hD.sub (ws' := []) [] (by decide) rfl
  have hKc := hK.sub (tys' := []) [] rfl
  have hFc := va_free (wc := []) hD hS hA [] rfl
  refine va_callv (va_runS (As := [.int a, .int 6]) (rest := []) ⟨hx, hb, hml, hown, hts⟩ (c_X1_needIndex l dC dI s.heap.size a 6 (h0) (h1)) (va_cwS 2 hts gX1_pay_X1_needIndex rfl rfl rfl (by decide +kernel) ⟨Nat.le_of_ble_eq_true rfl, Nat.le_of_ble_eq_true rfl⟩) (pc_S hKc hPc hDc) rfl rfl hl.1 rfl (lv_room (Nat.le_of_ble_eq_true rfl)) dX1_pay_3 ⟨Nat.le_of_ble_eq_true rfl, Nat.le_of_ble_eq_true rfl⟩) hS (fun q _ h => hFc q h) hFc (fun u t H_1 locs ht hvm hw hB hz1 hk1 hS => ?_)
  try dsimp only at hw hB
  have hw_1 := hw
  obtain ⟨hP1, hD1⟩ := hB
  rw [ht] at hP1
  obtain ⟨hP, hD⟩ := va_join (wr := [(kl, .inr (1, [.ref aK, .ref aF, .ref aS, .ref aB, .int (nI n), .ref rk])), (aK, .inl (cI, 60, .inl K)), (aF, .inl (cI, 60, .inl F)), (aS, .inl (cI, 60, .inl S)), (aB, .inl (cZ, 60, .inl B)), (rk, .inr (0, [.ref aL, .ref aT, .ref aU, .int co, .int pl, .int st, .int jo, .int cn, .int ii, .int fi, .int fe])), (aL, .inl (cI, 4, .inl L)), (aT, .inl (cI, 4, .inl T)), (aU, .inl (cI, 6, .inl U))]) (w1 := []) hP hD [] [0, 1, 2, 3, 4, 5, 6, 7, 8] rfl rfl (by decide) (by decide) hk1 hFc hP1 hD1
  have hP : va_P (dC, dI) vwCl [(kl, .inr (1, [.ref aK, .ref aF, .ref aS, .ref aB, .int (nI n), .ref rk])), (aK, .inl (cI, 60, .inl K)), (aF, .inl (cI, 60, .inl F)), (aS, .inl (cI, 60, .inl S)), (aB, .inl (cZ, 60, .inl B)), (rk, .inr (0, [.ref aL, .ref aT, .ref aU, .int co, .int pl, .int st, .int jo, .int cn, .int ii, .int fi, .int fe])), (aL, .inl (cI, 4, .inl L)), (aT, .inl (cI, 4, .inl T)), (aU, .inl (cI, 6, .inl U))] H_1 := hP
  have hD : va_D A [(kl, .inr (1, [.ref aK, .ref aF, .ref aS, .ref aB, .int (nI n), .ref rk])), (aK, .inl (cI, 60, .inl K)), (aF, .inl (cI, 60, .inl F)), (aS, .inl (cI, 60, .inl S)), (aB, .inl (cZ, 60, .inl B)), (rk, .inr (0, [.ref aL, .ref aT, .ref aU, .int co, .int pl, .int st, .int jo, .int cn, .int ii, .int fi, .int fe])), (aL, .inl (cI, 4, .inl L)), (aT, .inl (cI, 4, .inl T)), (aU, .inl (cI, 6, .inl U))] := hD
  refine lv_iload_n hx hb dX1_pay_6 rfl (lv_at hl 2 rfl) ?_
  refine lv_iconst (v := 1) hx hb dX1_pay_7 (by decide) ?_
  refine lv_bipush (v := 99) hx hb dX1_pay_8 (by decide) ?_
  have hPc := hP.sub (ws' := []) [] rfl
  have hDc := hD.sub (ws' := []) [] (by decide) rfl
  have hKc := hK.sub (tys' := []) [] rfl
  have hFc := va_free (wc := []) hD hS hA [] rfl
  refine va_callv (va_runS (As := [.int b, .int 1, .int 99]) (rest := []) ⟨hx, hb, hml, hown, hts⟩ (c_X1_needWithin l dC dI H_1.size b 1 99 (h2) (h3)) (va_cwS 3 hts gX1_pay_X1_needWithin rfl rfl rfl (by decide +kernel) ⟨Nat.le_of_ble_eq_true rfl, Nat.le_of_ble_eq_true rfl⟩) (pc_S hKc hPc hDc) rfl rfl hl.1 rfl (lv_room (Nat.le_of_ble_eq_true rfl)) dX1_pay_10 ⟨Nat.le_of_ble_eq_true rfl, Nat.le_of_ble_eq_true rfl⟩) hS (fun q _ h => hFc q h) hFc (fun u t H_2 locs ht hvm hw hB hz1 hk1 hS => ?_)
  try dsimp only at hw hB
  have hw_2 := hw
  obtain ⟨hP1, hD1⟩ := hB
  rw [ht] at hP1
  obtain ⟨hP, hD⟩ := va_join (wr := [(kl, .inr (1, [.ref aK, .ref aF, .ref aS, .ref aB, .int (nI n), .ref rk])), (aK, .inl (cI, 60, .inl K)), (aF, .inl (cI, 60, .inl F)), (aS, .inl (cI, 60, .inl S)), (aB, .inl (cZ, 60, .inl B)), (rk, .inr (0, [.ref aL, .ref aT, .ref aU, .int co, .int pl, .int st, .int jo, .int cn, .int ii, .int fi, .int fe])), (aL, .inl (cI, 4, .inl L)), (aT, .inl (cI, 4, .inl T)), (aU, .inl (cI, 6, .inl U))]) (w1 := []) hP hD [] [0, 1, 2, 3, 4, 5, 6, 7, 8] rfl rfl (by decide) (by decide) hk1 hFc hP1 hD1
  have hP : va_P (dC, dI) vwCl [(kl, .inr (1, [.ref aK, .ref aF, .ref aS, .ref aB, .int (nI n), .ref rk])), (aK, .inl (cI, 60, .inl K)), (aF, .inl (cI, 60, .inl F)), (aS, .inl (cI, 60, .inl S)), (aB, .inl (cZ, 60, .inl B)), (rk, .inr (0, [.ref aL, .ref aT, .ref aU, .int co, .int pl, .int st, .int jo, .int cn, .int ii, .int fi, .int fe])), (aL, .inl (cI, 4, .inl L)), (aT, .inl (cI, 4, .inl T)), (aU, .inl (cI, 6, .inl U))] H_2 := hP
  have hD : va_D A [(kl, .inr (1, [.ref aK, .ref aF, .ref aS, .ref aB, .int (nI n), .ref rk])), (aK, .inl (cI, 60, .inl K)), (aF, .inl (cI, 60, .inl F)), (aS, .inl (cI, 60, .inl S)), (aB, .inl (cZ, 60, .inl B)), (rk, .inr (0, [.ref aL, .ref aT, .ref aU, .int co, .int pl, .int st, .int jo, .int cn, .int ii, .int fi, .int fe])), (aL, .inl (cI, 4, .inl L)), (aT, .inl (cI, 4, .inl T)), (aU, .inl (cI, 6, .inl U))] := hD
  refine lv_aload_n hx hb dX1_pay_13 rfl (lv_at hl 0 rfl) ?_
  refine lv_iconst (v := 4) hx hb dX1_pay_14 (by decide) ?_
  refine lv_iload_n hx hb dX1_pay_15 rfl (lv_at hl 1 rfl) ?_
  refine lv_iload_n hx hb dX1_pay_16 rfl (lv_at hl 2 rfl) ?_
  have hPc := hP.sub (ws' := [(kl, .inr (1, [.ref aK, .ref aF, .ref aS, .ref aB, .int (nI n), .ref rk])), (aK, .inl (cI, 60, .inl K)), (aF, .inl (cI, 60, .inl F)), (aS, .inl (cI, 60, .inl S)), (aB, .inl (cZ, 60, .inl B)), (rk, .inr (0, [.ref aL, .ref aT, .ref aU, .int co, .int pl, .int st, .int jo, .int cn, .int ii, .int fi, .int fe])), (aL, .inl (cI, 4, .inl L)), (aT, .inl (cI, 4, .inl T)), (aU, .inl (cI, 6, .inl U))]) [0, 1, 2, 3, 4, 5, 6, 7, 8] rfl
  have hDc := hD.sub (ws' := [(kl, .inr (1, [.ref aK, .ref aF, .ref aS, .ref aB, .int (nI n), .ref rk])), (aK, .inl (cI, 60, .inl K)), (aF, .inl (cI, 60, .inl F)), (aS, .inl (cI, 60, .inl S)), (aB, .inl (cZ, 60, .inl B)), (rk, .inr (0, [.ref aL, .ref aT, .ref aU, .int co, .int pl, .int st, .int jo, .int cn, .int ii, .int fi, .int fe])), (aL, .inl (cI, 4, .inl L)), (aT, .inl (cI, 4, .inl T)), (aU, .inl (cI, 6, .inl U))]) [0, 1, 2, 3, 4, 5, 6, 7, 8] (by decide) rfl
  have hKc := hK.sub (tys' := [(cI, .int), (cZ, .boolean)]) [0, 1] rfl
  have hFc := va_free (wc := [(kl, .inr (1, [.ref aK, .ref aF, .ref aS, .ref aB, .int (nI n), .ref rk])), (aK, .inl (cI, 60, .inl K)), (aF, .inl (cI, 60, .inl F)), (aS, .inl (cI, 60, .inl S)), (aB, .inl (cZ, 60, .inl B)), (rk, .inr (0, [.ref aL, .ref aT, .ref aU, .int co, .int pl, .int st, .int jo, .int cn, .int ii, .int fi, .int fe])), (aL, .inl (cI, 4, .inl L)), (aT, .inl (cI, 4, .inl T)), (aU, .inl (cI, 6, .inl U))]) hD hS hA [0, 1, 2, 3, 4, 5, 6, 7, 8] rfl
  refine va_calli (va_runV (As := [.int 4, .int a, .int b]) (rest := []) ⟨hx, hb, hml, hown, hts⟩ (c_X1_append l dC dI cI cZ kl aK aF aS aB rk aL aT aU H_2.size L T K F S B U n co pl st jo cn ii fi fe 4 a b (hn)) (cwV 3 hts gX1_pay_X1_append rfl rfl rfl (by decide +kernel) ⟨Nat.le_of_ble_eq_true rfl, Nat.le_of_ble_eq_true rfl⟩) (pc_V hKc hPc hDc (ci := 1) (C := RX1) (T := TX1) (N := 6) (q0 := 0) rfl rfl) rfl rfl hl.1 rfl (lv_room (Nat.le_of_ble_eq_true rfl)) dX1_pay_17 ⟨Nat.le_of_ble_eq_true rfl, Nat.le_of_ble_eq_true rfl⟩) hS (fun q _ h => hFc q h) hFc (fun r_3 u t H_3 locs ht hvm hw hB hz1 hk1 hS => ?_)
  try dsimp only at hw hB
  have hw_3 := hw
  replace hw_3 := hw_3.symm
  subst hw_3
  obtain ⟨hP1, hD1⟩ := hB
  rw [ht] at hP1
  obtain ⟨hP, hD⟩ := va_join (wr := []) (w1 := [(kl, .inr (1, [.ref aK, .ref aF, .ref aS, .ref aB, .int (nI (n + 1)), .ref rk])), (aK, .inl (cI, 60, .inl (upd K n 4))), (aF, .inl (cI, 60, .inl (upd F n a))), (aS, .inl (cI, 60, .inl (upd S n b))), (aB, .inl (cZ, 60, .inl (upd B n 0))), (rk, .inr (0, [.ref aL, .ref aT, .ref aU, .int co, .int pl, .int st, .int jo, .int cn, .int ii, .int fi, .int fe])), (aL, .inl (cI, 4, .inl L)), (aT, .inl (cI, 4, .inl T)), (aU, .inl (cI, 6, .inl U))]) hP hD [0, 1, 2, 3, 4, 5, 6, 7, 8] [] rfl rfl (by decide) (by decide) hk1 hFc hP1 hD1
  have hP : va_P (dC, dI) vwCl [(kl, .inr (1, [.ref aK, .ref aF, .ref aS, .ref aB, .int (nI (n + 1)), .ref rk])), (aK, .inl (cI, 60, .inl (upd K n 4))), (aF, .inl (cI, 60, .inl (upd F n a))), (aS, .inl (cI, 60, .inl (upd S n b))), (aB, .inl (cZ, 60, .inl (upd B n 0))), (rk, .inr (0, [.ref aL, .ref aT, .ref aU, .int co, .int pl, .int st, .int jo, .int cn, .int ii, .int fi, .int fe])), (aL, .inl (cI, 4, .inl L)), (aT, .inl (cI, 4, .inl T)), (aU, .inl (cI, 6, .inl U))] H_3 := hP
  have hD : va_D A [(kl, .inr (1, [.ref aK, .ref aF, .ref aS, .ref aB, .int (nI (n + 1)), .ref rk])), (aK, .inl (cI, 60, .inl (upd K n 4))), (aF, .inl (cI, 60, .inl (upd F n a))), (aS, .inl (cI, 60, .inl (upd S n b))), (aB, .inl (cZ, 60, .inl (upd B n 0))), (rk, .inr (0, [.ref aL, .ref aT, .ref aU, .int co, .int pl, .int st, .int jo, .int cn, .int ii, .int fi, .int fe])), (aL, .inl (cI, 4, .inl L)), (aT, .inl (cI, 4, .inl T)), (aU, .inl (cI, 6, .inl U))] := hD
  have hpost : (nI n) = nI n := by
    rfl
  have hP9 := hP.sub (ws' := [(kl, .inr (1, [.ref aK, .ref aF, .ref aS, .ref aB, .int (nI (n + 1)), .ref rk])), (aK, .inl (cI, 60, .inl (upd K n 4))), (aF, .inl (cI, 60, .inl (upd F n a))), (aS, .inl (cI, 60, .inl (upd S n b))), (aB, .inl (cZ, 60, .inl (upd B n 0))), (rk, .inr (0, [.ref aL, .ref aT, .ref aU, .int co, .int pl, .int st, .int jo, .int cn, .int ii, .int fi, .int fe])), (aL, .inl (cI, 4, .inl L)), (aT, .inl (cI, 4, .inl T)), (aU, .inl (cI, 6, .inl U))]) [0, 1, 2, 3, 4, 5, 6, 7, 8] rfl
  have hD9 := hD.sub (ws' := [(kl, .inr (1, [.ref aK, .ref aF, .ref aS, .ref aB, .int (nI (n + 1)), .ref rk])), (aK, .inl (cI, 60, .inl (upd K n 4))), (aF, .inl (cI, 60, .inl (upd F n a))), (aS, .inl (cI, 60, .inl (upd S n b))), (aB, .inl (cZ, 60, .inl (upd B n 0))), (rk, .inr (0, [.ref aL, .ref aT, .ref aU, .int co, .int pl, .int st, .int jo, .int cn, .int ii, .int fi, .int fe])), (aL, .inl (cI, 4, .inl L)), (aT, .inl (cI, 4, .inl T)), (aU, .inl (cI, 6, .inl U))]) [0, 1, 2, 3, 4, 5, 6, 7, 8] (by decide) rfl
  exact W.iret (v := nI n) hx hb hr (fun t ht hW => ⟨⟨(nI n), (), rfl, hpost, by rw [ht]; exact hP9, hD9⟩, hS.F ht⟩) hS.2.2 dX1_pay_20

set_option maxHeartbeats 4000000 in
set_option maxRecDepth 100000 in
theorem c_X1_buy (l : Launch) (dC : Nat → ClassId) (dI : Nat → Nat → Nat) (cI cZ : ClassId) (kl aK aF aS aB rk aL aT aU : Nat) (sz : Nat) (L : N2I) (T : N2I) (K : N2I) (F : N2I) (S : N2I) (B : N2I) (U : N2I) (n : Nat) (co : Int32) (pl : Int32) (st : Int32) (jo : Int32) (cn : Int32) (ii : Int32) (fi : Int32) (fe : Int32) (a : Int32) (hn : n < 60) (h0 : ¬ a < 1) (h1 : a ≤ 20) : Met l yX1_buy wsX1_buy ({ frames := 1, cells := 0, slots := 0, locals := 23 } : Room) (va_Pc [.ref kl, .int a] (pc_ (dC, dI) [(cI, .int), (cZ, .boolean)] [(kl, .inr (1, [.ref aK, .ref aF, .ref aS, .ref aB, .int (nI n), .ref rk])), (aK, .inl (cI, 60, .inl K)), (aF, .inl (cI, 60, .inl F)), (aS, .inl (cI, 60, .inl S)), (aB, .inl (cZ, 60, .inl B)), (rk, .inr (0, [.ref aL, .ref aT, .ref aU, .int co, .int pl, .int st, .int jo, .int cn, .int ii, .int fi, .int fe])), (aL, .inl (cI, 4, .inl L)), (aT, .inl (cI, 4, .inl T)), (aU, .inl (cI, 6, .inl U))] sz)) (va_Qi (fun (r : Int32) (u : Unit) => r = nI n) (fun (u : Unit) (t : State) => va_P (dC, dI) vwCl [(kl, .inr (1, [.ref aK, .ref aF, .ref aS, .ref aB, .int (nI (n + 1)), .ref rk])), (aK, .inl (cI, 60, .inl (upd K n 5))), (aF, .inl (cI, 60, .inl (upd F n a))), (aS, .inl (cI, 60, .inl (upd S n 0))), (aB, .inl (cZ, 60, .inl (upd B n 0))), (rk, .inr (0, [.ref aL, .ref aT, .ref aU, .int co, .int pl, .int st, .int jo, .int cn, .int ii, .int fi, .int fe])), (aL, .inl (cI, 4, .inl L)), (aT, .inl (cI, 4, .inl T)), (aU, .inl (cI, 6, .inl U))] t.heap ∧ va_D (va_A [(kl, .inr (1, [.ref aK, .ref aF, .ref aS, .ref aB, .int (nI n), .ref rk])), (aK, .inl (cI, 60, .inl K)), (aF, .inl (cI, 60, .inl F)), (aS, .inl (cI, 60, .inl S)), (aB, .inl (cZ, 60, .inl B)), (rk, .inr (0, [.ref aL, .ref aT, .ref aU, .int co, .int pl, .int st, .int jo, .int cn, .int ii, .int fi, .int fe])), (aL, .inl (cI, 4, .inl L)), (aT, .inl (cI, 4, .inl T)), (aU, .inl (cI, 6, .inl U))] sz) [(kl, .inr (1, [.ref aK, .ref aF, .ref aS, .ref aB, .int (nI (n + 1)), .ref rk])), (aK, .inl (cI, 60, .inl (upd K n 5))), (aF, .inl (cI, 60, .inl (upd F n a))), (aS, .inl (cI, 60, .inl (upd S n 0))), (aB, .inl (cZ, 60, .inl (upd B n 0))), (rk, .inr (0, [.ref aL, .ref aT, .ref aU, .int co, .int pl, .int st, .int jo, .int cn, .int ii, .int fi, .int fe])), (aL, .inl (cI, 4, .inl L)), (aT, .inl (cI, 4, .inl T)), (aU, .inl (cI, 6, .inl U))]) (va_A [(kl, .inr (1, [.ref aK, .ref aF, .ref aS, .ref aB, .int (nI n), .ref rk])), (aK, .inl (cI, 60, .inl K)), (aF, .inl (cI, 60, .inl F)), (aS, .inl (cI, 60, .inl S)), (aB, .inl (cZ, 60, .inl B)), (rk, .inr (0, [.ref aL, .ref aT, .ref aU, .int co, .int pl, .int st, .int jo, .int cn, .int ii, .int fi, .int fe])), (aL, .inl (cI, 4, .inl L)), (aT, .inl (cI, 4, .inl T)), (aU, .inl (cI, 6, .inl U))] sz)) 0 0 (va_A [(kl, .inr (1, [.ref aK, .ref aF, .ref aS, .ref aB, .int (nI n), .ref rk])), (aK, .inl (cI, 60, .inl K)), (aF, .inl (cI, 60, .inl F)), (aS, .inl (cI, 60, .inl S)), (aB, .inl (cZ, 60, .inl B)), (rk, .inr (0, [.ref aL, .ref aT, .ref aU, .int co, .int pl, .int st, .int jo, .int cn, .int ii, .int fi, .int fe])), (aL, .inl (cI, 4, .inl L)), (aT, .inl (cI, 4, .inl T)), (aU, .inl (cI, 6, .inl U))] sz) := by
  refine Met.ofW (cc := cX1_buy) (maxL := 2) (ret := (some .int)) (by decide) rfl ?_
  intro p e s m args below meth c s₁ BB hml hv
  obtain ⟨rfl, hsz, hP, hK, hD0⟩ := hv
  have hx := BB.exec
  have hb := BB.bytes
  have hr := BB.returns
  have hts := atoms_spec (ws := wsX1_buy) BB.pre
  have hown : s.vm.findClass RX1 = some m.cls := findClass_of_methodNamed BB.named
  have hlocks := BB.notSynchronized
  subst hsz
  have hD := hD0.self (sz := s.heap.size)
  generalize hAe : va_A [(kl, .inr (1, [.ref aK, .ref aF, .ref aS, .ref aB, .int (nI n), .ref rk])), (aK, .inl (cI, 60, .inl K)), (aF, .inl (cI, 60, .inl F)), (aS, .inl (cI, 60, .inl S)), (aB, .inl (cZ, 60, .inl B)), (rk, .inr (0, [.ref aL, .ref aT, .ref aU, .int co, .int pl, .int st, .int jo, .int cn, .int ii, .int fi, .int fe])), (aL, .inl (cI, 4, .inl L)), (aT, .inl (cI, 4, .inl T)), (aU, .inl (cI, 6, .inl U))] s.heap.size = A at hD ⊢
  have hA : ∀ q : Nat, s.heap.size ≤ q → A q := fun q h => by rw [← hAe]; exact Or.inr h
  have hS : va_S A s.heap s.heap [] := va_S.rf
  have hP : va_P (dC, dI) vwCl [(kl, .inr (1, [.ref aK, .ref aF, .ref aS, .ref aB, .int (nI n), .ref rk])), (aK, .inl (cI, 60, .inl K)), (aF, .inl (cI, 60, .inl F)), (aS, .inl (cI, 60, .inl S)), (aB, .inl (cZ, 60, .inl B)), (rk, .inr (0, [.ref aL, .ref aT, .ref aU, .int co, .int pl, .int st, .int jo, .int cn, .int ii, .int fi, .int fe])), (aL, .inl (cI, 4, .inl L)), (aT, .inl (cI, 4, .inl T)), (aU, .inl (cI, 6, .inl U))] s.heap := hP
  have hl := lv_entry ([.ref kl, .int a]) (n := 2) (Nat.le_of_ble_eq_true rfl)
  rw [lg_entry_eq]
  generalize (lg_sl ([.ref kl, .int a]) ++ List.replicate (2 - (lg_sl ([.ref kl, .int a])).length) Slot.unset).toArray = ls at hl ⊢
  have hl : lv_has ls 2 [(0, .ref kl), (1, .int a)] := hl
  refine lv_iload_n hx hb dX1_buy_0 rfl (lv_at hl 1 rfl) ?_
  refine lv_iconst (v := 1) hx hb dX1_buy_1 (by decide) ?_
  refine lv_bipush (v := 20) hx hb dX1_buy_2 (by decide) ?_
  have hPc := hP.sub (ws' := []) [] rfl
  have hDc := hD.sub (ws' := []) [] (by decide) rfl
  have hKc := hK.sub (tys' := []) [] rfl
  have hFc := va_free (wc := []) hD hS hA [] rfl
  refine va_callv (va_runS (As := [.int a, .int 1, .int 20]) (rest := []) ⟨hx, hb, hml, hown, hts⟩ (c_X1_needWithin l dC dI s.heap.size a 1 20 (h0) (h1)) (va_cwS 3 hts gX1_buy_X1_needWithin rfl rfl rfl (by decide +kernel) ⟨Nat.le_of_ble_eq_true rfl, Nat.le_of_ble_eq_true rfl⟩) (pc_S hKc hPc hDc) rfl rfl hl.1 rfl (lv_room (Nat.le_of_ble_eq_true rfl)) dX1_buy_4 ⟨Nat.le_of_ble_eq_true rfl, Nat.le_of_ble_eq_true rfl⟩) hS (fun q _ h => hFc q h) hFc (fun u t H_1 locs ht hvm hw hB hz1 hk1 hS => ?_)
  try dsimp only at hw hB
  have hw_1 := hw
  obtain ⟨hP1, hD1⟩ := hB
  rw [ht] at hP1
  obtain ⟨hP, hD⟩ := va_join (wr := [(kl, .inr (1, [.ref aK, .ref aF, .ref aS, .ref aB, .int (nI n), .ref rk])), (aK, .inl (cI, 60, .inl K)), (aF, .inl (cI, 60, .inl F)), (aS, .inl (cI, 60, .inl S)), (aB, .inl (cZ, 60, .inl B)), (rk, .inr (0, [.ref aL, .ref aT, .ref aU, .int co, .int pl, .int st, .int jo, .int cn, .int ii, .int fi, .int fe])), (aL, .inl (cI, 4, .inl L)), (aT, .inl (cI, 4, .inl T)), (aU, .inl (cI, 6, .inl U))]) (w1 := []) hP hD [] [0, 1, 2, 3, 4, 5, 6, 7, 8] rfl rfl (by decide) (by decide) hk1 hFc hP1 hD1
  have hP : va_P (dC, dI) vwCl [(kl, .inr (1, [.ref aK, .ref aF, .ref aS, .ref aB, .int (nI n), .ref rk])), (aK, .inl (cI, 60, .inl K)), (aF, .inl (cI, 60, .inl F)), (aS, .inl (cI, 60, .inl S)), (aB, .inl (cZ, 60, .inl B)), (rk, .inr (0, [.ref aL, .ref aT, .ref aU, .int co, .int pl, .int st, .int jo, .int cn, .int ii, .int fi, .int fe])), (aL, .inl (cI, 4, .inl L)), (aT, .inl (cI, 4, .inl T)), (aU, .inl (cI, 6, .inl U))] H_1 := hP
  have hD : va_D A [(kl, .inr (1, [.ref aK, .ref aF, .ref aS, .ref aB, .int (nI n), .ref rk])), (aK, .inl (cI, 60, .inl K)), (aF, .inl (cI, 60, .inl F)), (aS, .inl (cI, 60, .inl S)), (aB, .inl (cZ, 60, .inl B)), (rk, .inr (0, [.ref aL, .ref aT, .ref aU, .int co, .int pl, .int st, .int jo, .int cn, .int ii, .int fi, .int fe])), (aL, .inl (cI, 4, .inl L)), (aT, .inl (cI, 4, .inl T)), (aU, .inl (cI, 6, .inl U))] := hD
  refine lv_aload_n hx hb dX1_buy_7 rfl (lv_at hl 0 rfl) ?_
  refine lv_iconst (v := 5) hx hb dX1_buy_8 (by decide) ?_
  refine lv_iload_n hx hb dX1_buy_9 rfl (lv_at hl 1 rfl) ?_
  refine lv_iconst (v := 0) hx hb dX1_buy_10 (by decide) ?_
  have hPc := hP.sub (ws' := [(kl, .inr (1, [.ref aK, .ref aF, .ref aS, .ref aB, .int (nI n), .ref rk])), (aK, .inl (cI, 60, .inl K)), (aF, .inl (cI, 60, .inl F)), (aS, .inl (cI, 60, .inl S)), (aB, .inl (cZ, 60, .inl B)), (rk, .inr (0, [.ref aL, .ref aT, .ref aU, .int co, .int pl, .int st, .int jo, .int cn, .int ii, .int fi, .int fe])), (aL, .inl (cI, 4, .inl L)), (aT, .inl (cI, 4, .inl T)), (aU, .inl (cI, 6, .inl U))]) [0, 1, 2, 3, 4, 5, 6, 7, 8] rfl
  have hDc := hD.sub (ws' := [(kl, .inr (1, [.ref aK, .ref aF, .ref aS, .ref aB, .int (nI n), .ref rk])), (aK, .inl (cI, 60, .inl K)), (aF, .inl (cI, 60, .inl F)), (aS, .inl (cI, 60, .inl S)), (aB, .inl (cZ, 60, .inl B)), (rk, .inr (0, [.ref aL, .ref aT, .ref aU, .int co, .int pl, .int st, .int jo, .int cn, .int ii, .int fi, .int fe])), (aL, .inl (cI, 4, .inl L)), (aT, .inl (cI, 4, .inl T)), (aU, .inl (cI, 6, .inl U))]) [0, 1, 2, 3, 4, 5, 6, 7, 8] (by decide) rfl
  have hKc := hK.sub (tys' := [(cI, .int), (cZ, .boolean)]) [0, 1] rfl
  have hFc := va_free (wc := [(kl, .inr (1, [.ref aK, .ref aF, .ref aS, .ref aB, .int (nI n), .ref rk])), (aK, .inl (cI, 60, .inl K)), (aF, .inl (cI, 60, .inl F)), (aS, .inl (cI, 60, .inl S)), (aB, .inl (cZ, 60, .inl B)), (rk, .inr (0, [.ref aL, .ref aT, .ref aU, .int co, .int pl, .int st, .int jo, .int cn, .int ii, .int fi, .int fe])), (aL, .inl (cI, 4, .inl L)), (aT, .inl (cI, 4, .inl T)), (aU, .inl (cI, 6, .inl U))]) hD hS hA [0, 1, 2, 3, 4, 5, 6, 7, 8] rfl
  refine va_calli (va_runV (As := [.int 5, .int a, .int 0]) (rest := []) ⟨hx, hb, hml, hown, hts⟩ (c_X1_append l dC dI cI cZ kl aK aF aS aB rk aL aT aU H_1.size L T K F S B U n co pl st jo cn ii fi fe 5 a 0 (hn)) (cwV 3 hts gX1_buy_X1_append rfl rfl rfl (by decide +kernel) ⟨Nat.le_of_ble_eq_true rfl, Nat.le_of_ble_eq_true rfl⟩) (pc_V hKc hPc hDc (ci := 1) (C := RX1) (T := TX1) (N := 6) (q0 := 0) rfl rfl) rfl rfl hl.1 rfl (lv_room (Nat.le_of_ble_eq_true rfl)) dX1_buy_11 ⟨Nat.le_of_ble_eq_true rfl, Nat.le_of_ble_eq_true rfl⟩) hS (fun q _ h => hFc q h) hFc (fun r_2 u t H_2 locs ht hvm hw hB hz1 hk1 hS => ?_)
  try dsimp only at hw hB
  have hw_2 := hw
  replace hw_2 := hw_2.symm
  subst hw_2
  obtain ⟨hP1, hD1⟩ := hB
  rw [ht] at hP1
  obtain ⟨hP, hD⟩ := va_join (wr := []) (w1 := [(kl, .inr (1, [.ref aK, .ref aF, .ref aS, .ref aB, .int (nI (n + 1)), .ref rk])), (aK, .inl (cI, 60, .inl (upd K n 5))), (aF, .inl (cI, 60, .inl (upd F n a))), (aS, .inl (cI, 60, .inl (upd S n 0))), (aB, .inl (cZ, 60, .inl (upd B n 0))), (rk, .inr (0, [.ref aL, .ref aT, .ref aU, .int co, .int pl, .int st, .int jo, .int cn, .int ii, .int fi, .int fe])), (aL, .inl (cI, 4, .inl L)), (aT, .inl (cI, 4, .inl T)), (aU, .inl (cI, 6, .inl U))]) hP hD [0, 1, 2, 3, 4, 5, 6, 7, 8] [] rfl rfl (by decide) (by decide) hk1 hFc hP1 hD1
  have hP : va_P (dC, dI) vwCl [(kl, .inr (1, [.ref aK, .ref aF, .ref aS, .ref aB, .int (nI (n + 1)), .ref rk])), (aK, .inl (cI, 60, .inl (upd K n 5))), (aF, .inl (cI, 60, .inl (upd F n a))), (aS, .inl (cI, 60, .inl (upd S n 0))), (aB, .inl (cZ, 60, .inl (upd B n 0))), (rk, .inr (0, [.ref aL, .ref aT, .ref aU, .int co, .int pl, .int st, .int jo, .int cn, .int ii, .int fi, .int fe])), (aL, .inl (cI, 4, .inl L)), (aT, .inl (cI, 4, .inl T)), (aU, .inl (cI, 6, .inl U))] H_2 := hP
  have hD : va_D A [(kl, .inr (1, [.ref aK, .ref aF, .ref aS, .ref aB, .int (nI (n + 1)), .ref rk])), (aK, .inl (cI, 60, .inl (upd K n 5))), (aF, .inl (cI, 60, .inl (upd F n a))), (aS, .inl (cI, 60, .inl (upd S n 0))), (aB, .inl (cZ, 60, .inl (upd B n 0))), (rk, .inr (0, [.ref aL, .ref aT, .ref aU, .int co, .int pl, .int st, .int jo, .int cn, .int ii, .int fi, .int fe])), (aL, .inl (cI, 4, .inl L)), (aT, .inl (cI, 4, .inl T)), (aU, .inl (cI, 6, .inl U))] := hD
  have hpost : (nI n) = nI n := by
    rfl
  have hP9 := hP.sub (ws' := [(kl, .inr (1, [.ref aK, .ref aF, .ref aS, .ref aB, .int (nI (n + 1)), .ref rk])), (aK, .inl (cI, 60, .inl (upd K n 5))), (aF, .inl (cI, 60, .inl (upd F n a))), (aS, .inl (cI, 60, .inl (upd S n 0))), (aB, .inl (cZ, 60, .inl (upd B n 0))), (rk, .inr (0, [.ref aL, .ref aT, .ref aU, .int co, .int pl, .int st, .int jo, .int cn, .int ii, .int fi, .int fe])), (aL, .inl (cI, 4, .inl L)), (aT, .inl (cI, 4, .inl T)), (aU, .inl (cI, 6, .inl U))]) [0, 1, 2, 3, 4, 5, 6, 7, 8] rfl
  have hD9 := hD.sub (ws' := [(kl, .inr (1, [.ref aK, .ref aF, .ref aS, .ref aB, .int (nI (n + 1)), .ref rk])), (aK, .inl (cI, 60, .inl (upd K n 5))), (aF, .inl (cI, 60, .inl (upd F n a))), (aS, .inl (cI, 60, .inl (upd S n 0))), (aB, .inl (cZ, 60, .inl (upd B n 0))), (rk, .inr (0, [.ref aL, .ref aT, .ref aU, .int co, .int pl, .int st, .int jo, .int cn, .int ii, .int fi, .int fe])), (aL, .inl (cI, 4, .inl L)), (aT, .inl (cI, 4, .inl T)), (aU, .inl (cI, 6, .inl U))]) [0, 1, 2, 3, 4, 5, 6, 7, 8] (by decide) rfl
  exact W.iret (v := nI n) hx hb hr (fun t ht hW => ⟨⟨(nI n), (), rfl, hpost, by rw [ht]; exact hP9, hD9⟩, hS.F ht⟩) hS.2.2 dX1_buy_14

set_option maxHeartbeats 4000000 in
set_option maxRecDepth 100000 in
theorem c_X1_set (l : Launch) (dC : Nat → ClassId) (dI : Nat → Nat → Nat) (cI cZ : ClassId) (kl aK aF aS aB rk aL aT aU : Nat) (sz : Nat)  (L : N2I) (T : N2I) (K : N2I) (F : N2I) (S : N2I) (B : N2I) (U : N2I) (n : Nat) (co : Int32) (pl : Int32) (st : Int32) (jo : Int32) (cn : Int32) (ii : Int32) (fi : Int32) (fe : Int32) (i : Nat) (a : Int32) (b : Int32) (hi : i < 4) (h0 : ¬ a < 0) (h1 : a ≤ 9) (h2 : ¬ b < 0) (h3 : b ≤ 9) : Met l yX1_set wsX1_set ({ frames := 1, cells := 0, slots := 0, locals := 22 } : Room) (va_Pc [.ref kl, .int (nI i), .int a, .int b] (pn_  (dC, dI) [(cI, .int), (cZ, .boolean)] [(kl, .inr (1, [.ref aK, .ref aF, .ref aS, .ref aB, .int (nI n), .ref rk])), (aK, .inl (cI, 60, .inl K)), (aF, .inl (cI, 60, .inl F)), (aS, .inl (cI, 60, .inl S)), (aB, .inl (cZ, 60, .inl B)), (rk, .inr (0, [.ref aL, .ref aT, .ref aU, .int co, .int pl, .int st, .int jo, .int cn, .int ii, .int fi, .int fe])), (aL, .inl (cI, 4, .inl L)), (aT, .inl (cI, 4, .inl T)), (aU, .inl (cI, 6, .inl U))] sz)) (va_Qi (fun (r : Int32) (u : Unit) => r = 10 * L i + T i) (fun (u : Unit) (t : State) => va_P (dC, dI) vwCl [(kl, .inr (1, [.ref aK, .ref aF, .ref aS, .ref aB, .int (nI n), .ref rk])), (aK, .inl (cI, 60, .inl K)), (aF, .inl (cI, 60, .inl F)), (aS, .inl (cI, 60, .inl S)), (aB, .inl (cZ, 60, .inl B)), (rk, .inr (0, [.ref aL, .ref aT, .ref aU, .int co, .int pl, .int st, .int jo, .int cn, .int ii, .int fi, .int fe])), (aL, .inl (cI, 4, .inl (upd L i a))), (aT, .inl (cI, 4, .inl (upd T i b))), (aU, .inl (cI, 6, .inl U))] t.heap ∧ va_D (va_A [(kl, .inr (1, [.ref aK, .ref aF, .ref aS, .ref aB, .int (nI n), .ref rk])), (aK, .inl (cI, 60, .inl K)), (aF, .inl (cI, 60, .inl F)), (aS, .inl (cI, 60, .inl S)), (aB, .inl (cZ, 60, .inl B)), (rk, .inr (0, [.ref aL, .ref aT, .ref aU, .int co, .int pl, .int st, .int jo, .int cn, .int ii, .int fi, .int fe])), (aL, .inl (cI, 4, .inl L)), (aT, .inl (cI, 4, .inl T)), (aU, .inl (cI, 6, .inl U))] sz) [(kl, .inr (1, [.ref aK, .ref aF, .ref aS, .ref aB, .int (nI n), .ref rk])), (aK, .inl (cI, 60, .inl K)), (aF, .inl (cI, 60, .inl F)), (aS, .inl (cI, 60, .inl S)), (aB, .inl (cZ, 60, .inl B)), (rk, .inr (0, [.ref aL, .ref aT, .ref aU, .int co, .int pl, .int st, .int jo, .int cn, .int ii, .int fi, .int fe])), (aL, .inl (cI, 4, .inl (upd L i a))), (aT, .inl (cI, 4, .inl (upd T i b))), (aU, .inl (cI, 6, .inl U))]) (va_A [(kl, .inr (1, [.ref aK, .ref aF, .ref aS, .ref aB, .int (nI n), .ref rk])), (aK, .inl (cI, 60, .inl K)), (aF, .inl (cI, 60, .inl F)), (aS, .inl (cI, 60, .inl S)), (aB, .inl (cZ, 60, .inl B)), (rk, .inr (0, [.ref aL, .ref aT, .ref aU, .int co, .int pl, .int st, .int jo, .int cn, .int ii, .int fi, .int fe])), (aL, .inl (cI, 4, .inl L)), (aT, .inl (cI, 4, .inl T)), (aU, .inl (cI, 6, .inl U))] sz)) 0 0 (va_A [(kl, .inr (1, [.ref aK, .ref aF, .ref aS, .ref aB, .int (nI n), .ref rk])), (aK, .inl (cI, 60, .inl K)), (aF, .inl (cI, 60, .inl F)), (aS, .inl (cI, 60, .inl S)), (aB, .inl (cZ, 60, .inl B)), (rk, .inr (0, [.ref aL, .ref aT, .ref aU, .int co, .int pl, .int st, .int jo, .int cn, .int ii, .int fi, .int fe])), (aL, .inl (cI, 4, .inl L)), (aT, .inl (cI, 4, .inl T)), (aU, .inl (cI, 6, .inl U))] sz) := by
  refine Met.ofW (cc := cX1_set) (maxL := 5) (ret := (some .int)) (by decide) rfl ?_
  intro p e s m args below meth c s₁ BB hml hv
  obtain ⟨rfl, hsz, hP, hK, hD0, hN⟩ := hv
  have hx := BB.exec
  have hb := BB.bytes
  have hr := BB.returns
  have hts := atoms_spec (ws := wsX1_set) BB.pre
  have hown : s.vm.findClass RX1 = some m.cls := findClass_of_methodNamed BB.named
  have hlocks := BB.notSynchronized
  subst hsz
  have hD := hD0.self (sz := s.heap.size)
  generalize hAe : va_A [(kl, .inr (1, [.ref aK, .ref aF, .ref aS, .ref aB, .int (nI n), .ref rk])), (aK, .inl (cI, 60, .inl K)), (aF, .inl (cI, 60, .inl F)), (aS, .inl (cI, 60, .inl S)), (aB, .inl (cZ, 60, .inl B)), (rk, .inr (0, [.ref aL, .ref aT, .ref aU, .int co, .int pl, .int st, .int jo, .int cn, .int ii, .int fi, .int fe])), (aL, .inl (cI, 4, .inl L)), (aT, .inl (cI, 4, .inl T)), (aU, .inl (cI, 6, .inl U))] s.heap.size = A at hD ⊢
  have hA : ∀ q : Nat, s.heap.size ≤ q → A q := fun q h => by rw [← hAe]; exact Or.inr h
  have hS : va_S A s.heap s.heap [] := va_S.rf
  have hP : va_P (dC, dI) vwCl [(kl, .inr (1, [.ref aK, .ref aF, .ref aS, .ref aB, .int (nI n), .ref rk])), (aK, .inl (cI, 60, .inl K)), (aF, .inl (cI, 60, .inl F)), (aS, .inl (cI, 60, .inl S)), (aB, .inl (cZ, 60, .inl B)), (rk, .inr (0, [.ref aL, .ref aT, .ref aU, .int co, .int pl, .int st, .int jo, .int cn, .int ii, .int fi, .int fe])), (aL, .inl (cI, 4, .inl L)), (aT, .inl (cI, 4, .inl T)), (aU, .inl (cI, 6, .inl U))] s.heap := hP
  have hl := lv_entry ([.ref kl, .int (nI i), .int a, .int b]) (n := 5) (Nat.le_of_ble_eq_true rfl)
  rw [lg_entry_eq]
  generalize (lg_sl ([.ref kl, .int (nI i), .int a, .int b]) ++ List.replicate (5 - (lg_sl ([.ref kl, .int (nI i), .int a, .int b])).length) Slot.unset).toArray = ls at hl ⊢
  have hl : lv_has ls 5 [(0, .ref kl), (1, .int (nI i)), (2, .int a), (3, .int b)] := hl
  have k0 := hts (.fieldLink RX1 30 "KnifeLedger" "reckoning" "LKnifeLedger$Reckoning;") (by decide +kernel)
  have hinX1 : ∀ w ∈ wsX10, w ∈ wsX1_set := by decide +kernel
  have hinX0 : ∀ w ∈ wsX00, w ∈ wsX1_set := by decide +kernel
  refine lv_iload_n hx hb dX1_set_0 rfl (lv_at hl 1 rfl) ?_
  refine lv_iconst (v := 4) hx hb dX1_set_1 (by decide) ?_
  have hPc := hP.sub (ws' := []) [] rfl
  have hDc := hD.sub (ws' := []) [] (by decide) rfl
  have hKc := hK.sub (tys' := []) [] rfl
  have hFc := va_free (wc := []) hD hS hA [] rfl
  refine va_callv (va_runS (As := [.int (nI i), .int 4]) (rest := []) ⟨hx, hb, hml, hown, hts⟩ (c_X1_needIndex l dC dI s.heap.size (nI i) 4 (nI_pos (by omega)) (nI_lt (b := 4) hi (by omega))) (va_cwS 2 hts gX1_set_X1_needIndex rfl rfl rfl (by decide +kernel) ⟨Nat.le_of_ble_eq_true rfl, Nat.le_of_ble_eq_true rfl⟩) (pc_S hKc hPc hDc) rfl rfl hl.1 rfl (lv_room (Nat.le_of_ble_eq_true rfl)) dX1_set_2 ⟨Nat.le_of_ble_eq_true rfl, Nat.le_of_ble_eq_true rfl⟩) hS (fun q _ h => hFc q h) hFc (fun u t H_1 locs ht hvm hw hB hz1 hk1 hS => ?_)
  try dsimp only at hw hB
  have hw_1 := hw
  obtain ⟨hP1, hD1⟩ := hB
  rw [ht] at hP1
  obtain ⟨hP, hD⟩ := va_join (wr := [(kl, .inr (1, [.ref aK, .ref aF, .ref aS, .ref aB, .int (nI n), .ref rk])), (aK, .inl (cI, 60, .inl K)), (aF, .inl (cI, 60, .inl F)), (aS, .inl (cI, 60, .inl S)), (aB, .inl (cZ, 60, .inl B)), (rk, .inr (0, [.ref aL, .ref aT, .ref aU, .int co, .int pl, .int st, .int jo, .int cn, .int ii, .int fi, .int fe])), (aL, .inl (cI, 4, .inl L)), (aT, .inl (cI, 4, .inl T)), (aU, .inl (cI, 6, .inl U))]) (w1 := []) hP hD [] [0, 1, 2, 3, 4, 5, 6, 7, 8] rfl rfl (by decide) (by decide) hk1 hFc hP1 hD1
  have hP : va_P (dC, dI) vwCl [(kl, .inr (1, [.ref aK, .ref aF, .ref aS, .ref aB, .int (nI n), .ref rk])), (aK, .inl (cI, 60, .inl K)), (aF, .inl (cI, 60, .inl F)), (aS, .inl (cI, 60, .inl S)), (aB, .inl (cZ, 60, .inl B)), (rk, .inr (0, [.ref aL, .ref aT, .ref aU, .int co, .int pl, .int st, .int jo, .int cn, .int ii, .int fi, .int fe])), (aL, .inl (cI, 4, .inl L)), (aT, .inl (cI, 4, .inl T)), (aU, .inl (cI, 6, .inl U))] H_1 := hP
  have hD : va_D A [(kl, .inr (1, [.ref aK, .ref aF, .ref aS, .ref aB, .int (nI n), .ref rk])), (aK, .inl (cI, 60, .inl K)), (aF, .inl (cI, 60, .inl F)), (aS, .inl (cI, 60, .inl S)), (aB, .inl (cZ, 60, .inl B)), (rk, .inr (0, [.ref aL, .ref aT, .ref aU, .int co, .int pl, .int st, .int jo, .int cn, .int ii, .int fi, .int fe])), (aL, .inl (cI, 4, .inl L)), (aT, .inl (cI, 4, .inl T)), (aU, .inl (cI, 6, .inl U))] := hD
  refine lv_iload_n hx hb dX1_set_5 rfl (lv_at hl 2 rfl) ?_
  refine lv_iconst (v := 0) hx hb dX1_set_6 (by decide) ?_
  refine lv_bipush (v := 9) hx hb dX1_set_7 (by decide) ?_
  have hPc := hP.sub (ws' := []) [] rfl
  have hDc := hD.sub (ws' := []) [] (by decide) rfl
  have hKc := hK.sub (tys' := []) [] rfl
  have hFc := va_free (wc := []) hD hS hA [] rfl
  refine va_callv (va_runS (As := [.int a, .int 0, .int 9]) (rest := []) ⟨hx, hb, hml, hown, hts⟩ (c_X1_needWithin l dC dI H_1.size a 0 9 (h0) (h1)) (va_cwS 3 hts gX1_set_X1_needWithin rfl rfl rfl (by decide +kernel) ⟨Nat.le_of_ble_eq_true rfl, Nat.le_of_ble_eq_true rfl⟩) (pc_S hKc hPc hDc) rfl rfl hl.1 rfl (lv_room (Nat.le_of_ble_eq_true rfl)) dX1_set_9 ⟨Nat.le_of_ble_eq_true rfl, Nat.le_of_ble_eq_true rfl⟩) hS (fun q _ h => hFc q h) hFc (fun u t H_2 locs ht hvm hw hB hz1 hk1 hS => ?_)
  try dsimp only at hw hB
  have hw_2 := hw
  obtain ⟨hP1, hD1⟩ := hB
  rw [ht] at hP1
  obtain ⟨hP, hD⟩ := va_join (wr := [(kl, .inr (1, [.ref aK, .ref aF, .ref aS, .ref aB, .int (nI n), .ref rk])), (aK, .inl (cI, 60, .inl K)), (aF, .inl (cI, 60, .inl F)), (aS, .inl (cI, 60, .inl S)), (aB, .inl (cZ, 60, .inl B)), (rk, .inr (0, [.ref aL, .ref aT, .ref aU, .int co, .int pl, .int st, .int jo, .int cn, .int ii, .int fi, .int fe])), (aL, .inl (cI, 4, .inl L)), (aT, .inl (cI, 4, .inl T)), (aU, .inl (cI, 6, .inl U))]) (w1 := []) hP hD [] [0, 1, 2, 3, 4, 5, 6, 7, 8] rfl rfl (by decide) (by decide) hk1 hFc hP1 hD1
  have hP : va_P (dC, dI) vwCl [(kl, .inr (1, [.ref aK, .ref aF, .ref aS, .ref aB, .int (nI n), .ref rk])), (aK, .inl (cI, 60, .inl K)), (aF, .inl (cI, 60, .inl F)), (aS, .inl (cI, 60, .inl S)), (aB, .inl (cZ, 60, .inl B)), (rk, .inr (0, [.ref aL, .ref aT, .ref aU, .int co, .int pl, .int st, .int jo, .int cn, .int ii, .int fi, .int fe])), (aL, .inl (cI, 4, .inl L)), (aT, .inl (cI, 4, .inl T)), (aU, .inl (cI, 6, .inl U))] H_2 := hP
  have hD : va_D A [(kl, .inr (1, [.ref aK, .ref aF, .ref aS, .ref aB, .int (nI n), .ref rk])), (aK, .inl (cI, 60, .inl K)), (aF, .inl (cI, 60, .inl F)), (aS, .inl (cI, 60, .inl S)), (aB, .inl (cZ, 60, .inl B)), (rk, .inr (0, [.ref aL, .ref aT, .ref aU, .int co, .int pl, .int st, .int jo, .int cn, .int ii, .int fi, .int fe])), (aL, .inl (cI, 4, .inl L)), (aT, .inl (cI, 4, .inl T)), (aU, .inl (cI, 6, .inl U))] := hD
  refine lv_iload_n hx hb dX1_set_12 rfl (lv_at hl 3 rfl) ?_
  refine lv_iconst (v := 0) hx hb dX1_set_13 (by decide) ?_
  refine lv_bipush (v := 9) hx hb dX1_set_14 (by decide) ?_
  have hPc := hP.sub (ws' := []) [] rfl
  have hDc := hD.sub (ws' := []) [] (by decide) rfl
  have hKc := hK.sub (tys' := []) [] rfl
  have hFc := va_free (wc := []) hD hS hA [] rfl
  refine va_callv (va_runS (As := [.int b, .int 0, .int 9]) (rest := []) ⟨hx, hb, hml, hown, hts⟩ (c_X1_needWithin l dC dI H_2.size b 0 9 (h2) (h3)) (va_cwS 3 hts gX1_set_X1_needWithin rfl rfl rfl (by decide +kernel) ⟨Nat.le_of_ble_eq_true rfl, Nat.le_of_ble_eq_true rfl⟩) (pc_S hKc hPc hDc) rfl rfl hl.1 rfl (lv_room (Nat.le_of_ble_eq_true rfl)) dX1_set_16 ⟨Nat.le_of_ble_eq_true rfl, Nat.le_of_ble_eq_true rfl⟩) hS (fun q _ h => hFc q h) hFc (fun u t H_3 locs ht hvm hw hB hz1 hk1 hS => ?_)
  try dsimp only at hw hB
  have hw_3 := hw
  obtain ⟨hP1, hD1⟩ := hB
  rw [ht] at hP1
  obtain ⟨hP, hD⟩ := va_join (wr := [(kl, .inr (1, [.ref aK, .ref aF, .ref aS, .ref aB, .int (nI n), .ref rk])), (aK, .inl (cI, 60, .inl K)), (aF, .inl (cI, 60, .inl F)), (aS, .inl (cI, 60, .inl S)), (aB, .inl (cZ, 60, .inl B)), (rk, .inr (0, [.ref aL, .ref aT, .ref aU, .int co, .int pl, .int st, .int jo, .int cn, .int ii, .int fi, .int fe])), (aL, .inl (cI, 4, .inl L)), (aT, .inl (cI, 4, .inl T)), (aU, .inl (cI, 6, .inl U))]) (w1 := []) hP hD [] [0, 1, 2, 3, 4, 5, 6, 7, 8] rfl rfl (by decide) (by decide) hk1 hFc hP1 hD1
  have hP : va_P (dC, dI) vwCl [(kl, .inr (1, [.ref aK, .ref aF, .ref aS, .ref aB, .int (nI n), .ref rk])), (aK, .inl (cI, 60, .inl K)), (aF, .inl (cI, 60, .inl F)), (aS, .inl (cI, 60, .inl S)), (aB, .inl (cZ, 60, .inl B)), (rk, .inr (0, [.ref aL, .ref aT, .ref aU, .int co, .int pl, .int st, .int jo, .int cn, .int ii, .int fi, .int fe])), (aL, .inl (cI, 4, .inl L)), (aT, .inl (cI, 4, .inl T)), (aU, .inl (cI, 6, .inl U))] H_3 := hP
  have hD : va_D A [(kl, .inr (1, [.ref aK, .ref aF, .ref aS, .ref aB, .int (nI n), .ref rk])), (aK, .inl (cI, 60, .inl K)), (aF, .inl (cI, 60, .inl F)), (aS, .inl (cI, 60, .inl S)), (aB, .inl (cZ, 60, .inl B)), (rk, .inr (0, [.ref aL, .ref aT, .ref aU, .int co, .int pl, .int st, .int jo, .int cn, .int ii, .int fi, .int fe])), (aL, .inl (cI, 4, .inl L)), (aT, .inl (cI, 4, .inl T)), (aU, .inl (cI, 6, .inl U))] := hD
  refine lv_bipush (v := 10) hx hb dX1_set_19 (by decide) ?_
  refine lv_aload_n hx hb dX1_set_21 rfl (lv_at hl 0 rfl) ?_
  refine va_get (D := (dC, dI)) (ci := 1) (v := .ref rk) (C := RX1) (T := TX1) (N := 6) hx hb hts hinX1 hown hK hP 0 rfl rfl 5 (by decide) k0 (fun _ h9 => h9) rfl dX1_set_22 ?_
  refine va_getN (D := (dC, dI)) (ci := 0) (v := .ref aL) (C := RX0) (T := TX0) (N := 11) hx hb hts hinX0 hown hK hP 5 rfl rfl 0 (by decide) (nw_use hN (by decide +kernel) : (Cond.fieldLinkNest RX1 42 "KnifeLedger$Reckoning" "lights" "[I" "KnifeLedger").before _ _ = true) (fun _ h9 => h9) rfl dX1_set_25 ?_
  refine lv_iload_n hx hb dX1_set_28 rfl (lv_at hl 1 rfl) ?_
  refine va_iald hx hb hK hP 6 0 rfl rfl (vp_in_nI (by omega) (by omega)) dX1_set_29 ?_
  rw [nI_clamp (n := i) (by omega)]
  refine lv_imul hx hb dX1_set_30 ?_
  refine lv_aload_n hx hb dX1_set_31 rfl (lv_at hl 0 rfl) ?_
  refine va_get (D := (dC, dI)) (ci := 1) (v := .ref rk) (C := RX1) (T := TX1) (N := 6) hx hb hts hinX1 hown hK hP 0 rfl rfl 5 (by decide) k0 (fun _ h9 => h9) rfl dX1_set_32 ?_
  refine va_getN (D := (dC, dI)) (ci := 0) (v := .ref aT) (C := RX0) (T := TX0) (N := 11) hx hb hts hinX0 hown hK hP 5 rfl rfl 1 (by decide) (nw_use hN (by decide +kernel) : (Cond.fieldLinkNest RX1 45 "KnifeLedger$Reckoning" "trembles" "[I" "KnifeLedger").before _ _ = true) (fun _ h9 => h9) rfl dX1_set_35 ?_
  refine lv_iload_n hx hb dX1_set_38 rfl (lv_at hl 1 rfl) ?_
  refine va_iald hx hb hK hP 7 0 rfl rfl (vp_in_nI (by omega) (by omega)) dX1_set_39 ?_
  rw [nI_clamp (n := i) (by omega)]
  refine lv_iadd hx hb dX1_set_40 ?_
  refine lv_istore (lv' := [(4, .int ((10 * (L i)) + (T i))), (0, .ref kl), (1, .int (nI i)), (2, .int a), (3, .int b)]) hx hb dX1_set_41 hl (by decide) rfl (fun ls hl => ?_)
  refine lv_aload_n hx hb dX1_set_43 rfl (lv_at hl 1 rfl) ?_
  refine va_get (D := (dC, dI)) (ci := 1) (v := .ref rk) (C := RX1) (T := TX1) (N := 6) hx hb hts hinX1 hown hK hP 0 rfl rfl 5 (by decide) k0 (fun _ h9 => h9) rfl dX1_set_44 ?_
  refine va_getN (D := (dC, dI)) (ci := 0) (v := .ref aL) (C := RX0) (T := TX0) (N := 11) hx hb hts hinX0 hown hK hP 5 rfl rfl 0 (by decide) (nw_use hN (by decide +kernel) : (Cond.fieldLinkNest RX1 42 "KnifeLedger$Reckoning" "lights" "[I" "KnifeLedger").before _ _ = true) (fun _ h9 => h9) rfl dX1_set_47 ?_
  refine lv_iload_n hx hb dX1_set_50 rfl (lv_at hl 2 rfl) ?_
  refine lv_iload_n hx hb dX1_set_51 rfl (lv_at hl 3 rfl) ?_
  refine va_iast hx hb hK hP hD hS 6 0 rfl rfl (vp_in_nI (by omega) (by omega)) dX1_set_52 (fun H_4 locs hP hD hS => ?_)
  have hP : va_P (dC, dI) vwCl [(kl, .inr (1, [.ref aK, .ref aF, .ref aS, .ref aB, .int (nI n), .ref rk])), (aK, .inl (cI, 60, .inl K)), (aF, .inl (cI, 60, .inl F)), (aS, .inl (cI, 60, .inl S)), (aB, .inl (cZ, 60, .inl B)), (rk, .inr (0, [.ref aL, .ref aT, .ref aU, .int co, .int pl, .int st, .int jo, .int cn, .int ii, .int fi, .int fe])), (aL, .inl (cI, 4, .inl (upd L ((nI i).toNatClampNeg) a))), (aT, .inl (cI, 4, .inl T)), (aU, .inl (cI, 6, .inl U))] H_4 := hP
  have hD : va_D A [(kl, .inr (1, [.ref aK, .ref aF, .ref aS, .ref aB, .int (nI n), .ref rk])), (aK, .inl (cI, 60, .inl K)), (aF, .inl (cI, 60, .inl F)), (aS, .inl (cI, 60, .inl S)), (aB, .inl (cZ, 60, .inl B)), (rk, .inr (0, [.ref aL, .ref aT, .ref aU, .int co, .int pl, .int st, .int jo, .int cn, .int ii, .int fi, .int fe])), (aL, .inl (cI, 4, .inl (upd L ((nI i).toNatClampNeg) a))), (aT, .inl (cI, 4, .inl T)), (aU, .inl (cI, 6, .inl U))] := hD
  rw [nI_clamp (by omega)] at hP hD
  have hP : va_P (dC, dI) vwCl [(kl, .inr (1, [.ref aK, .ref aF, .ref aS, .ref aB, .int (nI n), .ref rk])), (aK, .inl (cI, 60, .inl K)), (aF, .inl (cI, 60, .inl F)), (aS, .inl (cI, 60, .inl S)), (aB, .inl (cZ, 60, .inl B)), (rk, .inr (0, [.ref aL, .ref aT, .ref aU, .int co, .int pl, .int st, .int jo, .int cn, .int ii, .int fi, .int fe])), (aL, .inl (cI, 4, .inl (upd L (i) a))), (aT, .inl (cI, 4, .inl T)), (aU, .inl (cI, 6, .inl U))] H_4 := hP
  have hD : va_D A [(kl, .inr (1, [.ref aK, .ref aF, .ref aS, .ref aB, .int (nI n), .ref rk])), (aK, .inl (cI, 60, .inl K)), (aF, .inl (cI, 60, .inl F)), (aS, .inl (cI, 60, .inl S)), (aB, .inl (cZ, 60, .inl B)), (rk, .inr (0, [.ref aL, .ref aT, .ref aU, .int co, .int pl, .int st, .int jo, .int cn, .int ii, .int fi, .int fe])), (aL, .inl (cI, 4, .inl (upd L (i) a))), (aT, .inl (cI, 4, .inl T)), (aU, .inl (cI, 6, .inl U))] := hD
  refine lv_aload_n hx hb dX1_set_53 rfl (lv_at hl 1 rfl) ?_
  refine va_get (D := (dC, dI)) (ci := 1) (v := .ref rk) (C := RX1) (T := TX1) (N := 6) hx hb hts hinX1 hown hK hP 0 rfl rfl 5 (by decide) k0 (fun _ h9 => h9) rfl dX1_set_54 ?_
  refine va_getN (D := (dC, dI)) (ci := 0) (v := .ref aT) (C := RX0) (T := TX0) (N := 11) hx hb hts hinX0 hown hK hP 5 rfl rfl 1 (by decide) (nw_use hN (by decide +kernel) : (Cond.fieldLinkNest RX1 45 "KnifeLedger$Reckoning" "trembles" "[I" "KnifeLedger").before _ _ = true) (fun _ h9 => h9) rfl dX1_set_57 ?_
  refine lv_iload_n hx hb dX1_set_60 rfl (lv_at hl 2 rfl) ?_
  refine lv_iload_n hx hb dX1_set_61 rfl (lv_at hl 4 rfl) ?_
  refine va_iast hx hb hK hP hD hS 7 0 rfl rfl (vp_in_nI (by omega) (by omega)) dX1_set_62 (fun H_5 locs hP hD hS => ?_)
  have hP : va_P (dC, dI) vwCl [(kl, .inr (1, [.ref aK, .ref aF, .ref aS, .ref aB, .int (nI n), .ref rk])), (aK, .inl (cI, 60, .inl K)), (aF, .inl (cI, 60, .inl F)), (aS, .inl (cI, 60, .inl S)), (aB, .inl (cZ, 60, .inl B)), (rk, .inr (0, [.ref aL, .ref aT, .ref aU, .int co, .int pl, .int st, .int jo, .int cn, .int ii, .int fi, .int fe])), (aL, .inl (cI, 4, .inl (upd L (i) a))), (aT, .inl (cI, 4, .inl (upd T ((nI i).toNatClampNeg) b))), (aU, .inl (cI, 6, .inl U))] H_5 := hP
  have hD : va_D A [(kl, .inr (1, [.ref aK, .ref aF, .ref aS, .ref aB, .int (nI n), .ref rk])), (aK, .inl (cI, 60, .inl K)), (aF, .inl (cI, 60, .inl F)), (aS, .inl (cI, 60, .inl S)), (aB, .inl (cZ, 60, .inl B)), (rk, .inr (0, [.ref aL, .ref aT, .ref aU, .int co, .int pl, .int st, .int jo, .int cn, .int ii, .int fi, .int fe])), (aL, .inl (cI, 4, .inl (upd L (i) a))), (aT, .inl (cI, 4, .inl (upd T ((nI i).toNatClampNeg) b))), (aU, .inl (cI, 6, .inl U))] := hD
  rw [nI_clamp (by omega)] at hP hD
  have hP : va_P (dC, dI) vwCl [(kl, .inr (1, [.ref aK, .ref aF, .ref aS, .ref aB, .int (nI n), .ref rk])), (aK, .inl (cI, 60, .inl K)), (aF, .inl (cI, 60, .inl F)), (aS, .inl (cI, 60, .inl S)), (aB, .inl (cZ, 60, .inl B)), (rk, .inr (0, [.ref aL, .ref aT, .ref aU, .int co, .int pl, .int st, .int jo, .int cn, .int ii, .int fi, .int fe])), (aL, .inl (cI, 4, .inl (upd L (i) a))), (aT, .inl (cI, 4, .inl (upd T (i) b))), (aU, .inl (cI, 6, .inl U))] H_5 := hP
  have hD : va_D A [(kl, .inr (1, [.ref aK, .ref aF, .ref aS, .ref aB, .int (nI n), .ref rk])), (aK, .inl (cI, 60, .inl K)), (aF, .inl (cI, 60, .inl F)), (aS, .inl (cI, 60, .inl S)), (aB, .inl (cZ, 60, .inl B)), (rk, .inr (0, [.ref aL, .ref aT, .ref aU, .int co, .int pl, .int st, .int jo, .int cn, .int ii, .int fi, .int fe])), (aL, .inl (cI, 4, .inl (upd L (i) a))), (aT, .inl (cI, 4, .inl (upd T (i) b))), (aU, .inl (cI, 6, .inl U))] := hD
  refine lv_iload hx hb dX1_set_63 (lv_at hl 0 rfl) ?_
  have hpost : ((10 * (L i)) + (T i)) = 10 * L i + T i := by
    rfl
  have hP9 := hP.sub (ws' := [(kl, .inr (1, [.ref aK, .ref aF, .ref aS, .ref aB, .int (nI n), .ref rk])), (aK, .inl (cI, 60, .inl K)), (aF, .inl (cI, 60, .inl F)), (aS, .inl (cI, 60, .inl S)), (aB, .inl (cZ, 60, .inl B)), (rk, .inr (0, [.ref aL, .ref aT, .ref aU, .int co, .int pl, .int st, .int jo, .int cn, .int ii, .int fi, .int fe])), (aL, .inl (cI, 4, .inl (upd L (i) a))), (aT, .inl (cI, 4, .inl (upd T (i) b))), (aU, .inl (cI, 6, .inl U))]) [0, 1, 2, 3, 4, 5, 6, 7, 8] rfl
  have hD9 := hD.sub (ws' := [(kl, .inr (1, [.ref aK, .ref aF, .ref aS, .ref aB, .int (nI n), .ref rk])), (aK, .inl (cI, 60, .inl K)), (aF, .inl (cI, 60, .inl F)), (aS, .inl (cI, 60, .inl S)), (aB, .inl (cZ, 60, .inl B)), (rk, .inr (0, [.ref aL, .ref aT, .ref aU, .int co, .int pl, .int st, .int jo, .int cn, .int ii, .int fi, .int fe])), (aL, .inl (cI, 4, .inl (upd L (i) a))), (aT, .inl (cI, 4, .inl (upd T (i) b))), (aU, .inl (cI, 6, .inl U))]) [0, 1, 2, 3, 4, 5, 6, 7, 8] (by decide) rfl
  exact W.iret (v := (10 * (L i)) + (T i)) hx hb hr (fun t ht hW => ⟨⟨((10 * (L i)) + (T i)), (), rfl, hpost, by rw [ht]; exact hP9, hD9⟩, hS.F ht⟩) hS.2.2 dX1_set_65

set_option maxHeartbeats 4000000 in
set_option maxRecDepth 100000 in
theorem c_X1_strike (l : Launch) (dC : Nat → ClassId) (dI : Nat → Nat → Nat) (cI cZ : ClassId) (kl aK aF aS aB rk aL aT aU : Nat) (sz : Nat) (L : N2I) (T : N2I) (K : N2I) (F : N2I) (S : N2I) (B : N2I) (U : N2I) (n : Nat) (co : Int32) (pl : Int32) (st : Int32) (jo : Int32) (cn : Int32) (ii : Int32) (fi : Int32) (fe : Int32) (i : Nat) (hX : okX K F S B n) (hi : i < n) : Met l yX1_strike wsX1_strike ({ frames := 1, cells := 0, slots := 0, locals := 21 } : Room) (va_Pc [.ref kl, .int (nI i)] (pc_ (dC, dI) [(cI, .int), (cZ, .boolean)] [(kl, .inr (1, [.ref aK, .ref aF, .ref aS, .ref aB, .int (nI n), .ref rk])), (aK, .inl (cI, 60, .inl K)), (aF, .inl (cI, 60, .inl F)), (aS, .inl (cI, 60, .inl S)), (aB, .inl (cZ, 60, .inl B)), (rk, .inr (0, [.ref aL, .ref aT, .ref aU, .int co, .int pl, .int st, .int jo, .int cn, .int ii, .int fi, .int fe])), (aL, .inl (cI, 4, .inl L)), (aT, .inl (cI, 4, .inl T)), (aU, .inl (cI, 6, .inl U))] sz)) (va_Qi (fun (r : Int32) (u : N2I) => r = nb (B i) ∧ u = upd B i (nb (B i))) (fun (u : N2I) (t : State) => va_P (dC, dI) vwCl [(kl, .inr (1, [.ref aK, .ref aF, .ref aS, .ref aB, .int (nI n), .ref rk])), (aK, .inl (cI, 60, .inl K)), (aF, .inl (cI, 60, .inl F)), (aS, .inl (cI, 60, .inl S)), (aB, .inl (cZ, 60, .inl u)), (rk, .inr (0, [.ref aL, .ref aT, .ref aU, .int co, .int pl, .int st, .int jo, .int cn, .int ii, .int fi, .int fe])), (aL, .inl (cI, 4, .inl L)), (aT, .inl (cI, 4, .inl T)), (aU, .inl (cI, 6, .inl U))] t.heap ∧ va_D (va_A [(kl, .inr (1, [.ref aK, .ref aF, .ref aS, .ref aB, .int (nI n), .ref rk])), (aK, .inl (cI, 60, .inl K)), (aF, .inl (cI, 60, .inl F)), (aS, .inl (cI, 60, .inl S)), (aB, .inl (cZ, 60, .inl B)), (rk, .inr (0, [.ref aL, .ref aT, .ref aU, .int co, .int pl, .int st, .int jo, .int cn, .int ii, .int fi, .int fe])), (aL, .inl (cI, 4, .inl L)), (aT, .inl (cI, 4, .inl T)), (aU, .inl (cI, 6, .inl U))] sz) [(kl, .inr (1, [.ref aK, .ref aF, .ref aS, .ref aB, .int (nI n), .ref rk])), (aK, .inl (cI, 60, .inl K)), (aF, .inl (cI, 60, .inl F)), (aS, .inl (cI, 60, .inl S)), (aB, .inl (cZ, 60, .inl u)), (rk, .inr (0, [.ref aL, .ref aT, .ref aU, .int co, .int pl, .int st, .int jo, .int cn, .int ii, .int fi, .int fe])), (aL, .inl (cI, 4, .inl L)), (aT, .inl (cI, 4, .inl T)), (aU, .inl (cI, 6, .inl U))]) (va_A [(kl, .inr (1, [.ref aK, .ref aF, .ref aS, .ref aB, .int (nI n), .ref rk])), (aK, .inl (cI, 60, .inl K)), (aF, .inl (cI, 60, .inl F)), (aS, .inl (cI, 60, .inl S)), (aB, .inl (cZ, 60, .inl B)), (rk, .inr (0, [.ref aL, .ref aT, .ref aU, .int co, .int pl, .int st, .int jo, .int cn, .int ii, .int fi, .int fe])), (aL, .inl (cI, 4, .inl L)), (aT, .inl (cI, 4, .inl T)), (aU, .inl (cI, 6, .inl U))] sz)) 0 0 (va_A [(kl, .inr (1, [.ref aK, .ref aF, .ref aS, .ref aB, .int (nI n), .ref rk])), (aK, .inl (cI, 60, .inl K)), (aF, .inl (cI, 60, .inl F)), (aS, .inl (cI, 60, .inl S)), (aB, .inl (cZ, 60, .inl B)), (rk, .inr (0, [.ref aL, .ref aT, .ref aU, .int co, .int pl, .int st, .int jo, .int cn, .int ii, .int fi, .int fe])), (aL, .inl (cI, 4, .inl L)), (aT, .inl (cI, 4, .inl T)), (aU, .inl (cI, 6, .inl U))] sz) := by
  refine Met.ofW (cc := cX1_strike) (maxL := 2) (ret := (some .boolean)) (by decide) rfl ?_
  intro p e s m args below meth c s₁ BB hml hv
  obtain ⟨rfl, hsz, hP, hK, hD0⟩ := hv
  have hx := BB.exec
  have hb := BB.bytes
  have hr := BB.returns
  have hts := atoms_spec (ws := wsX1_strike) BB.pre
  have hown : s.vm.findClass RX1 = some m.cls := findClass_of_methodNamed BB.named
  have hlocks := BB.notSynchronized
  subst hsz
  have hD := hD0.self (sz := s.heap.size)
  generalize hAe : va_A [(kl, .inr (1, [.ref aK, .ref aF, .ref aS, .ref aB, .int (nI n), .ref rk])), (aK, .inl (cI, 60, .inl K)), (aF, .inl (cI, 60, .inl F)), (aS, .inl (cI, 60, .inl S)), (aB, .inl (cZ, 60, .inl B)), (rk, .inr (0, [.ref aL, .ref aT, .ref aU, .int co, .int pl, .int st, .int jo, .int cn, .int ii, .int fi, .int fe])), (aL, .inl (cI, 4, .inl L)), (aT, .inl (cI, 4, .inl T)), (aU, .inl (cI, 6, .inl U))] s.heap.size = A at hD ⊢
  have hA : ∀ q : Nat, s.heap.size ≤ q → A q := fun q h => by rw [← hAe]; exact Or.inr h
  have hS : va_S A s.heap s.heap [] := va_S.rf
  have hP : va_P (dC, dI) vwCl [(kl, .inr (1, [.ref aK, .ref aF, .ref aS, .ref aB, .int (nI n), .ref rk])), (aK, .inl (cI, 60, .inl K)), (aF, .inl (cI, 60, .inl F)), (aS, .inl (cI, 60, .inl S)), (aB, .inl (cZ, 60, .inl B)), (rk, .inr (0, [.ref aL, .ref aT, .ref aU, .int co, .int pl, .int st, .int jo, .int cn, .int ii, .int fi, .int fe])), (aL, .inl (cI, 4, .inl L)), (aT, .inl (cI, 4, .inl T)), (aU, .inl (cI, 6, .inl U))] s.heap := hP
  have hl := lv_entry ([.ref kl, .int (nI i)]) (n := 2) (Nat.le_of_ble_eq_true rfl)
  rw [lg_entry_eq]
  generalize (lg_sl ([.ref kl, .int (nI i)]) ++ List.replicate (2 - (lg_sl ([.ref kl, .int (nI i)])).length) Slot.unset).toArray = ls at hl ⊢
  have hl : lv_has ls 2 [(0, .ref kl), (1, .int (nI i))] := hl
  have k0 := hts (.fieldLink RX1 23 "KnifeLedger" "size" "I") (by decide +kernel)
  have hinX1 : ∀ w ∈ wsX10, w ∈ wsX1_strike := by decide +kernel
  have k2 := hts (.fieldLink RX1 19 "KnifeLedger" "struck" "[Z") (by decide +kernel)
  have hn6 : n ≤ 60 := hX.1
  refine lv_iload_n hx hb dX1_strike_0 rfl (lv_at hl 1 rfl) ?_
  refine lv_aload_n hx hb dX1_strike_1 rfl (lv_at hl 0 rfl) ?_
  refine va_get (D := (dC, dI)) (ci := 1) (v := .int (nI n)) (C := RX1) (T := TX1) (N := 6) hx hb hts hinX1 hown hK hP 0 rfl rfl 4 (by decide) k0 (fun _ h9 => h9) rfl dX1_strike_2 ?_
  have hPc := hP.sub (ws' := []) [] rfl
  have hDc := hD.sub (ws' := []) [] (by decide) rfl
  have hKc := hK.sub (tys' := []) [] rfl
  have hFc := va_free (wc := []) hD hS hA [] rfl
  refine va_callv (va_runS (As := [.int (nI i), .int (nI n)]) (rest := []) ⟨hx, hb, hml, hown, hts⟩ (c_X1_needIndex l dC dI s.heap.size (nI i) (nI n) (nI_pos (by omega)) (nI_lt hi (by omega))) (va_cwS 2 hts gX1_strike_X1_needIndex rfl rfl rfl (by decide +kernel) ⟨Nat.le_of_ble_eq_true rfl, Nat.le_of_ble_eq_true rfl⟩) (pc_S hKc hPc hDc) rfl rfl hl.1 rfl (lv_room (Nat.le_of_ble_eq_true rfl)) dX1_strike_5 ⟨Nat.le_of_ble_eq_true rfl, Nat.le_of_ble_eq_true rfl⟩) hS (fun q _ h => hFc q h) hFc (fun u t H_1 locs ht hvm hw hB hz1 hk1 hS => ?_)
  try dsimp only at hw hB
  have hw_1 := hw
  obtain ⟨hP1, hD1⟩ := hB
  rw [ht] at hP1
  obtain ⟨hP, hD⟩ := va_join (wr := [(kl, .inr (1, [.ref aK, .ref aF, .ref aS, .ref aB, .int (nI n), .ref rk])), (aK, .inl (cI, 60, .inl K)), (aF, .inl (cI, 60, .inl F)), (aS, .inl (cI, 60, .inl S)), (aB, .inl (cZ, 60, .inl B)), (rk, .inr (0, [.ref aL, .ref aT, .ref aU, .int co, .int pl, .int st, .int jo, .int cn, .int ii, .int fi, .int fe])), (aL, .inl (cI, 4, .inl L)), (aT, .inl (cI, 4, .inl T)), (aU, .inl (cI, 6, .inl U))]) (w1 := []) hP hD [] [0, 1, 2, 3, 4, 5, 6, 7, 8] rfl rfl (by decide) (by decide) hk1 hFc hP1 hD1
  have hP : va_P (dC, dI) vwCl [(kl, .inr (1, [.ref aK, .ref aF, .ref aS, .ref aB, .int (nI n), .ref rk])), (aK, .inl (cI, 60, .inl K)), (aF, .inl (cI, 60, .inl F)), (aS, .inl (cI, 60, .inl S)), (aB, .inl (cZ, 60, .inl B)), (rk, .inr (0, [.ref aL, .ref aT, .ref aU, .int co, .int pl, .int st, .int jo, .int cn, .int ii, .int fi, .int fe])), (aL, .inl (cI, 4, .inl L)), (aT, .inl (cI, 4, .inl T)), (aU, .inl (cI, 6, .inl U))] H_1 := hP
  have hD : va_D A [(kl, .inr (1, [.ref aK, .ref aF, .ref aS, .ref aB, .int (nI n), .ref rk])), (aK, .inl (cI, 60, .inl K)), (aF, .inl (cI, 60, .inl F)), (aS, .inl (cI, 60, .inl S)), (aB, .inl (cZ, 60, .inl B)), (rk, .inr (0, [.ref aL, .ref aT, .ref aU, .int co, .int pl, .int st, .int jo, .int cn, .int ii, .int fi, .int fe])), (aL, .inl (cI, 4, .inl L)), (aT, .inl (cI, 4, .inl T)), (aU, .inl (cI, 6, .inl U))] := hD
  refine lv_aload_n hx hb dX1_strike_8 rfl (lv_at hl 0 rfl) ?_
  refine va_get (D := (dC, dI)) (ci := 1) (v := .ref aB) (C := RX1) (T := TX1) (N := 6) hx hb hts hinX1 hown hK hP 0 rfl rfl 3 (by decide) k2 (fun _ h9 => h9) rfl dX1_strike_9 ?_
  refine lv_iload_n hx hb dX1_strike_12 rfl (lv_at hl 1 rfl) ?_
  refine lv_aload_n hx hb dX1_strike_13 rfl (lv_at hl 0 rfl) ?_
  refine va_get (D := (dC, dI)) (ci := 1) (v := .ref aB) (C := RX1) (T := TX1) (N := 6) hx hb hts hinX1 hown hK hP 0 rfl rfl 3 (by decide) k2 (fun _ h9 => h9) rfl dX1_strike_14 ?_
  refine lv_iload_n hx hb dX1_strike_17 rfl (lv_at hl 1 rfl) ?_
  refine va_zald hx hb hK hP 4 1 rfl rfl (vp_in_nI (by omega) (by omega)) dX1_strike_18 ?_
  rw [nI_clamp (n := i) (by omega)]
  refine lv_if_ne (tgt := 26) hx hb dX1_strike_19 (by decide) (fun c_19 => ?_) (fun c_19 => ?_)
  · -- 19
    refine lv_iconst (v := 0) hx hb dX1_strike_26 (by decide) ?_
    refine va_zast hx hb hK hP hD hS 4 1 rfl rfl (vp_in_nI (by omega) (by omega)) dX1_strike_27 (fun H_2 locs hP hD hS => ?_)
    have hP : va_P (dC, dI) vwCl [(kl, .inr (1, [.ref aK, .ref aF, .ref aS, .ref aB, .int (nI n), .ref rk])), (aK, .inl (cI, 60, .inl K)), (aF, .inl (cI, 60, .inl F)), (aS, .inl (cI, 60, .inl S)), (aB, .inl (cZ, 60, .inl (upd B ((nI i).toNatClampNeg) 0))), (rk, .inr (0, [.ref aL, .ref aT, .ref aU, .int co, .int pl, .int st, .int jo, .int cn, .int ii, .int fi, .int fe])), (aL, .inl (cI, 4, .inl L)), (aT, .inl (cI, 4, .inl T)), (aU, .inl (cI, 6, .inl U))] H_2 := hP
    have hD : va_D A [(kl, .inr (1, [.ref aK, .ref aF, .ref aS, .ref aB, .int (nI n), .ref rk])), (aK, .inl (cI, 60, .inl K)), (aF, .inl (cI, 60, .inl F)), (aS, .inl (cI, 60, .inl S)), (aB, .inl (cZ, 60, .inl (upd B ((nI i).toNatClampNeg) 0))), (rk, .inr (0, [.ref aL, .ref aT, .ref aU, .int co, .int pl, .int st, .int jo, .int cn, .int ii, .int fi, .int fe])), (aL, .inl (cI, 4, .inl L)), (aT, .inl (cI, 4, .inl T)), (aU, .inl (cI, 6, .inl U))] := hD
    rw [nI_clamp (by omega)] at hP hD
    have hP : va_P (dC, dI) vwCl [(kl, .inr (1, [.ref aK, .ref aF, .ref aS, .ref aB, .int (nI n), .ref rk])), (aK, .inl (cI, 60, .inl K)), (aF, .inl (cI, 60, .inl F)), (aS, .inl (cI, 60, .inl S)), (aB, .inl (cZ, 60, .inl (upd B (i) 0))), (rk, .inr (0, [.ref aL, .ref aT, .ref aU, .int co, .int pl, .int st, .int jo, .int cn, .int ii, .int fi, .int fe])), (aL, .inl (cI, 4, .inl L)), (aT, .inl (cI, 4, .inl T)), (aU, .inl (cI, 6, .inl U))] H_2 := hP
    have hD : va_D A [(kl, .inr (1, [.ref aK, .ref aF, .ref aS, .ref aB, .int (nI n), .ref rk])), (aK, .inl (cI, 60, .inl K)), (aF, .inl (cI, 60, .inl F)), (aS, .inl (cI, 60, .inl S)), (aB, .inl (cZ, 60, .inl (upd B (i) 0))), (rk, .inr (0, [.ref aL, .ref aT, .ref aU, .int co, .int pl, .int st, .int jo, .int cn, .int ii, .int fi, .int fe])), (aL, .inl (cI, 4, .inl L)), (aT, .inl (cI, 4, .inl T)), (aU, .inl (cI, 6, .inl U))] := hD
    refine lv_aload_n hx hb dX1_strike_28 rfl (lv_at hl 0 rfl) ?_
    refine va_get (D := (dC, dI)) (ci := 1) (v := .ref aB) (C := RX1) (T := TX1) (N := 6) hx hb hts hinX1 hown hK hP 0 rfl rfl 3 (by decide) k2 (fun _ h9 => h9) rfl dX1_strike_29 ?_
    refine lv_iload_n hx hb dX1_strike_32 rfl (lv_at hl 1 rfl) ?_
    refine va_zald hx hb hK hP 4 1 rfl rfl (vp_in_nI (by omega) (by omega)) dX1_strike_33 ?_
    rw [nI_clamp (n := i) (by omega)]
    have hpost : ((upd B (i) 0) i) = nb (B i) ∧ (upd B (i) 0) = upd B i (nb (B i)) := by
      unfold nb; rw [if_neg c_19]; exact ⟨pk_us, rfl⟩
    have hP9 := hP.sub (ws' := [(kl, .inr (1, [.ref aK, .ref aF, .ref aS, .ref aB, .int (nI n), .ref rk])), (aK, .inl (cI, 60, .inl K)), (aF, .inl (cI, 60, .inl F)), (aS, .inl (cI, 60, .inl S)), (aB, .inl (cZ, 60, .inl (upd B (i) 0))), (rk, .inr (0, [.ref aL, .ref aT, .ref aU, .int co, .int pl, .int st, .int jo, .int cn, .int ii, .int fi, .int fe])), (aL, .inl (cI, 4, .inl L)), (aT, .inl (cI, 4, .inl T)), (aU, .inl (cI, 6, .inl U))]) [0, 1, 2, 3, 4, 5, 6, 7, 8] rfl
    have hD9 := hD.sub (ws' := [(kl, .inr (1, [.ref aK, .ref aF, .ref aS, .ref aB, .int (nI n), .ref rk])), (aK, .inl (cI, 60, .inl K)), (aF, .inl (cI, 60, .inl F)), (aS, .inl (cI, 60, .inl S)), (aB, .inl (cZ, 60, .inl (upd B (i) 0))), (rk, .inr (0, [.ref aL, .ref aT, .ref aU, .int co, .int pl, .int st, .int jo, .int cn, .int ii, .int fi, .int fe])), (aL, .inl (cI, 4, .inl L)), (aT, .inl (cI, 4, .inl T)), (aU, .inl (cI, 6, .inl U))]) [0, 1, 2, 3, 4, 5, 6, 7, 8] (by decide) rfl
    exact W.zret (v := (upd B (i) 0) i) (ty := .boolean) hx hb hr (nz_01 (Or.inl pk_us)) (fun t ht hW => ⟨⟨((upd B (i) 0) i), (upd B (i) 0), rfl, hpost, by rw [ht]; exact hP9, hD9⟩, hS.F ht⟩) hS.2.2 dX1_strike_34
  · -- 19
    refine lv_iconst (v := 1) hx hb dX1_strike_22 (by decide) ?_
    refine lv_goto (tgt := 27) hx hb dX1_strike_23 (by decide) ?_
    refine va_zast hx hb hK hP hD hS 4 1 rfl rfl (vp_in_nI (by omega) (by omega)) dX1_strike_27 (fun H_3 locs hP hD hS => ?_)
    have hP : va_P (dC, dI) vwCl [(kl, .inr (1, [.ref aK, .ref aF, .ref aS, .ref aB, .int (nI n), .ref rk])), (aK, .inl (cI, 60, .inl K)), (aF, .inl (cI, 60, .inl F)), (aS, .inl (cI, 60, .inl S)), (aB, .inl (cZ, 60, .inl (upd B ((nI i).toNatClampNeg) 1))), (rk, .inr (0, [.ref aL, .ref aT, .ref aU, .int co, .int pl, .int st, .int jo, .int cn, .int ii, .int fi, .int fe])), (aL, .inl (cI, 4, .inl L)), (aT, .inl (cI, 4, .inl T)), (aU, .inl (cI, 6, .inl U))] H_3 := hP
    have hD : va_D A [(kl, .inr (1, [.ref aK, .ref aF, .ref aS, .ref aB, .int (nI n), .ref rk])), (aK, .inl (cI, 60, .inl K)), (aF, .inl (cI, 60, .inl F)), (aS, .inl (cI, 60, .inl S)), (aB, .inl (cZ, 60, .inl (upd B ((nI i).toNatClampNeg) 1))), (rk, .inr (0, [.ref aL, .ref aT, .ref aU, .int co, .int pl, .int st, .int jo, .int cn, .int ii, .int fi, .int fe])), (aL, .inl (cI, 4, .inl L)), (aT, .inl (cI, 4, .inl T)), (aU, .inl (cI, 6, .inl U))] := hD
    rw [nI_clamp (by omega)] at hP hD
    have hP : va_P (dC, dI) vwCl [(kl, .inr (1, [.ref aK, .ref aF, .ref aS, .ref aB, .int (nI n), .ref rk])), (aK, .inl (cI, 60, .inl K)), (aF, .inl (cI, 60, .inl F)), (aS, .inl (cI, 60, .inl S)), (aB, .inl (cZ, 60, .inl (upd B (i) 1))), (rk, .inr (0, [.ref aL, .ref aT, .ref aU, .int co, .int pl, .int st, .int jo, .int cn, .int ii, .int fi, .int fe])), (aL, .inl (cI, 4, .inl L)), (aT, .inl (cI, 4, .inl T)), (aU, .inl (cI, 6, .inl U))] H_3 := hP
    have hD : va_D A [(kl, .inr (1, [.ref aK, .ref aF, .ref aS, .ref aB, .int (nI n), .ref rk])), (aK, .inl (cI, 60, .inl K)), (aF, .inl (cI, 60, .inl F)), (aS, .inl (cI, 60, .inl S)), (aB, .inl (cZ, 60, .inl (upd B (i) 1))), (rk, .inr (0, [.ref aL, .ref aT, .ref aU, .int co, .int pl, .int st, .int jo, .int cn, .int ii, .int fi, .int fe])), (aL, .inl (cI, 4, .inl L)), (aT, .inl (cI, 4, .inl T)), (aU, .inl (cI, 6, .inl U))] := hD
    refine lv_aload_n hx hb dX1_strike_28 rfl (lv_at hl 0 rfl) ?_
    refine va_get (D := (dC, dI)) (ci := 1) (v := .ref aB) (C := RX1) (T := TX1) (N := 6) hx hb hts hinX1 hown hK hP 0 rfl rfl 3 (by decide) k2 (fun _ h9 => h9) rfl dX1_strike_29 ?_
    refine lv_iload_n hx hb dX1_strike_32 rfl (lv_at hl 1 rfl) ?_
    refine va_zald hx hb hK hP 4 1 rfl rfl (vp_in_nI (by omega) (by omega)) dX1_strike_33 ?_
    rw [nI_clamp (n := i) (by omega)]
    have hpost : ((upd B (i) 1) i) = nb (B i) ∧ (upd B (i) 1) = upd B i (nb (B i)) := by
      unfold nb; rw [if_pos c_19]; exact ⟨pk_us, rfl⟩
    have hP9 := hP.sub (ws' := [(kl, .inr (1, [.ref aK, .ref aF, .ref aS, .ref aB, .int (nI n), .ref rk])), (aK, .inl (cI, 60, .inl K)), (aF, .inl (cI, 60, .inl F)), (aS, .inl (cI, 60, .inl S)), (aB, .inl (cZ, 60, .inl (upd B (i) 1))), (rk, .inr (0, [.ref aL, .ref aT, .ref aU, .int co, .int pl, .int st, .int jo, .int cn, .int ii, .int fi, .int fe])), (aL, .inl (cI, 4, .inl L)), (aT, .inl (cI, 4, .inl T)), (aU, .inl (cI, 6, .inl U))]) [0, 1, 2, 3, 4, 5, 6, 7, 8] rfl
    have hD9 := hD.sub (ws' := [(kl, .inr (1, [.ref aK, .ref aF, .ref aS, .ref aB, .int (nI n), .ref rk])), (aK, .inl (cI, 60, .inl K)), (aF, .inl (cI, 60, .inl F)), (aS, .inl (cI, 60, .inl S)), (aB, .inl (cZ, 60, .inl (upd B (i) 1))), (rk, .inr (0, [.ref aL, .ref aT, .ref aU, .int co, .int pl, .int st, .int jo, .int cn, .int ii, .int fi, .int fe])), (aL, .inl (cI, 4, .inl L)), (aT, .inl (cI, 4, .inl T)), (aU, .inl (cI, 6, .inl U))]) [0, 1, 2, 3, 4, 5, 6, 7, 8] (by decide) rfl
    exact W.zret (v := (upd B (i) 1) i) (ty := .boolean) hx hb hr (nz_01 (Or.inr pk_us)) (fun t ht hW => ⟨⟨((upd B (i) 1) i), (upd B (i) 1), rfl, hpost, by rw [ht]; exact hP9, hD9⟩, hS.F ht⟩) hS.2.2 dX1_strike_34

set_option maxHeartbeats 4000000 in
set_option maxRecDepth 100000 in
theorem c_X1_tear (l : Launch) (dC : Nat → ClassId) (dI : Nat → Nat → Nat) (cI cZ : ClassId) (kl aK aF aS aB rk aL aT aU : Nat) (sz : Nat) (L : N2I) (T : N2I) (K : N2I) (F : N2I) (S : N2I) (B : N2I) (U : N2I) (n : Nat) (co : Int32) (pl : Int32) (st : Int32) (jo : Int32) (cn : Int32) (ii : Int32) (fi : Int32) (fe : Int32) (mm : Nat) (hnm : n = mm + 1) (hm : mm < 60) : Met l yX1_tear wsX1_tear ({ frames := 0, cells := 0, slots := 0, locals := 0 } : Room) (va_Pc [.ref kl] (pc_ (dC, dI) [(cI, .int), (cZ, .boolean)] [(kl, .inr (1, [.ref aK, .ref aF, .ref aS, .ref aB, .int (nI n), .ref rk])), (aK, .inl (cI, 60, .inl K)), (aF, .inl (cI, 60, .inl F)), (aS, .inl (cI, 60, .inl S)), (aB, .inl (cZ, 60, .inl B)), (rk, .inr (0, [.ref aL, .ref aT, .ref aU, .int co, .int pl, .int st, .int jo, .int cn, .int ii, .int fi, .int fe])), (aL, .inl (cI, 4, .inl L)), (aT, .inl (cI, 4, .inl T)), (aU, .inl (cI, 6, .inl U))] sz)) (va_Qi (fun (r : Int32) (u : Unit) => r = K mm) (fun (u : Unit) (t : State) => va_P (dC, dI) vwCl [(kl, .inr (1, [.ref aK, .ref aF, .ref aS, .ref aB, .int (nI mm), .ref rk])), (aK, .inl (cI, 60, .inl K)), (aF, .inl (cI, 60, .inl F)), (aS, .inl (cI, 60, .inl S)), (aB, .inl (cZ, 60, .inl B)), (rk, .inr (0, [.ref aL, .ref aT, .ref aU, .int co, .int pl, .int st, .int jo, .int cn, .int ii, .int fi, .int fe])), (aL, .inl (cI, 4, .inl L)), (aT, .inl (cI, 4, .inl T)), (aU, .inl (cI, 6, .inl U))] t.heap ∧ va_D (va_A [(kl, .inr (1, [.ref aK, .ref aF, .ref aS, .ref aB, .int (nI n), .ref rk])), (aK, .inl (cI, 60, .inl K)), (aF, .inl (cI, 60, .inl F)), (aS, .inl (cI, 60, .inl S)), (aB, .inl (cZ, 60, .inl B)), (rk, .inr (0, [.ref aL, .ref aT, .ref aU, .int co, .int pl, .int st, .int jo, .int cn, .int ii, .int fi, .int fe])), (aL, .inl (cI, 4, .inl L)), (aT, .inl (cI, 4, .inl T)), (aU, .inl (cI, 6, .inl U))] sz) [(kl, .inr (1, [.ref aK, .ref aF, .ref aS, .ref aB, .int (nI mm), .ref rk])), (aK, .inl (cI, 60, .inl K)), (aF, .inl (cI, 60, .inl F)), (aS, .inl (cI, 60, .inl S)), (aB, .inl (cZ, 60, .inl B)), (rk, .inr (0, [.ref aL, .ref aT, .ref aU, .int co, .int pl, .int st, .int jo, .int cn, .int ii, .int fi, .int fe])), (aL, .inl (cI, 4, .inl L)), (aT, .inl (cI, 4, .inl T)), (aU, .inl (cI, 6, .inl U))]) (va_A [(kl, .inr (1, [.ref aK, .ref aF, .ref aS, .ref aB, .int (nI n), .ref rk])), (aK, .inl (cI, 60, .inl K)), (aF, .inl (cI, 60, .inl F)), (aS, .inl (cI, 60, .inl S)), (aB, .inl (cZ, 60, .inl B)), (rk, .inr (0, [.ref aL, .ref aT, .ref aU, .int co, .int pl, .int st, .int jo, .int cn, .int ii, .int fi, .int fe])), (aL, .inl (cI, 4, .inl L)), (aT, .inl (cI, 4, .inl T)), (aU, .inl (cI, 6, .inl U))] sz)) 0 0 (va_A [(kl, .inr (1, [.ref aK, .ref aF, .ref aS, .ref aB, .int (nI n), .ref rk])), (aK, .inl (cI, 60, .inl K)), (aF, .inl (cI, 60, .inl F)), (aS, .inl (cI, 60, .inl S)), (aB, .inl (cZ, 60, .inl B)), (rk, .inr (0, [.ref aL, .ref aT, .ref aU, .int co, .int pl, .int st, .int jo, .int cn, .int ii, .int fi, .int fe])), (aL, .inl (cI, 4, .inl L)), (aT, .inl (cI, 4, .inl T)), (aU, .inl (cI, 6, .inl U))] sz) := by
  refine Met.ofW (cc := cX1_tear) (maxL := 1) (ret := (some .int)) (by decide) rfl ?_
  intro p e s m args below meth c s₁ BB hml hv
  obtain ⟨rfl, hsz, hP, hK, hD0⟩ := hv
  have hx := BB.exec
  have hb := BB.bytes
  have hr := BB.returns
  have hts := atoms_spec (ws := wsX1_tear) BB.pre
  have hown : s.vm.findClass RX1 = some m.cls := findClass_of_methodNamed BB.named
  have hlocks := BB.notSynchronized
  subst hsz
  have hD := hD0.self (sz := s.heap.size)
  generalize hAe : va_A [(kl, .inr (1, [.ref aK, .ref aF, .ref aS, .ref aB, .int (nI n), .ref rk])), (aK, .inl (cI, 60, .inl K)), (aF, .inl (cI, 60, .inl F)), (aS, .inl (cI, 60, .inl S)), (aB, .inl (cZ, 60, .inl B)), (rk, .inr (0, [.ref aL, .ref aT, .ref aU, .int co, .int pl, .int st, .int jo, .int cn, .int ii, .int fi, .int fe])), (aL, .inl (cI, 4, .inl L)), (aT, .inl (cI, 4, .inl T)), (aU, .inl (cI, 6, .inl U))] s.heap.size = A at hD ⊢
  have hA : ∀ q : Nat, s.heap.size ≤ q → A q := fun q h => by rw [← hAe]; exact Or.inr h
  have hS : va_S A s.heap s.heap [] := va_S.rf
  have hP : va_P (dC, dI) vwCl [(kl, .inr (1, [.ref aK, .ref aF, .ref aS, .ref aB, .int (nI n), .ref rk])), (aK, .inl (cI, 60, .inl K)), (aF, .inl (cI, 60, .inl F)), (aS, .inl (cI, 60, .inl S)), (aB, .inl (cZ, 60, .inl B)), (rk, .inr (0, [.ref aL, .ref aT, .ref aU, .int co, .int pl, .int st, .int jo, .int cn, .int ii, .int fi, .int fe])), (aL, .inl (cI, 4, .inl L)), (aT, .inl (cI, 4, .inl T)), (aU, .inl (cI, 6, .inl U))] s.heap := hP
  have hl := lv_entry ([.ref kl]) (n := 1) (Nat.le_of_ble_eq_true rfl)
  rw [lg_entry_eq]
  generalize (lg_sl ([.ref kl]) ++ List.replicate (1 - (lg_sl ([.ref kl])).length) Slot.unset).toArray = ls at hl ⊢
  have hl : lv_has ls 1 [(0, .ref kl)] := hl
  have k0 := hts (.fieldLink RX1 23 "KnifeLedger" "size" "I") (by decide +kernel)
  have hinX1 : ∀ w ∈ wsX10, w ∈ wsX1_tear := by decide +kernel
  have k2 := hts (.fieldLink RX1 9 "KnifeLedger" "kinds" "[I") (by decide +kernel)
  refine lv_aload_n hx hb dX1_tear_0 rfl (lv_at hl 0 rfl) ?_
  refine va_get (D := (dC, dI)) (ci := 1) (v := .int (nI n)) (C := RX1) (T := TX1) (N := 6) hx hb hts hinX1 hown hK hP 0 rfl rfl 4 (by decide) k0 (fun _ h9 => h9) rfl dX1_tear_1 ?_
  refine lv_if_ne (tgt := 17) hx hb dX1_tear_4 (by decide) (fun _ => ?_) (fun h9 => absurd h9 (nI_ne0 (by omega) (by omega)))
  refine lv_aload_n hx hb dX1_tear_17 rfl (lv_at hl 0 rfl) ?_
  refine lv_dup hx hb dX1_tear_18 rfl ?_
  refine va_get (D := (dC, dI)) (ci := 1) (v := .int (nI n)) (C := RX1) (T := TX1) (N := 6) hx hb hts hinX1 hown hK hP 0 rfl rfl 4 (by decide) k0 (fun _ h9 => h9) rfl dX1_tear_19 ?_
  refine lv_iconst (v := 1) hx hb dX1_tear_22 (by decide) ?_
  refine lv_isub hx hb dX1_tear_23 ?_
  rw [show nI n - 1 = nI mm from by rw [hnm]; exact nI_pred mm]
  refine va_put (D := (dC, dI)) (ci := 1) (v := .int (nI mm)) (ty := .int) (C := RX1) (T := TX1) (N := 6) hx hb hts hinX1 tyX1 tyX1_ok nmX1 hown hK hP hD hS 0 rfl rfl 4 (by decide) k0 (fun _ h9 => h9) rfl (by decide +kernel) rfl rfl (Nat.le_of_ble_eq_true rfl) dX1_tear_24 (fun H_1 locs hP hD hS => ?_)
  have hP : va_P (dC, dI) vwCl [(kl, .inr (1, [.ref aK, .ref aF, .ref aS, .ref aB, .int (nI mm), .ref rk])), (aK, .inl (cI, 60, .inl K)), (aF, .inl (cI, 60, .inl F)), (aS, .inl (cI, 60, .inl S)), (aB, .inl (cZ, 60, .inl B)), (rk, .inr (0, [.ref aL, .ref aT, .ref aU, .int co, .int pl, .int st, .int jo, .int cn, .int ii, .int fi, .int fe])), (aL, .inl (cI, 4, .inl L)), (aT, .inl (cI, 4, .inl T)), (aU, .inl (cI, 6, .inl U))] H_1 := hP
  have hD : va_D A [(kl, .inr (1, [.ref aK, .ref aF, .ref aS, .ref aB, .int (nI mm), .ref rk])), (aK, .inl (cI, 60, .inl K)), (aF, .inl (cI, 60, .inl F)), (aS, .inl (cI, 60, .inl S)), (aB, .inl (cZ, 60, .inl B)), (rk, .inr (0, [.ref aL, .ref aT, .ref aU, .int co, .int pl, .int st, .int jo, .int cn, .int ii, .int fi, .int fe])), (aL, .inl (cI, 4, .inl L)), (aT, .inl (cI, 4, .inl T)), (aU, .inl (cI, 6, .inl U))] := hD
  refine lv_aload_n hx hb dX1_tear_27 rfl (lv_at hl 0 rfl) ?_
  refine va_get (D := (dC, dI)) (ci := 1) (v := .ref aK) (C := RX1) (T := TX1) (N := 6) hx hb hts hinX1 hown hK hP 0 rfl rfl 0 (by decide) k2 (fun _ h9 => h9) rfl dX1_tear_28 ?_
  refine lv_aload_n hx hb dX1_tear_31 rfl (lv_at hl 0 rfl) ?_
  refine va_get (D := (dC, dI)) (ci := 1) (v := .int (nI mm)) (C := RX1) (T := TX1) (N := 6) hx hb hts hinX1 hown hK hP 0 rfl rfl 4 (by decide) k0 (fun _ h9 => h9) rfl dX1_tear_32 ?_
  refine va_iald hx hb hK hP 1 0 rfl rfl (vp_in_nI (by omega) (by omega)) dX1_tear_35 ?_
  rw [nI_clamp (n := mm) (by omega)]
  have hpost : (K mm) = K mm := by
    rfl
  have hP9 := hP.sub (ws' := [(kl, .inr (1, [.ref aK, .ref aF, .ref aS, .ref aB, .int (nI mm), .ref rk])), (aK, .inl (cI, 60, .inl K)), (aF, .inl (cI, 60, .inl F)), (aS, .inl (cI, 60, .inl S)), (aB, .inl (cZ, 60, .inl B)), (rk, .inr (0, [.ref aL, .ref aT, .ref aU, .int co, .int pl, .int st, .int jo, .int cn, .int ii, .int fi, .int fe])), (aL, .inl (cI, 4, .inl L)), (aT, .inl (cI, 4, .inl T)), (aU, .inl (cI, 6, .inl U))]) [0, 1, 2, 3, 4, 5, 6, 7, 8] rfl
  have hD9 := hD.sub (ws' := [(kl, .inr (1, [.ref aK, .ref aF, .ref aS, .ref aB, .int (nI mm), .ref rk])), (aK, .inl (cI, 60, .inl K)), (aF, .inl (cI, 60, .inl F)), (aS, .inl (cI, 60, .inl S)), (aB, .inl (cZ, 60, .inl B)), (rk, .inr (0, [.ref aL, .ref aT, .ref aU, .int co, .int pl, .int st, .int jo, .int cn, .int ii, .int fi, .int fe])), (aL, .inl (cI, 4, .inl L)), (aT, .inl (cI, 4, .inl T)), (aU, .inl (cI, 6, .inl U))]) [0, 1, 2, 3, 4, 5, 6, 7, 8] (by decide) rfl
  exact W.iret (v := K mm) hx hb hr (fun t ht hW => ⟨⟨(K mm), (), rfl, hpost, by rw [ht]; exact hP9, hD9⟩, hS.F ht⟩) hS.2.2 dX1_tear_36

set_option maxHeartbeats 4000000 in
set_option maxRecDepth 100000 in
theorem c_X1_entry (l : Launch) (dC : Nat → ClassId) (dI : Nat → Nat → Nat) (cI cZ : ClassId) (kl aK aF aS aB rk aL aT aU : Nat) (sz : Nat)  (L : N2I) (T : N2I) (K : N2I) (F : N2I) (S : N2I) (B : N2I) (U : N2I) (n : Nat) (co : Int32) (pl : Int32) (st : Int32) (jo : Int32) (cn : Int32) (ii : Int32) (fi : Int32) (fe : Int32) (i : Nat) (w : Int32) (hX : okX K F S B n) (hi : i < n) (hw0 : ¬ w < 0) (hw5 : w < 5) : Met l yX1_entry wsX1_entry ({ frames := 8, cells := 0, slots := 0, locals := 173 } : Room) (va_Pc [.ref kl, .int (nI i), .int w] (pn_  (dC, dI) [(cI, .int), (cZ, .boolean)] [(kl, .inr (1, [.ref aK, .ref aF, .ref aS, .ref aB, .int (nI n), .ref rk])), (aK, .inl (cI, 60, .inl K)), (aF, .inl (cI, 60, .inl F)), (aS, .inl (cI, 60, .inl S)), (aB, .inl (cZ, 60, .inl B)), (rk, .inr (0, [.ref aL, .ref aT, .ref aU, .int co, .int pl, .int st, .int jo, .int cn, .int ii, .int fi, .int fe])), (aL, .inl (cI, 4, .inl L)), (aT, .inl (cI, 4, .inl T)), (aU, .inl (cI, 6, .inl U))] sz)) (va_Qi (fun (r : Int32) (u : Int32 × Int32 × Int32 × Int32 × Int32 × Int32 × Int32 × Int32 × N2I) => r = aEnt L T K F S B i w) (fun (u : Int32 × Int32 × Int32 × Int32 × Int32 × Int32 × Int32 × Int32 × N2I) (t : State) => va_P (dC, dI) vwCl [(kl, .inr (1, [.ref aK, .ref aF, .ref aS, .ref aB, .int (nI n), .ref rk])), (aK, .inl (cI, 60, .inl K)), (aF, .inl (cI, 60, .inl F)), (aS, .inl (cI, 60, .inl S)), (aB, .inl (cZ, 60, .inl B)), (rk, .inr (0, [.ref aL, .ref aT, .ref aU, .int u.1, .int u.2.1, .int u.2.2.1, .int u.2.2.2.1, .int u.2.2.2.2.1, .int u.2.2.2.2.2.1, .int u.2.2.2.2.2.2.1, .int u.2.2.2.2.2.2.2.1])), (aL, .inl (cI, 4, .inl L)), (aT, .inl (cI, 4, .inl T)), (aU, .inl (cI, 6, .inl u.2.2.2.2.2.2.2.2))] t.heap ∧ va_D (va_A [(kl, .inr (1, [.ref aK, .ref aF, .ref aS, .ref aB, .int (nI n), .ref rk])), (aK, .inl (cI, 60, .inl K)), (aF, .inl (cI, 60, .inl F)), (aS, .inl (cI, 60, .inl S)), (aB, .inl (cZ, 60, .inl B)), (rk, .inr (0, [.ref aL, .ref aT, .ref aU, .int co, .int pl, .int st, .int jo, .int cn, .int ii, .int fi, .int fe])), (aL, .inl (cI, 4, .inl L)), (aT, .inl (cI, 4, .inl T)), (aU, .inl (cI, 6, .inl U))] sz) [(kl, .inr (1, [.ref aK, .ref aF, .ref aS, .ref aB, .int (nI n), .ref rk])), (aK, .inl (cI, 60, .inl K)), (aF, .inl (cI, 60, .inl F)), (aS, .inl (cI, 60, .inl S)), (aB, .inl (cZ, 60, .inl B)), (rk, .inr (0, [.ref aL, .ref aT, .ref aU, .int u.1, .int u.2.1, .int u.2.2.1, .int u.2.2.2.1, .int u.2.2.2.2.1, .int u.2.2.2.2.2.1, .int u.2.2.2.2.2.2.1, .int u.2.2.2.2.2.2.2.1])), (aL, .inl (cI, 4, .inl L)), (aT, .inl (cI, 4, .inl T)), (aU, .inl (cI, 6, .inl u.2.2.2.2.2.2.2.2))]) (va_A [(kl, .inr (1, [.ref aK, .ref aF, .ref aS, .ref aB, .int (nI n), .ref rk])), (aK, .inl (cI, 60, .inl K)), (aF, .inl (cI, 60, .inl F)), (aS, .inl (cI, 60, .inl S)), (aB, .inl (cZ, 60, .inl B)), (rk, .inr (0, [.ref aL, .ref aT, .ref aU, .int co, .int pl, .int st, .int jo, .int cn, .int ii, .int fi, .int fe])), (aL, .inl (cI, 4, .inl L)), (aT, .inl (cI, 4, .inl T)), (aU, .inl (cI, 6, .inl U))] sz)) 0 0 (va_A [(kl, .inr (1, [.ref aK, .ref aF, .ref aS, .ref aB, .int (nI n), .ref rk])), (aK, .inl (cI, 60, .inl K)), (aF, .inl (cI, 60, .inl F)), (aS, .inl (cI, 60, .inl S)), (aB, .inl (cZ, 60, .inl B)), (rk, .inr (0, [.ref aL, .ref aT, .ref aU, .int co, .int pl, .int st, .int jo, .int cn, .int ii, .int fi, .int fe])), (aL, .inl (cI, 4, .inl L)), (aT, .inl (cI, 4, .inl T)), (aU, .inl (cI, 6, .inl U))] sz) := by
  refine Met.ofW (cc := cX1_entry) (maxL := 3) (ret := (some .int)) (by decide) rfl ?_
  intro p e s m args below meth c s₁ BB hml hv
  obtain ⟨rfl, hsz, hP, hK, hD0, hN⟩ := hv
  have hx := BB.exec
  have hb := BB.bytes
  have hr := BB.returns
  have hts := atoms_spec (ws := wsX1_entry) BB.pre
  have hown : s.vm.findClass RX1 = some m.cls := findClass_of_methodNamed BB.named
  have hlocks := BB.notSynchronized
  subst hsz
  have hD := hD0.self (sz := s.heap.size)
  generalize hAe : va_A [(kl, .inr (1, [.ref aK, .ref aF, .ref aS, .ref aB, .int (nI n), .ref rk])), (aK, .inl (cI, 60, .inl K)), (aF, .inl (cI, 60, .inl F)), (aS, .inl (cI, 60, .inl S)), (aB, .inl (cZ, 60, .inl B)), (rk, .inr (0, [.ref aL, .ref aT, .ref aU, .int co, .int pl, .int st, .int jo, .int cn, .int ii, .int fi, .int fe])), (aL, .inl (cI, 4, .inl L)), (aT, .inl (cI, 4, .inl T)), (aU, .inl (cI, 6, .inl U))] s.heap.size = A at hD ⊢
  have hA : ∀ q : Nat, s.heap.size ≤ q → A q := fun q h => by rw [← hAe]; exact Or.inr h
  have hS : va_S A s.heap s.heap [] := va_S.rf
  have hP : va_P (dC, dI) vwCl [(kl, .inr (1, [.ref aK, .ref aF, .ref aS, .ref aB, .int (nI n), .ref rk])), (aK, .inl (cI, 60, .inl K)), (aF, .inl (cI, 60, .inl F)), (aS, .inl (cI, 60, .inl S)), (aB, .inl (cZ, 60, .inl B)), (rk, .inr (0, [.ref aL, .ref aT, .ref aU, .int co, .int pl, .int st, .int jo, .int cn, .int ii, .int fi, .int fe])), (aL, .inl (cI, 4, .inl L)), (aT, .inl (cI, 4, .inl T)), (aU, .inl (cI, 6, .inl U))] s.heap := hP
  have hl := lv_entry ([.ref kl, .int (nI i), .int w]) (n := 3) (Nat.le_of_ble_eq_true rfl)
  rw [lg_entry_eq]
  generalize (lg_sl ([.ref kl, .int (nI i), .int w]) ++ List.replicate (3 - (lg_sl ([.ref kl, .int (nI i), .int w])).length) Slot.unset).toArray = ls at hl ⊢
  have hl : lv_has ls 3 [(0, .ref kl), (1, .int (nI i)), (2, .int w)] := hl
  have k0 := hts (.fieldLink RX1 23 "KnifeLedger" "size" "I") (by decide +kernel)
  have hinX1 : ∀ w ∈ wsX10, w ∈ wsX1_entry := by decide +kernel
  have k2 := hts (.fieldLink RX1 9 "KnifeLedger" "kinds" "[I") (by decide +kernel)
  have k3 := hts (.fieldLink RX1 13 "KnifeLedger" "firsts" "[I") (by decide +kernel)
  have k4 := hts (.fieldLink RX1 16 "KnifeLedger" "seconds" "[I") (by decide +kernel)
  have k5 := hts (.fieldLink RX1 19 "KnifeLedger" "struck" "[Z") (by decide +kernel)
  have hn6 : n ≤ 60 := hX.1
  refine lv_iload_n hx hb dX1_entry_0 rfl (lv_at hl 1 rfl) ?_
  refine lv_aload_n hx hb dX1_entry_1 rfl (lv_at hl 0 rfl) ?_
  refine va_get (D := (dC, dI)) (ci := 1) (v := .int (nI n)) (C := RX1) (T := TX1) (N := 6) hx hb hts hinX1 hown hK hP 0 rfl rfl 4 (by decide) k0 (fun _ h9 => h9) rfl dX1_entry_2 ?_
  have hPc := hP.sub (ws' := []) [] rfl
  have hDc := hD.sub (ws' := []) [] (by decide) rfl
  have hKc := hK.sub (tys' := []) [] rfl
  have hFc := va_free (wc := []) hD hS hA [] rfl
  refine va_callv (va_runS (As := [.int (nI i), .int (nI n)]) (rest := []) ⟨hx, hb, hml, hown, hts⟩ (c_X1_needIndex l dC dI s.heap.size (nI i) (nI n) (nI_pos (by omega)) (nI_lt hi (by omega))) (va_cwS 2 hts gX1_entry_X1_needIndex rfl rfl rfl (by decide +kernel) ⟨Nat.le_of_ble_eq_true rfl, Nat.le_of_ble_eq_true rfl⟩) (pc_S hKc hPc hDc) rfl rfl hl.1 rfl (lv_room (Nat.le_of_ble_eq_true rfl)) dX1_entry_5 ⟨Nat.le_of_ble_eq_true rfl, Nat.le_of_ble_eq_true rfl⟩) hS (fun q _ h => hFc q h) hFc (fun u t H_1 locs ht hvm hw hB hz1 hk1 hS => ?_)
  try dsimp only at hw hB
  have hw_1 := hw
  obtain ⟨hP1, hD1⟩ := hB
  rw [ht] at hP1
  obtain ⟨hP, hD⟩ := va_join (wr := [(kl, .inr (1, [.ref aK, .ref aF, .ref aS, .ref aB, .int (nI n), .ref rk])), (aK, .inl (cI, 60, .inl K)), (aF, .inl (cI, 60, .inl F)), (aS, .inl (cI, 60, .inl S)), (aB, .inl (cZ, 60, .inl B)), (rk, .inr (0, [.ref aL, .ref aT, .ref aU, .int co, .int pl, .int st, .int jo, .int cn, .int ii, .int fi, .int fe])), (aL, .inl (cI, 4, .inl L)), (aT, .inl (cI, 4, .inl T)), (aU, .inl (cI, 6, .inl U))]) (w1 := []) hP hD [] [0, 1, 2, 3, 4, 5, 6, 7, 8] rfl rfl (by decide) (by decide) hk1 hFc hP1 hD1
  have hP : va_P (dC, dI) vwCl [(kl, .inr (1, [.ref aK, .ref aF, .ref aS, .ref aB, .int (nI n), .ref rk])), (aK, .inl (cI, 60, .inl K)), (aF, .inl (cI, 60, .inl F)), (aS, .inl (cI, 60, .inl S)), (aB, .inl (cZ, 60, .inl B)), (rk, .inr (0, [.ref aL, .ref aT, .ref aU, .int co, .int pl, .int st, .int jo, .int cn, .int ii, .int fi, .int fe])), (aL, .inl (cI, 4, .inl L)), (aT, .inl (cI, 4, .inl T)), (aU, .inl (cI, 6, .inl U))] H_1 := hP
  have hD : va_D A [(kl, .inr (1, [.ref aK, .ref aF, .ref aS, .ref aB, .int (nI n), .ref rk])), (aK, .inl (cI, 60, .inl K)), (aF, .inl (cI, 60, .inl F)), (aS, .inl (cI, 60, .inl S)), (aB, .inl (cZ, 60, .inl B)), (rk, .inr (0, [.ref aL, .ref aT, .ref aU, .int co, .int pl, .int st, .int jo, .int cn, .int ii, .int fi, .int fe])), (aL, .inl (cI, 4, .inl L)), (aT, .inl (cI, 4, .inl T)), (aU, .inl (cI, 6, .inl U))] := hD
  refine lv_iload_n hx hb dX1_entry_8 rfl (lv_at hl 2 rfl) ?_
  refine lv_iconst (v := 5) hx hb dX1_entry_9 (by decide) ?_
  have hPc := hP.sub (ws' := []) [] rfl
  have hDc := hD.sub (ws' := []) [] (by decide) rfl
  have hKc := hK.sub (tys' := []) [] rfl
  have hFc := va_free (wc := []) hD hS hA [] rfl
  refine va_callv (va_runS (As := [.int w, .int 5]) (rest := []) ⟨hx, hb, hml, hown, hts⟩ (c_X1_needIndex l dC dI H_1.size w 5 (hw0) (hw5)) (va_cwS 2 hts gX1_entry_X1_needIndex rfl rfl rfl (by decide +kernel) ⟨Nat.le_of_ble_eq_true rfl, Nat.le_of_ble_eq_true rfl⟩) (pc_S hKc hPc hDc) rfl rfl hl.1 rfl (lv_room (Nat.le_of_ble_eq_true rfl)) dX1_entry_10 ⟨Nat.le_of_ble_eq_true rfl, Nat.le_of_ble_eq_true rfl⟩) hS (fun q _ h => hFc q h) hFc (fun u t H_2 locs ht hvm hw hB hz1 hk1 hS => ?_)
  try dsimp only at hw hB
  have hw_2 := hw
  obtain ⟨hP1, hD1⟩ := hB
  rw [ht] at hP1
  obtain ⟨hP, hD⟩ := va_join (wr := [(kl, .inr (1, [.ref aK, .ref aF, .ref aS, .ref aB, .int (nI n), .ref rk])), (aK, .inl (cI, 60, .inl K)), (aF, .inl (cI, 60, .inl F)), (aS, .inl (cI, 60, .inl S)), (aB, .inl (cZ, 60, .inl B)), (rk, .inr (0, [.ref aL, .ref aT, .ref aU, .int co, .int pl, .int st, .int jo, .int cn, .int ii, .int fi, .int fe])), (aL, .inl (cI, 4, .inl L)), (aT, .inl (cI, 4, .inl T)), (aU, .inl (cI, 6, .inl U))]) (w1 := []) hP hD [] [0, 1, 2, 3, 4, 5, 6, 7, 8] rfl rfl (by decide) (by decide) hk1 hFc hP1 hD1
  have hP : va_P (dC, dI) vwCl [(kl, .inr (1, [.ref aK, .ref aF, .ref aS, .ref aB, .int (nI n), .ref rk])), (aK, .inl (cI, 60, .inl K)), (aF, .inl (cI, 60, .inl F)), (aS, .inl (cI, 60, .inl S)), (aB, .inl (cZ, 60, .inl B)), (rk, .inr (0, [.ref aL, .ref aT, .ref aU, .int co, .int pl, .int st, .int jo, .int cn, .int ii, .int fi, .int fe])), (aL, .inl (cI, 4, .inl L)), (aT, .inl (cI, 4, .inl T)), (aU, .inl (cI, 6, .inl U))] H_2 := hP
  have hD : va_D A [(kl, .inr (1, [.ref aK, .ref aF, .ref aS, .ref aB, .int (nI n), .ref rk])), (aK, .inl (cI, 60, .inl K)), (aF, .inl (cI, 60, .inl F)), (aS, .inl (cI, 60, .inl S)), (aB, .inl (cZ, 60, .inl B)), (rk, .inr (0, [.ref aL, .ref aT, .ref aU, .int co, .int pl, .int st, .int jo, .int cn, .int ii, .int fi, .int fe])), (aL, .inl (cI, 4, .inl L)), (aT, .inl (cI, 4, .inl T)), (aU, .inl (cI, 6, .inl U))] := hD
  refine lv_iload_n hx hb dX1_entry_13 rfl (lv_at hl 2 rfl) ?_
  by_cases k_14_0 : w = 0
  · -- case 0
    refine lv_tableIn (off := 30) (tgt := 44) hx hb dX1_entry_14 (by rw [k_14_0]; decide) (by rw [k_14_0]; decide) (by rw [k_14_0]; rfl) (by decide) ?_
    refine lv_aload_n hx hb dX1_entry_44 rfl (lv_at hl 0 rfl) ?_
    refine va_get (D := (dC, dI)) (ci := 1) (v := .ref aK) (C := RX1) (T := TX1) (N := 6) hx hb hts hinX1 hown hK hP 0 rfl rfl 0 (by decide) k2 (fun _ h9 => h9) rfl dX1_entry_45 ?_
    refine lv_iload_n hx hb dX1_entry_48 rfl (lv_at hl 1 rfl) ?_
    refine va_iald hx hb hK hP 1 0 rfl rfl (vp_in_nI (by omega) (by omega)) dX1_entry_49 ?_
    rw [nI_clamp (n := i) (by omega)]
    have hpost : (K i) = aEnt L T K F S B i w := by
      first | rfl | (simp only [aEnt, if_pos k_14_0]; done) | (simp only [aEnt, if_pos k_14_0]; rfl)
    have hP9 := hP.sub (ws' := [(kl, .inr (1, [.ref aK, .ref aF, .ref aS, .ref aB, .int (nI n), .ref rk])), (aK, .inl (cI, 60, .inl K)), (aF, .inl (cI, 60, .inl F)), (aS, .inl (cI, 60, .inl S)), (aB, .inl (cZ, 60, .inl B)), (rk, .inr (0, [.ref aL, .ref aT, .ref aU, .int co, .int pl, .int st, .int jo, .int cn, .int ii, .int fi, .int fe])), (aL, .inl (cI, 4, .inl L)), (aT, .inl (cI, 4, .inl T)), (aU, .inl (cI, 6, .inl U))]) [0, 1, 2, 3, 4, 5, 6, 7, 8] rfl
    have hD9 := hD.sub (ws' := [(kl, .inr (1, [.ref aK, .ref aF, .ref aS, .ref aB, .int (nI n), .ref rk])), (aK, .inl (cI, 60, .inl K)), (aF, .inl (cI, 60, .inl F)), (aS, .inl (cI, 60, .inl S)), (aB, .inl (cZ, 60, .inl B)), (rk, .inr (0, [.ref aL, .ref aT, .ref aU, .int co, .int pl, .int st, .int jo, .int cn, .int ii, .int fi, .int fe])), (aL, .inl (cI, 4, .inl L)), (aT, .inl (cI, 4, .inl T)), (aU, .inl (cI, 6, .inl U))]) [0, 1, 2, 3, 4, 5, 6, 7, 8] (by decide) rfl
    exact W.iret (v := K i) hx hb hr (fun t ht hW => ⟨⟨(K i), (co, pl, st, jo, cn, ii, fi, fe, U), rfl, hpost, by rw [ht]; exact hP9, hD9⟩, hS.F ht⟩) hS.2.2 dX1_entry_50
  by_cases k_14_1 : w = 1
  · -- case 1
    refine lv_tableIn (off := 37) (tgt := 51) hx hb dX1_entry_14 (by rw [k_14_1]; decide) (by rw [k_14_1]; decide) (by rw [k_14_1]; rfl) (by decide) ?_
    refine lv_aload_n hx hb dX1_entry_51 rfl (lv_at hl 0 rfl) ?_
    refine va_get (D := (dC, dI)) (ci := 1) (v := .ref aF) (C := RX1) (T := TX1) (N := 6) hx hb hts hinX1 hown hK hP 0 rfl rfl 1 (by decide) k3 (fun _ h9 => h9) rfl dX1_entry_52 ?_
    refine lv_iload_n hx hb dX1_entry_55 rfl (lv_at hl 1 rfl) ?_
    refine va_iald hx hb hK hP 2 0 rfl rfl (vp_in_nI (by omega) (by omega)) dX1_entry_56 ?_
    rw [nI_clamp (n := i) (by omega)]
    have hpost : (F i) = aEnt L T K F S B i w := by
      first | rfl | (simp only [aEnt, if_neg k_14_0, if_pos k_14_1]; done) | (simp only [aEnt, if_neg k_14_0, if_pos k_14_1]; rfl)
    have hP9 := hP.sub (ws' := [(kl, .inr (1, [.ref aK, .ref aF, .ref aS, .ref aB, .int (nI n), .ref rk])), (aK, .inl (cI, 60, .inl K)), (aF, .inl (cI, 60, .inl F)), (aS, .inl (cI, 60, .inl S)), (aB, .inl (cZ, 60, .inl B)), (rk, .inr (0, [.ref aL, .ref aT, .ref aU, .int co, .int pl, .int st, .int jo, .int cn, .int ii, .int fi, .int fe])), (aL, .inl (cI, 4, .inl L)), (aT, .inl (cI, 4, .inl T)), (aU, .inl (cI, 6, .inl U))]) [0, 1, 2, 3, 4, 5, 6, 7, 8] rfl
    have hD9 := hD.sub (ws' := [(kl, .inr (1, [.ref aK, .ref aF, .ref aS, .ref aB, .int (nI n), .ref rk])), (aK, .inl (cI, 60, .inl K)), (aF, .inl (cI, 60, .inl F)), (aS, .inl (cI, 60, .inl S)), (aB, .inl (cZ, 60, .inl B)), (rk, .inr (0, [.ref aL, .ref aT, .ref aU, .int co, .int pl, .int st, .int jo, .int cn, .int ii, .int fi, .int fe])), (aL, .inl (cI, 4, .inl L)), (aT, .inl (cI, 4, .inl T)), (aU, .inl (cI, 6, .inl U))]) [0, 1, 2, 3, 4, 5, 6, 7, 8] (by decide) rfl
    exact W.iret (v := F i) hx hb hr (fun t ht hW => ⟨⟨(F i), (co, pl, st, jo, cn, ii, fi, fe, U), rfl, hpost, by rw [ht]; exact hP9, hD9⟩, hS.F ht⟩) hS.2.2 dX1_entry_57
  by_cases k_14_2 : w = 2
  · -- case 2
    refine lv_tableIn (off := 44) (tgt := 58) hx hb dX1_entry_14 (by rw [k_14_2]; decide) (by rw [k_14_2]; decide) (by rw [k_14_2]; rfl) (by decide) ?_
    refine lv_aload_n hx hb dX1_entry_58 rfl (lv_at hl 0 rfl) ?_
    refine va_get (D := (dC, dI)) (ci := 1) (v := .ref aS) (C := RX1) (T := TX1) (N := 6) hx hb hts hinX1 hown hK hP 0 rfl rfl 2 (by decide) k4 (fun _ h9 => h9) rfl dX1_entry_59 ?_
    refine lv_iload_n hx hb dX1_entry_62 rfl (lv_at hl 1 rfl) ?_
    refine va_iald hx hb hK hP 3 0 rfl rfl (vp_in_nI (by omega) (by omega)) dX1_entry_63 ?_
    rw [nI_clamp (n := i) (by omega)]
    have hpost : (S i) = aEnt L T K F S B i w := by
      first | rfl | (simp only [aEnt, if_neg k_14_0, if_neg k_14_1, if_pos k_14_2]; done) | (simp only [aEnt, if_neg k_14_0, if_neg k_14_1, if_pos k_14_2]; rfl)
    have hP9 := hP.sub (ws' := [(kl, .inr (1, [.ref aK, .ref aF, .ref aS, .ref aB, .int (nI n), .ref rk])), (aK, .inl (cI, 60, .inl K)), (aF, .inl (cI, 60, .inl F)), (aS, .inl (cI, 60, .inl S)), (aB, .inl (cZ, 60, .inl B)), (rk, .inr (0, [.ref aL, .ref aT, .ref aU, .int co, .int pl, .int st, .int jo, .int cn, .int ii, .int fi, .int fe])), (aL, .inl (cI, 4, .inl L)), (aT, .inl (cI, 4, .inl T)), (aU, .inl (cI, 6, .inl U))]) [0, 1, 2, 3, 4, 5, 6, 7, 8] rfl
    have hD9 := hD.sub (ws' := [(kl, .inr (1, [.ref aK, .ref aF, .ref aS, .ref aB, .int (nI n), .ref rk])), (aK, .inl (cI, 60, .inl K)), (aF, .inl (cI, 60, .inl F)), (aS, .inl (cI, 60, .inl S)), (aB, .inl (cZ, 60, .inl B)), (rk, .inr (0, [.ref aL, .ref aT, .ref aU, .int co, .int pl, .int st, .int jo, .int cn, .int ii, .int fi, .int fe])), (aL, .inl (cI, 4, .inl L)), (aT, .inl (cI, 4, .inl T)), (aU, .inl (cI, 6, .inl U))]) [0, 1, 2, 3, 4, 5, 6, 7, 8] (by decide) rfl
    exact W.iret (v := S i) hx hb hr (fun t ht hW => ⟨⟨(S i), (co, pl, st, jo, cn, ii, fi, fe, U), rfl, hpost, by rw [ht]; exact hP9, hD9⟩, hS.F ht⟩) hS.2.2 dX1_entry_64
  by_cases k_14_3 : w = 3
  · -- case 3
    refine lv_tableIn (off := 51) (tgt := 65) hx hb dX1_entry_14 (by rw [k_14_3]; decide) (by rw [k_14_3]; decide) (by rw [k_14_3]; rfl) (by decide) ?_
    refine lv_aload_n hx hb dX1_entry_65 rfl (lv_at hl 0 rfl) ?_
    refine va_get (D := (dC, dI)) (ci := 1) (v := .ref aB) (C := RX1) (T := TX1) (N := 6) hx hb hts hinX1 hown hK hP 0 rfl rfl 3 (by decide) k5 (fun _ h9 => h9) rfl dX1_entry_66 ?_
    refine lv_iload_n hx hb dX1_entry_69 rfl (lv_at hl 1 rfl) ?_
    refine va_zald hx hb hK hP 4 1 rfl rfl (vp_in_nI (by omega) (by omega)) dX1_entry_70 ?_
    rw [nI_clamp (n := i) (by omega)]
    refine lv_if_eq (tgt := 78) hx hb dX1_entry_71 (by decide) (fun c_71 => ?_) (fun c_71 => ?_)
    · -- 71
      refine lv_iconst (v := 0) hx hb dX1_entry_78 (by decide) ?_
      have hpost : (0 : Int32) = aEnt L T K F S B i w := by
        first | rfl | (simp only [aEnt, if_neg k_14_0, if_neg k_14_1, if_neg k_14_2, if_pos k_14_3, if_pos c_71]; done) | (simp only [aEnt, if_neg k_14_0, if_neg k_14_1, if_neg k_14_2, if_pos k_14_3, if_pos c_71]; rfl)
      have hP9 := hP.sub (ws' := [(kl, .inr (1, [.ref aK, .ref aF, .ref aS, .ref aB, .int (nI n), .ref rk])), (aK, .inl (cI, 60, .inl K)), (aF, .inl (cI, 60, .inl F)), (aS, .inl (cI, 60, .inl S)), (aB, .inl (cZ, 60, .inl B)), (rk, .inr (0, [.ref aL, .ref aT, .ref aU, .int co, .int pl, .int st, .int jo, .int cn, .int ii, .int fi, .int fe])), (aL, .inl (cI, 4, .inl L)), (aT, .inl (cI, 4, .inl T)), (aU, .inl (cI, 6, .inl U))]) [0, 1, 2, 3, 4, 5, 6, 7, 8] rfl
      have hD9 := hD.sub (ws' := [(kl, .inr (1, [.ref aK, .ref aF, .ref aS, .ref aB, .int (nI n), .ref rk])), (aK, .inl (cI, 60, .inl K)), (aF, .inl (cI, 60, .inl F)), (aS, .inl (cI, 60, .inl S)), (aB, .inl (cZ, 60, .inl B)), (rk, .inr (0, [.ref aL, .ref aT, .ref aU, .int co, .int pl, .int st, .int jo, .int cn, .int ii, .int fi, .int fe])), (aL, .inl (cI, 4, .inl L)), (aT, .inl (cI, 4, .inl T)), (aU, .inl (cI, 6, .inl U))]) [0, 1, 2, 3, 4, 5, 6, 7, 8] (by decide) rfl
      exact W.iret (v := 0) hx hb hr (fun t ht hW => ⟨⟨0, (co, pl, st, jo, cn, ii, fi, fe, U), rfl, hpost, by rw [ht]; exact hP9, hD9⟩, hS.F ht⟩) hS.2.2 dX1_entry_79
    · -- 71
      refine lv_iconst (v := 1) hx hb dX1_entry_74 (by decide) ?_
      refine lv_goto (tgt := 79) hx hb dX1_entry_75 (by decide) ?_
      have hpost : (1 : Int32) = aEnt L T K F S B i w := by
        first | rfl | (simp only [aEnt, if_neg k_14_0, if_neg k_14_1, if_neg k_14_2, if_pos k_14_3, if_neg c_71]; done) | (simp only [aEnt, if_neg k_14_0, if_neg k_14_1, if_neg k_14_2, if_pos k_14_3, if_neg c_71]; rfl)
      have hP9 := hP.sub (ws' := [(kl, .inr (1, [.ref aK, .ref aF, .ref aS, .ref aB, .int (nI n), .ref rk])), (aK, .inl (cI, 60, .inl K)), (aF, .inl (cI, 60, .inl F)), (aS, .inl (cI, 60, .inl S)), (aB, .inl (cZ, 60, .inl B)), (rk, .inr (0, [.ref aL, .ref aT, .ref aU, .int co, .int pl, .int st, .int jo, .int cn, .int ii, .int fi, .int fe])), (aL, .inl (cI, 4, .inl L)), (aT, .inl (cI, 4, .inl T)), (aU, .inl (cI, 6, .inl U))]) [0, 1, 2, 3, 4, 5, 6, 7, 8] rfl
      have hD9 := hD.sub (ws' := [(kl, .inr (1, [.ref aK, .ref aF, .ref aS, .ref aB, .int (nI n), .ref rk])), (aK, .inl (cI, 60, .inl K)), (aF, .inl (cI, 60, .inl F)), (aS, .inl (cI, 60, .inl S)), (aB, .inl (cZ, 60, .inl B)), (rk, .inr (0, [.ref aL, .ref aT, .ref aU, .int co, .int pl, .int st, .int jo, .int cn, .int ii, .int fi, .int fe])), (aL, .inl (cI, 4, .inl L)), (aT, .inl (cI, 4, .inl T)), (aU, .inl (cI, 6, .inl U))]) [0, 1, 2, 3, 4, 5, 6, 7, 8] (by decide) rfl
      exact W.iret (v := 1) hx hb hr (fun t ht hW => ⟨⟨1, (co, pl, st, jo, cn, ii, fi, fe, U), rfl, hpost, by rw [ht]; exact hP9, hD9⟩, hS.F ht⟩) hS.2.2 dX1_entry_79
  refine lv_tableOut (tgt := 80) hx hb dX1_entry_14 (sw_out4 k_14_0 k_14_1 k_14_2 k_14_3) (by decide) ?_
  refine lv_aload_n hx hb dX1_entry_80 rfl (lv_at hl 0 rfl) ?_
  refine lv_iload_n hx hb dX1_entry_81 rfl (lv_at hl 1 rfl) ?_
  have hPc := hP.sub (ws' := [(kl, .inr (1, [.ref aK, .ref aF, .ref aS, .ref aB, .int (nI n), .ref rk])), (aK, .inl (cI, 60, .inl K)), (aF, .inl (cI, 60, .inl F)), (aS, .inl (cI, 60, .inl S)), (aB, .inl (cZ, 60, .inl B)), (rk, .inr (0, [.ref aL, .ref aT, .ref aU, .int co, .int pl, .int st, .int jo, .int cn, .int ii, .int fi, .int fe])), (aL, .inl (cI, 4, .inl L)), (aT, .inl (cI, 4, .inl T)), (aU, .inl (cI, 6, .inl U))]) [0, 1, 2, 3, 4, 5, 6, 7, 8] rfl
  have hDc := hD.sub (ws' := [(kl, .inr (1, [.ref aK, .ref aF, .ref aS, .ref aB, .int (nI n), .ref rk])), (aK, .inl (cI, 60, .inl K)), (aF, .inl (cI, 60, .inl F)), (aS, .inl (cI, 60, .inl S)), (aB, .inl (cZ, 60, .inl B)), (rk, .inr (0, [.ref aL, .ref aT, .ref aU, .int co, .int pl, .int st, .int jo, .int cn, .int ii, .int fi, .int fe])), (aL, .inl (cI, 4, .inl L)), (aT, .inl (cI, 4, .inl T)), (aU, .inl (cI, 6, .inl U))]) [0, 1, 2, 3, 4, 5, 6, 7, 8] (by decide) rfl
  have hKc := hK.sub (tys' := [(cI, .int), (cZ, .boolean)]) [0, 1] rfl
  have hFc := va_free (wc := [(kl, .inr (1, [.ref aK, .ref aF, .ref aS, .ref aB, .int (nI n), .ref rk])), (aK, .inl (cI, 60, .inl K)), (aF, .inl (cI, 60, .inl F)), (aS, .inl (cI, 60, .inl S)), (aB, .inl (cZ, 60, .inl B)), (rk, .inr (0, [.ref aL, .ref aT, .ref aU, .int co, .int pl, .int st, .int jo, .int cn, .int ii, .int fi, .int fe])), (aL, .inl (cI, 4, .inl L)), (aT, .inl (cI, 4, .inl T)), (aU, .inl (cI, 6, .inl U))]) hD hS hA [0, 1, 2, 3, 4, 5, 6, 7, 8] rfl
  refine va_calli (va_runV (As := [.int (nI i)]) (rest := []) ⟨hx, hb, hml, hown, hts⟩ (c_X1_counts l dC dI cI cZ kl aK aF aS aB rk aL aT aU H_2.size L T K F S B U n co pl st jo cn ii fi fe i (hX) (hi)) (cwV 1 hts gX1_entry_X1_counts rfl rfl rfl (by decide +kernel) ⟨Nat.le_of_ble_eq_true rfl, Nat.le_of_ble_eq_true rfl⟩) (pn_V hN hKc hPc hDc (ci := 1) (C := RX1) (T := TX1) (N := 6) (q0 := 0) rfl rfl) rfl rfl hl.1 rfl (lv_room (Nat.le_of_ble_eq_true rfl)) dX1_entry_82 ⟨Nat.le_of_ble_eq_true rfl, Nat.le_of_ble_eq_true rfl⟩) hS (fun q _ h => hFc q h) hFc (fun r_3 u t H_3 locs ht hvm hw hB hz1 hk1 hS => ?_)
  obtain ⟨co1_3, pl1_3, st1_3, jo1_3, cn1_3, ii1_3, fi1_3, fe1_3, U1_3⟩ := u
  try dsimp only at hw hB
  have hw_3 := hw
  replace hw_3 := hw_3.symm
  subst hw_3
  obtain ⟨hP1, hD1⟩ := hB
  rw [ht] at hP1
  obtain ⟨hP, hD⟩ := va_join (wr := []) (w1 := [(kl, .inr (1, [.ref aK, .ref aF, .ref aS, .ref aB, .int (nI n), .ref rk])), (aK, .inl (cI, 60, .inl K)), (aF, .inl (cI, 60, .inl F)), (aS, .inl (cI, 60, .inl S)), (aB, .inl (cZ, 60, .inl B)), (rk, .inr (0, [.ref aL, .ref aT, .ref aU, .int co1_3, .int pl1_3, .int st1_3, .int jo1_3, .int cn1_3, .int ii1_3, .int fi1_3, .int fe1_3])), (aL, .inl (cI, 4, .inl L)), (aT, .inl (cI, 4, .inl T)), (aU, .inl (cI, 6, .inl U1_3))]) hP hD [0, 1, 2, 3, 4, 5, 6, 7, 8] [] rfl rfl (by decide) (by decide) hk1 hFc hP1 hD1
  have hP : va_P (dC, dI) vwCl [(kl, .inr (1, [.ref aK, .ref aF, .ref aS, .ref aB, .int (nI n), .ref rk])), (aK, .inl (cI, 60, .inl K)), (aF, .inl (cI, 60, .inl F)), (aS, .inl (cI, 60, .inl S)), (aB, .inl (cZ, 60, .inl B)), (rk, .inr (0, [.ref aL, .ref aT, .ref aU, .int co1_3, .int pl1_3, .int st1_3, .int jo1_3, .int cn1_3, .int ii1_3, .int fi1_3, .int fe1_3])), (aL, .inl (cI, 4, .inl L)), (aT, .inl (cI, 4, .inl T)), (aU, .inl (cI, 6, .inl U1_3))] H_3 := hP
  have hD : va_D A [(kl, .inr (1, [.ref aK, .ref aF, .ref aS, .ref aB, .int (nI n), .ref rk])), (aK, .inl (cI, 60, .inl K)), (aF, .inl (cI, 60, .inl F)), (aS, .inl (cI, 60, .inl S)), (aB, .inl (cZ, 60, .inl B)), (rk, .inr (0, [.ref aL, .ref aT, .ref aU, .int co1_3, .int pl1_3, .int st1_3, .int jo1_3, .int cn1_3, .int ii1_3, .int fi1_3, .int fe1_3])), (aL, .inl (cI, 4, .inl L)), (aT, .inl (cI, 4, .inl T)), (aU, .inl (cI, 6, .inl U1_3))] := hD
  refine lv_if_eq (tgt := 92) hx hb dX1_entry_85 (by decide) (fun c_85 => ?_) (fun c_85 => ?_)
  · -- 85
    refine lv_iconst (v := 0) hx hb dX1_entry_92 (by decide) ?_
    have hpost : (0 : Int32) = aEnt L T K F S B i w := by
      first | rfl | (simp only [aEnt, if_neg k_14_0, if_neg k_14_1, if_neg k_14_2, if_neg k_14_3, if_pos c_85]; done) | (simp only [aEnt, if_neg k_14_0, if_neg k_14_1, if_neg k_14_2, if_neg k_14_3, if_pos c_85]; rfl)
    have hP9 := hP.sub (ws' := [(kl, .inr (1, [.ref aK, .ref aF, .ref aS, .ref aB, .int (nI n), .ref rk])), (aK, .inl (cI, 60, .inl K)), (aF, .inl (cI, 60, .inl F)), (aS, .inl (cI, 60, .inl S)), (aB, .inl (cZ, 60, .inl B)), (rk, .inr (0, [.ref aL, .ref aT, .ref aU, .int co1_3, .int pl1_3, .int st1_3, .int jo1_3, .int cn1_3, .int ii1_3, .int fi1_3, .int fe1_3])), (aL, .inl (cI, 4, .inl L)), (aT, .inl (cI, 4, .inl T)), (aU, .inl (cI, 6, .inl U1_3))]) [0, 1, 2, 3, 4, 5, 6, 7, 8] rfl
    have hD9 := hD.sub (ws' := [(kl, .inr (1, [.ref aK, .ref aF, .ref aS, .ref aB, .int (nI n), .ref rk])), (aK, .inl (cI, 60, .inl K)), (aF, .inl (cI, 60, .inl F)), (aS, .inl (cI, 60, .inl S)), (aB, .inl (cZ, 60, .inl B)), (rk, .inr (0, [.ref aL, .ref aT, .ref aU, .int co1_3, .int pl1_3, .int st1_3, .int jo1_3, .int cn1_3, .int ii1_3, .int fi1_3, .int fe1_3])), (aL, .inl (cI, 4, .inl L)), (aT, .inl (cI, 4, .inl T)), (aU, .inl (cI, 6, .inl U1_3))]) [0, 1, 2, 3, 4, 5, 6, 7, 8] (by decide) rfl
    exact W.iret (v := 0) hx hb hr (fun t ht hW => ⟨⟨0, (co1_3, pl1_3, st1_3, jo1_3, cn1_3, ii1_3, fi1_3, fe1_3, U1_3), rfl, hpost, by rw [ht]; exact hP9, hD9⟩, hS.F ht⟩) hS.2.2 dX1_entry_93
  · -- 85
    refine lv_iconst (v := 1) hx hb dX1_entry_88 (by decide) ?_
    refine lv_goto (tgt := 93) hx hb dX1_entry_89 (by decide) ?_
    have hpost : (1 : Int32) = aEnt L T K F S B i w := by
      first | rfl | (simp only [aEnt, if_neg k_14_0, if_neg k_14_1, if_neg k_14_2, if_neg k_14_3, if_neg c_85]; done) | (simp only [aEnt, if_neg k_14_0, if_neg k_14_1, if_neg k_14_2, if_neg k_14_3, if_neg c_85]; rfl)
    have hP9 := hP.sub (ws' := [(kl, .inr (1, [.ref aK, .ref aF, .ref aS, .ref aB, .int (nI n), .ref rk])), (aK, .inl (cI, 60, .inl K)), (aF, .inl (cI, 60, .inl F)), (aS, .inl (cI, 60, .inl S)), (aB, .inl (cZ, 60, .inl B)), (rk, .inr (0, [.ref aL, .ref aT, .ref aU, .int co1_3, .int pl1_3, .int st1_3, .int jo1_3, .int cn1_3, .int ii1_3, .int fi1_3, .int fe1_3])), (aL, .inl (cI, 4, .inl L)), (aT, .inl (cI, 4, .inl T)), (aU, .inl (cI, 6, .inl U1_3))]) [0, 1, 2, 3, 4, 5, 6, 7, 8] rfl
    have hD9 := hD.sub (ws' := [(kl, .inr (1, [.ref aK, .ref aF, .ref aS, .ref aB, .int (nI n), .ref rk])), (aK, .inl (cI, 60, .inl K)), (aF, .inl (cI, 60, .inl F)), (aS, .inl (cI, 60, .inl S)), (aB, .inl (cZ, 60, .inl B)), (rk, .inr (0, [.ref aL, .ref aT, .ref aU, .int co1_3, .int pl1_3, .int st1_3, .int jo1_3, .int cn1_3, .int ii1_3, .int fi1_3, .int fe1_3])), (aL, .inl (cI, 4, .inl L)), (aT, .inl (cI, 4, .inl T)), (aU, .inl (cI, 6, .inl U1_3))]) [0, 1, 2, 3, 4, 5, 6, 7, 8] (by decide) rfl
    exact W.iret (v := 1) hx hb hr (fun t ht hW => ⟨⟨1, (co1_3, pl1_3, st1_3, jo1_3, cn1_3, ii1_3, fi1_3, fe1_3, U1_3), rfl, hpost, by rw [ht]; exact hP9, hD9⟩, hS.F ht⟩) hS.2.2 dX1_entry_93

set_option maxHeartbeats 4000000 in
set_option maxRecDepth 100000 in
theorem c_X1_behind (l : Launch) (dC : Nat → ClassId) (dI : Nat → Nat → Nat) (cI cZ : ClassId) (kl aK aF aS aB rk aL aT aU : Nat) (sz : Nat)  (L : N2I) (T : N2I) (K : N2I) (F : N2I) (S : N2I) (B : N2I) (U : N2I) (n : Nat) (co : Int32) (pl : Int32) (st : Int32) (jo : Int32) (cn : Int32) (ii : Int32) (fi : Int32) (fe : Int32) (mm : Nat) (w : Int32) (hX : okX K F S B n) (hm : mm ≤ n) (hw0 : ¬ w < 0) (hw7 : w < 7) : Met l yX1_behind wsX1_behind ({ frames := 7, cells := 0, slots := 0, locals := 152 } : Room) (va_Pc [.ref kl, .int (nI mm), .int w] (pn_  (dC, dI) [(cI, .int), (cZ, .boolean)] [(kl, .inr (1, [.ref aK, .ref aF, .ref aS, .ref aB, .int (nI n), .ref rk])), (aK, .inl (cI, 60, .inl K)), (aF, .inl (cI, 60, .inl F)), (aS, .inl (cI, 60, .inl S)), (aB, .inl (cZ, 60, .inl B)), (rk, .inr (0, [.ref aL, .ref aT, .ref aU, .int co, .int pl, .int st, .int jo, .int cn, .int ii, .int fi, .int fe])), (aL, .inl (cI, 4, .inl L)), (aT, .inl (cI, 4, .inl T)), (aU, .inl (cI, 6, .inl U))] sz)) (va_Qi (fun (r : Int32) (u : Int32 × Int32 × Int32 × Int32 × Int32 × Int32 × Int32 × Int32 × N2I) => r = aBehind w (cRec L T K F S B mm)) (fun (u : Int32 × Int32 × Int32 × Int32 × Int32 × Int32 × Int32 × Int32 × N2I) (t : State) => va_P (dC, dI) vwCl [(kl, .inr (1, [.ref aK, .ref aF, .ref aS, .ref aB, .int (nI n), .ref rk])), (aK, .inl (cI, 60, .inl K)), (aF, .inl (cI, 60, .inl F)), (aS, .inl (cI, 60, .inl S)), (aB, .inl (cZ, 60, .inl B)), (rk, .inr (0, [.ref aL, .ref aT, .ref aU, .int u.1, .int u.2.1, .int u.2.2.1, .int u.2.2.2.1, .int u.2.2.2.2.1, .int u.2.2.2.2.2.1, .int u.2.2.2.2.2.2.1, .int u.2.2.2.2.2.2.2.1])), (aL, .inl (cI, 4, .inl L)), (aT, .inl (cI, 4, .inl T)), (aU, .inl (cI, 6, .inl u.2.2.2.2.2.2.2.2))] t.heap ∧ va_D (va_A [(kl, .inr (1, [.ref aK, .ref aF, .ref aS, .ref aB, .int (nI n), .ref rk])), (aK, .inl (cI, 60, .inl K)), (aF, .inl (cI, 60, .inl F)), (aS, .inl (cI, 60, .inl S)), (aB, .inl (cZ, 60, .inl B)), (rk, .inr (0, [.ref aL, .ref aT, .ref aU, .int co, .int pl, .int st, .int jo, .int cn, .int ii, .int fi, .int fe])), (aL, .inl (cI, 4, .inl L)), (aT, .inl (cI, 4, .inl T)), (aU, .inl (cI, 6, .inl U))] sz) [(kl, .inr (1, [.ref aK, .ref aF, .ref aS, .ref aB, .int (nI n), .ref rk])), (aK, .inl (cI, 60, .inl K)), (aF, .inl (cI, 60, .inl F)), (aS, .inl (cI, 60, .inl S)), (aB, .inl (cZ, 60, .inl B)), (rk, .inr (0, [.ref aL, .ref aT, .ref aU, .int u.1, .int u.2.1, .int u.2.2.1, .int u.2.2.2.1, .int u.2.2.2.2.1, .int u.2.2.2.2.2.1, .int u.2.2.2.2.2.2.1, .int u.2.2.2.2.2.2.2.1])), (aL, .inl (cI, 4, .inl L)), (aT, .inl (cI, 4, .inl T)), (aU, .inl (cI, 6, .inl u.2.2.2.2.2.2.2.2))]) (va_A [(kl, .inr (1, [.ref aK, .ref aF, .ref aS, .ref aB, .int (nI n), .ref rk])), (aK, .inl (cI, 60, .inl K)), (aF, .inl (cI, 60, .inl F)), (aS, .inl (cI, 60, .inl S)), (aB, .inl (cZ, 60, .inl B)), (rk, .inr (0, [.ref aL, .ref aT, .ref aU, .int co, .int pl, .int st, .int jo, .int cn, .int ii, .int fi, .int fe])), (aL, .inl (cI, 4, .inl L)), (aT, .inl (cI, 4, .inl T)), (aU, .inl (cI, 6, .inl U))] sz)) 0 0 (va_A [(kl, .inr (1, [.ref aK, .ref aF, .ref aS, .ref aB, .int (nI n), .ref rk])), (aK, .inl (cI, 60, .inl K)), (aF, .inl (cI, 60, .inl F)), (aS, .inl (cI, 60, .inl S)), (aB, .inl (cZ, 60, .inl B)), (rk, .inr (0, [.ref aL, .ref aT, .ref aU, .int co, .int pl, .int st, .int jo, .int cn, .int ii, .int fi, .int fe])), (aL, .inl (cI, 4, .inl L)), (aT, .inl (cI, 4, .inl T)), (aU, .inl (cI, 6, .inl U))] sz) := by
  refine Met.ofW (cc := cX1_behind) (maxL := 3) (ret := (some .int)) (by decide) rfl ?_
  intro p e s m args below meth c s₁ BB hml hv
  obtain ⟨rfl, hsz, hP, hK, hD0, hN⟩ := hv
  have hx := BB.exec
  have hb := BB.bytes
  have hr := BB.returns
  have hts := atoms_spec (ws := wsX1_behind) BB.pre
  have hown : s.vm.findClass RX1 = some m.cls := findClass_of_methodNamed BB.named
  have hlocks := BB.notSynchronized
  subst hsz
  have hD := hD0.self (sz := s.heap.size)
  generalize hAe : va_A [(kl, .inr (1, [.ref aK, .ref aF, .ref aS, .ref aB, .int (nI n), .ref rk])), (aK, .inl (cI, 60, .inl K)), (aF, .inl (cI, 60, .inl F)), (aS, .inl (cI, 60, .inl S)), (aB, .inl (cZ, 60, .inl B)), (rk, .inr (0, [.ref aL, .ref aT, .ref aU, .int co, .int pl, .int st, .int jo, .int cn, .int ii, .int fi, .int fe])), (aL, .inl (cI, 4, .inl L)), (aT, .inl (cI, 4, .inl T)), (aU, .inl (cI, 6, .inl U))] s.heap.size = A at hD ⊢
  have hA : ∀ q : Nat, s.heap.size ≤ q → A q := fun q h => by rw [← hAe]; exact Or.inr h
  have hS : va_S A s.heap s.heap [] := va_S.rf
  have hP : va_P (dC, dI) vwCl [(kl, .inr (1, [.ref aK, .ref aF, .ref aS, .ref aB, .int (nI n), .ref rk])), (aK, .inl (cI, 60, .inl K)), (aF, .inl (cI, 60, .inl F)), (aS, .inl (cI, 60, .inl S)), (aB, .inl (cZ, 60, .inl B)), (rk, .inr (0, [.ref aL, .ref aT, .ref aU, .int co, .int pl, .int st, .int jo, .int cn, .int ii, .int fi, .int fe])), (aL, .inl (cI, 4, .inl L)), (aT, .inl (cI, 4, .inl T)), (aU, .inl (cI, 6, .inl U))] s.heap := hP
  have hl := lv_entry ([.ref kl, .int (nI mm), .int w]) (n := 3) (Nat.le_of_ble_eq_true rfl)
  rw [lg_entry_eq]
  generalize (lg_sl ([.ref kl, .int (nI mm), .int w]) ++ List.replicate (3 - (lg_sl ([.ref kl, .int (nI mm), .int w])).length) Slot.unset).toArray = ls at hl ⊢
  have hl : lv_has ls 3 [(0, .ref kl), (1, .int (nI mm)), (2, .int w)] := hl
  have k0 := hts (.fieldLink RX1 23 "KnifeLedger" "size" "I") (by decide +kernel)
  have hinX1 : ∀ w ∈ wsX10, w ∈ wsX1_behind := by decide +kernel
  have k2 := hts (.fieldLink RX1 30 "KnifeLedger" "reckoning" "LKnifeLedger$Reckoning;") (by decide +kernel)
  have hinX0 : ∀ w ∈ wsX00, w ∈ wsX1_behind := by decide +kernel
  have k4 := hts (.initialized RX0) (by decide +kernel)
  have k5 := hts (.instanceMethod yX0_trustOfAll) (by decide +kernel)
  have k6 := hts (.selects RX0 yX0_trustOfAll yX0_trustOfAll) (by decide +kernel)
  have hn6 : n ≤ 60 := hX.1
  refine lv_iload_n hx hb dX1_behind_0 rfl (lv_at hl 1 rfl) ?_
  refine lv_iconst (v := 0) hx hb dX1_behind_1 (by decide) ?_
  refine lv_aload_n hx hb dX1_behind_2 rfl (lv_at hl 0 rfl) ?_
  refine va_get (D := (dC, dI)) (ci := 1) (v := .int (nI n)) (C := RX1) (T := TX1) (N := 6) hx hb hts hinX1 hown hK hP 0 rfl rfl 4 (by decide) k0 (fun _ h9 => h9) rfl dX1_behind_3 ?_
  have hPc := hP.sub (ws' := []) [] rfl
  have hDc := hD.sub (ws' := []) [] (by decide) rfl
  have hKc := hK.sub (tys' := []) [] rfl
  have hFc := va_free (wc := []) hD hS hA [] rfl
  refine va_callv (va_runS (As := [.int (nI mm), .int 0, .int (nI n)]) (rest := []) ⟨hx, hb, hml, hown, hts⟩ (c_X1_needWithin l dC dI s.heap.size (nI mm) 0 (nI n) (nI_pos (by omega)) (nI_le hm (by omega))) (va_cwS 3 hts gX1_behind_X1_needWithin rfl rfl rfl (by decide +kernel) ⟨Nat.le_of_ble_eq_true rfl, Nat.le_of_ble_eq_true rfl⟩) (pc_S hKc hPc hDc) rfl rfl hl.1 rfl (lv_room (Nat.le_of_ble_eq_true rfl)) dX1_behind_6 ⟨Nat.le_of_ble_eq_true rfl, Nat.le_of_ble_eq_true rfl⟩) hS (fun q _ h => hFc q h) hFc (fun u t H_1 locs ht hvm hw hB hz1 hk1 hS => ?_)
  try dsimp only at hw hB
  have hw_1 := hw
  obtain ⟨hP1, hD1⟩ := hB
  rw [ht] at hP1
  obtain ⟨hP, hD⟩ := va_join (wr := [(kl, .inr (1, [.ref aK, .ref aF, .ref aS, .ref aB, .int (nI n), .ref rk])), (aK, .inl (cI, 60, .inl K)), (aF, .inl (cI, 60, .inl F)), (aS, .inl (cI, 60, .inl S)), (aB, .inl (cZ, 60, .inl B)), (rk, .inr (0, [.ref aL, .ref aT, .ref aU, .int co, .int pl, .int st, .int jo, .int cn, .int ii, .int fi, .int fe])), (aL, .inl (cI, 4, .inl L)), (aT, .inl (cI, 4, .inl T)), (aU, .inl (cI, 6, .inl U))]) (w1 := []) hP hD [] [0, 1, 2, 3, 4, 5, 6, 7, 8] rfl rfl (by decide) (by decide) hk1 hFc hP1 hD1
  have hP : va_P (dC, dI) vwCl [(kl, .inr (1, [.ref aK, .ref aF, .ref aS, .ref aB, .int (nI n), .ref rk])), (aK, .inl (cI, 60, .inl K)), (aF, .inl (cI, 60, .inl F)), (aS, .inl (cI, 60, .inl S)), (aB, .inl (cZ, 60, .inl B)), (rk, .inr (0, [.ref aL, .ref aT, .ref aU, .int co, .int pl, .int st, .int jo, .int cn, .int ii, .int fi, .int fe])), (aL, .inl (cI, 4, .inl L)), (aT, .inl (cI, 4, .inl T)), (aU, .inl (cI, 6, .inl U))] H_1 := hP
  have hD : va_D A [(kl, .inr (1, [.ref aK, .ref aF, .ref aS, .ref aB, .int (nI n), .ref rk])), (aK, .inl (cI, 60, .inl K)), (aF, .inl (cI, 60, .inl F)), (aS, .inl (cI, 60, .inl S)), (aB, .inl (cZ, 60, .inl B)), (rk, .inr (0, [.ref aL, .ref aT, .ref aU, .int co, .int pl, .int st, .int jo, .int cn, .int ii, .int fi, .int fe])), (aL, .inl (cI, 4, .inl L)), (aT, .inl (cI, 4, .inl T)), (aU, .inl (cI, 6, .inl U))] := hD
  refine lv_iload_n hx hb dX1_behind_9 rfl (lv_at hl 2 rfl) ?_
  refine lv_bipush (v := 7) hx hb dX1_behind_10 (by decide) ?_
  have hPc := hP.sub (ws' := []) [] rfl
  have hDc := hD.sub (ws' := []) [] (by decide) rfl
  have hKc := hK.sub (tys' := []) [] rfl
  have hFc := va_free (wc := []) hD hS hA [] rfl
  refine va_callv (va_runS (As := [.int w, .int 7]) (rest := []) ⟨hx, hb, hml, hown, hts⟩ (c_X1_needIndex l dC dI H_1.size w 7 (hw0) (hw7)) (va_cwS 2 hts gX1_behind_X1_needIndex rfl rfl rfl (by decide +kernel) ⟨Nat.le_of_ble_eq_true rfl, Nat.le_of_ble_eq_true rfl⟩) (pc_S hKc hPc hDc) rfl rfl hl.1 rfl (lv_room (Nat.le_of_ble_eq_true rfl)) dX1_behind_12 ⟨Nat.le_of_ble_eq_true rfl, Nat.le_of_ble_eq_true rfl⟩) hS (fun q _ h => hFc q h) hFc (fun u t H_2 locs ht hvm hw hB hz1 hk1 hS => ?_)
  try dsimp only at hw hB
  have hw_2 := hw
  obtain ⟨hP1, hD1⟩ := hB
  rw [ht] at hP1
  obtain ⟨hP, hD⟩ := va_join (wr := [(kl, .inr (1, [.ref aK, .ref aF, .ref aS, .ref aB, .int (nI n), .ref rk])), (aK, .inl (cI, 60, .inl K)), (aF, .inl (cI, 60, .inl F)), (aS, .inl (cI, 60, .inl S)), (aB, .inl (cZ, 60, .inl B)), (rk, .inr (0, [.ref aL, .ref aT, .ref aU, .int co, .int pl, .int st, .int jo, .int cn, .int ii, .int fi, .int fe])), (aL, .inl (cI, 4, .inl L)), (aT, .inl (cI, 4, .inl T)), (aU, .inl (cI, 6, .inl U))]) (w1 := []) hP hD [] [0, 1, 2, 3, 4, 5, 6, 7, 8] rfl rfl (by decide) (by decide) hk1 hFc hP1 hD1
  have hP : va_P (dC, dI) vwCl [(kl, .inr (1, [.ref aK, .ref aF, .ref aS, .ref aB, .int (nI n), .ref rk])), (aK, .inl (cI, 60, .inl K)), (aF, .inl (cI, 60, .inl F)), (aS, .inl (cI, 60, .inl S)), (aB, .inl (cZ, 60, .inl B)), (rk, .inr (0, [.ref aL, .ref aT, .ref aU, .int co, .int pl, .int st, .int jo, .int cn, .int ii, .int fi, .int fe])), (aL, .inl (cI, 4, .inl L)), (aT, .inl (cI, 4, .inl T)), (aU, .inl (cI, 6, .inl U))] H_2 := hP
  have hD : va_D A [(kl, .inr (1, [.ref aK, .ref aF, .ref aS, .ref aB, .int (nI n), .ref rk])), (aK, .inl (cI, 60, .inl K)), (aF, .inl (cI, 60, .inl F)), (aS, .inl (cI, 60, .inl S)), (aB, .inl (cZ, 60, .inl B)), (rk, .inr (0, [.ref aL, .ref aT, .ref aU, .int co, .int pl, .int st, .int jo, .int cn, .int ii, .int fi, .int fe])), (aL, .inl (cI, 4, .inl L)), (aT, .inl (cI, 4, .inl T)), (aU, .inl (cI, 6, .inl U))] := hD
  refine lv_aload_n hx hb dX1_behind_15 rfl (lv_at hl 0 rfl) ?_
  refine lv_iload_n hx hb dX1_behind_16 rfl (lv_at hl 1 rfl) ?_
  refine lv_iconst (v := (-1)) hx hb dX1_behind_17 (by decide) ?_
  have hPc := hP.sub (ws' := [(kl, .inr (1, [.ref aK, .ref aF, .ref aS, .ref aB, .int (nI n), .ref rk])), (aK, .inl (cI, 60, .inl K)), (aF, .inl (cI, 60, .inl F)), (aS, .inl (cI, 60, .inl S)), (aB, .inl (cZ, 60, .inl B)), (rk, .inr (0, [.ref aL, .ref aT, .ref aU, .int co, .int pl, .int st, .int jo, .int cn, .int ii, .int fi, .int fe])), (aL, .inl (cI, 4, .inl L)), (aT, .inl (cI, 4, .inl T)), (aU, .inl (cI, 6, .inl U))]) [0, 1, 2, 3, 4, 5, 6, 7, 8] rfl
  have hDc := hD.sub (ws' := [(kl, .inr (1, [.ref aK, .ref aF, .ref aS, .ref aB, .int (nI n), .ref rk])), (aK, .inl (cI, 60, .inl K)), (aF, .inl (cI, 60, .inl F)), (aS, .inl (cI, 60, .inl S)), (aB, .inl (cZ, 60, .inl B)), (rk, .inr (0, [.ref aL, .ref aT, .ref aU, .int co, .int pl, .int st, .int jo, .int cn, .int ii, .int fi, .int fe])), (aL, .inl (cI, 4, .inl L)), (aT, .inl (cI, 4, .inl T)), (aU, .inl (cI, 6, .inl U))]) [0, 1, 2, 3, 4, 5, 6, 7, 8] (by decide) rfl
  have hKc := hK.sub (tys' := [(cI, .int), (cZ, .boolean)]) [0, 1] rfl
  have hFc := va_free (wc := [(kl, .inr (1, [.ref aK, .ref aF, .ref aS, .ref aB, .int (nI n), .ref rk])), (aK, .inl (cI, 60, .inl K)), (aF, .inl (cI, 60, .inl F)), (aS, .inl (cI, 60, .inl S)), (aB, .inl (cZ, 60, .inl B)), (rk, .inr (0, [.ref aL, .ref aT, .ref aU, .int co, .int pl, .int st, .int jo, .int cn, .int ii, .int fi, .int fe])), (aL, .inl (cI, 4, .inl L)), (aT, .inl (cI, 4, .inl T)), (aU, .inl (cI, 6, .inl U))]) hD hS hA [0, 1, 2, 3, 4, 5, 6, 7, 8] rfl
  refine va_callv (va_runV (As := [.int (nI mm), .int (-1)]) (rest := []) ⟨hx, hb, hml, hown, hts⟩ (c_X1_reckon l dC dI cI cZ kl aK aF aS aB rk aL aT aU H_2.size L T K F S B U n co pl st jo cn ii fi fe mm (-1) (hX) (hm)) (cwV 2 hts gX1_behind_X1_reckon rfl rfl rfl (by decide +kernel) ⟨Nat.le_of_ble_eq_true rfl, Nat.le_of_ble_eq_true rfl⟩) (pn_V hN hKc hPc hDc (ci := 1) (C := RX1) (T := TX1) (N := 6) (q0 := 0) rfl rfl) rfl rfl hl.1 rfl (lv_room (Nat.le_of_ble_eq_true rfl)) dX1_behind_18 ⟨Nat.le_of_ble_eq_true rfl, Nat.le_of_ble_eq_true rfl⟩) hS (fun q _ h => hFc q h) hFc (fun u t H_3 locs ht hvm hw hB hz1 hk1 hS => ?_)
  obtain ⟨co1_3, pl1_3, st1_3, jo1_3, cn1_3, ii1_3, fi1_3, fe1_3, U1_3⟩ := u
  try dsimp only at hw hB
  have hw_3 := hw
  obtain ⟨hP1, hD1⟩ := hB
  rw [ht] at hP1
  obtain ⟨hP, hD⟩ := va_join (wr := []) (w1 := [(kl, .inr (1, [.ref aK, .ref aF, .ref aS, .ref aB, .int (nI n), .ref rk])), (aK, .inl (cI, 60, .inl K)), (aF, .inl (cI, 60, .inl F)), (aS, .inl (cI, 60, .inl S)), (aB, .inl (cZ, 60, .inl B)), (rk, .inr (0, [.ref aL, .ref aT, .ref aU, .int co1_3, .int pl1_3, .int st1_3, .int jo1_3, .int cn1_3, .int ii1_3, .int fi1_3, .int fe1_3])), (aL, .inl (cI, 4, .inl L)), (aT, .inl (cI, 4, .inl T)), (aU, .inl (cI, 6, .inl U1_3))]) hP hD [0, 1, 2, 3, 4, 5, 6, 7, 8] [] rfl rfl (by decide) (by decide) hk1 hFc hP1 hD1
  have hP : va_P (dC, dI) vwCl [(kl, .inr (1, [.ref aK, .ref aF, .ref aS, .ref aB, .int (nI n), .ref rk])), (aK, .inl (cI, 60, .inl K)), (aF, .inl (cI, 60, .inl F)), (aS, .inl (cI, 60, .inl S)), (aB, .inl (cZ, 60, .inl B)), (rk, .inr (0, [.ref aL, .ref aT, .ref aU, .int co1_3, .int pl1_3, .int st1_3, .int jo1_3, .int cn1_3, .int ii1_3, .int fi1_3, .int fe1_3])), (aL, .inl (cI, 4, .inl L)), (aT, .inl (cI, 4, .inl T)), (aU, .inl (cI, 6, .inl U1_3))] H_3 := hP
  have hD : va_D A [(kl, .inr (1, [.ref aK, .ref aF, .ref aS, .ref aB, .int (nI n), .ref rk])), (aK, .inl (cI, 60, .inl K)), (aF, .inl (cI, 60, .inl F)), (aS, .inl (cI, 60, .inl S)), (aB, .inl (cZ, 60, .inl B)), (rk, .inr (0, [.ref aL, .ref aT, .ref aU, .int co1_3, .int pl1_3, .int st1_3, .int jo1_3, .int cn1_3, .int ii1_3, .int fi1_3, .int fe1_3])), (aL, .inl (cI, 4, .inl L)), (aT, .inl (cI, 4, .inl T)), (aU, .inl (cI, 6, .inl U1_3))] := hD
  rw [mRec_noFl (by omega)] at hw_3
  refine lv_iload_n hx hb dX1_behind_21 rfl (lv_at hl 2 rfl) ?_
  by_cases k_22_0 : w = 0
  · -- case 0
    refine lv_tableIn (off := 38) (tgt := 60) hx hb dX1_behind_22 (by rw [k_22_0]; decide) (by rw [k_22_0]; decide) (by rw [k_22_0]; rfl) (by decide) ?_
    refine lv_aload_n hx hb dX1_behind_60 rfl (lv_at hl 0 rfl) ?_
    refine va_get (D := (dC, dI)) (ci := 1) (v := .ref rk) (C := RX1) (T := TX1) (N := 6) hx hb hts hinX1 hown hK hP 0 rfl rfl 5 (by decide) k2 (fun _ h9 => h9) rfl dX1_behind_61 ?_
    refine va_getN (D := (dC, dI)) (ci := 0) (v := .int co1_3) (C := RX0) (T := TX0) (N := 11) hx hb hts hinX0 hown hK hP 5 rfl rfl 3 (by decide) (nw_use hN (by decide +kernel) : (Cond.fieldLinkNest RX1 69 "KnifeLedger$Reckoning" "coins" "I" "KnifeLedger").before _ _ = true) (fun _ h9 => h9) rfl dX1_behind_64 ?_
    have hpost : co1_3 = aBehind w (cRec L T K F S B mm) := by
      rw [← ans_of (aBehind_sim w) hX (hm) hw_3]
      simp only [aBehind, if_pos k_22_0]
    have hP9 := hP.sub (ws' := [(kl, .inr (1, [.ref aK, .ref aF, .ref aS, .ref aB, .int (nI n), .ref rk])), (aK, .inl (cI, 60, .inl K)), (aF, .inl (cI, 60, .inl F)), (aS, .inl (cI, 60, .inl S)), (aB, .inl (cZ, 60, .inl B)), (rk, .inr (0, [.ref aL, .ref aT, .ref aU, .int co1_3, .int pl1_3, .int st1_3, .int jo1_3, .int cn1_3, .int ii1_3, .int fi1_3, .int fe1_3])), (aL, .inl (cI, 4, .inl L)), (aT, .inl (cI, 4, .inl T)), (aU, .inl (cI, 6, .inl U1_3))]) [0, 1, 2, 3, 4, 5, 6, 7, 8] rfl
    have hD9 := hD.sub (ws' := [(kl, .inr (1, [.ref aK, .ref aF, .ref aS, .ref aB, .int (nI n), .ref rk])), (aK, .inl (cI, 60, .inl K)), (aF, .inl (cI, 60, .inl F)), (aS, .inl (cI, 60, .inl S)), (aB, .inl (cZ, 60, .inl B)), (rk, .inr (0, [.ref aL, .ref aT, .ref aU, .int co1_3, .int pl1_3, .int st1_3, .int jo1_3, .int cn1_3, .int ii1_3, .int fi1_3, .int fe1_3])), (aL, .inl (cI, 4, .inl L)), (aT, .inl (cI, 4, .inl T)), (aU, .inl (cI, 6, .inl U1_3))]) [0, 1, 2, 3, 4, 5, 6, 7, 8] (by decide) rfl
    exact W.iret (v := co1_3) hx hb hr (fun t ht hW => ⟨⟨co1_3, (co1_3, pl1_3, st1_3, jo1_3, cn1_3, ii1_3, fi1_3, fe1_3, U1_3), rfl, hpost, by rw [ht]; exact hP9, hD9⟩, hS.F ht⟩) hS.2.2 dX1_behind_67
  by_cases k_22_1 : w = 1
  · -- case 1
    refine lv_tableIn (off := 46) (tgt := 68) hx hb dX1_behind_22 (by rw [k_22_1]; decide) (by rw [k_22_1]; decide) (by rw [k_22_1]; rfl) (by decide) ?_
    refine lv_aload_n hx hb dX1_behind_68 rfl (lv_at hl 0 rfl) ?_
    refine va_get (D := (dC, dI)) (ci := 1) (v := .ref rk) (C := RX1) (T := TX1) (N := 6) hx hb hts hinX1 hown hK hP 0 rfl rfl 5 (by decide) k2 (fun _ h9 => h9) rfl dX1_behind_69 ?_
    refine va_getN (D := (dC, dI)) (ci := 0) (v := .int pl1_3) (C := RX0) (T := TX0) (N := 11) hx hb hts hinX0 hown hK hP 5 rfl rfl 4 (by decide) (nw_use hN (by decide +kernel) : (Cond.fieldLinkNest RX1 72 "KnifeLedger$Reckoning" "plasters" "I" "KnifeLedger").before _ _ = true) (fun _ h9 => h9) rfl dX1_behind_72 ?_
    have hpost : pl1_3 = aBehind w (cRec L T K F S B mm) := by
      rw [← ans_of (aBehind_sim w) hX (hm) hw_3]
      simp only [aBehind, if_neg k_22_0, if_pos k_22_1]
    have hP9 := hP.sub (ws' := [(kl, .inr (1, [.ref aK, .ref aF, .ref aS, .ref aB, .int (nI n), .ref rk])), (aK, .inl (cI, 60, .inl K)), (aF, .inl (cI, 60, .inl F)), (aS, .inl (cI, 60, .inl S)), (aB, .inl (cZ, 60, .inl B)), (rk, .inr (0, [.ref aL, .ref aT, .ref aU, .int co1_3, .int pl1_3, .int st1_3, .int jo1_3, .int cn1_3, .int ii1_3, .int fi1_3, .int fe1_3])), (aL, .inl (cI, 4, .inl L)), (aT, .inl (cI, 4, .inl T)), (aU, .inl (cI, 6, .inl U1_3))]) [0, 1, 2, 3, 4, 5, 6, 7, 8] rfl
    have hD9 := hD.sub (ws' := [(kl, .inr (1, [.ref aK, .ref aF, .ref aS, .ref aB, .int (nI n), .ref rk])), (aK, .inl (cI, 60, .inl K)), (aF, .inl (cI, 60, .inl F)), (aS, .inl (cI, 60, .inl S)), (aB, .inl (cZ, 60, .inl B)), (rk, .inr (0, [.ref aL, .ref aT, .ref aU, .int co1_3, .int pl1_3, .int st1_3, .int jo1_3, .int cn1_3, .int ii1_3, .int fi1_3, .int fe1_3])), (aL, .inl (cI, 4, .inl L)), (aT, .inl (cI, 4, .inl T)), (aU, .inl (cI, 6, .inl U1_3))]) [0, 1, 2, 3, 4, 5, 6, 7, 8] (by decide) rfl
    exact W.iret (v := pl1_3) hx hb hr (fun t ht hW => ⟨⟨pl1_3, (co1_3, pl1_3, st1_3, jo1_3, cn1_3, ii1_3, fi1_3, fe1_3, U1_3), rfl, hpost, by rw [ht]; exact hP9, hD9⟩, hS.F ht⟩) hS.2.2 dX1_behind_75
  by_cases k_22_2 : w = 2
  · -- case 2
    refine lv_tableIn (off := 54) (tgt := 76) hx hb dX1_behind_22 (by rw [k_22_2]; decide) (by rw [k_22_2]; decide) (by rw [k_22_2]; rfl) (by decide) ?_
    refine lv_aload_n hx hb dX1_behind_76 rfl (lv_at hl 0 rfl) ?_
    refine va_get (D := (dC, dI)) (ci := 1) (v := .ref rk) (C := RX1) (T := TX1) (N := 6) hx hb hts hinX1 hown hK hP 0 rfl rfl 5 (by decide) k2 (fun _ h9 => h9) rfl dX1_behind_77 ?_
    refine va_getN (D := (dC, dI)) (ci := 0) (v := .int st1_3) (C := RX0) (T := TX0) (N := 11) hx hb hts hinX0 hown hK hP 5 rfl rfl 5 (by decide) (nw_use hN (by decide +kernel) : (Cond.fieldLinkNest RX1 75 "KnifeLedger$Reckoning" "stage" "I" "KnifeLedger").before _ _ = true) (fun _ h9 => h9) rfl dX1_behind_80 ?_
    have hpost : st1_3 = aBehind w (cRec L T K F S B mm) := by
      rw [← ans_of (aBehind_sim w) hX (hm) hw_3]
      simp only [aBehind, if_neg k_22_0, if_neg k_22_1, if_pos k_22_2]
    have hP9 := hP.sub (ws' := [(kl, .inr (1, [.ref aK, .ref aF, .ref aS, .ref aB, .int (nI n), .ref rk])), (aK, .inl (cI, 60, .inl K)), (aF, .inl (cI, 60, .inl F)), (aS, .inl (cI, 60, .inl S)), (aB, .inl (cZ, 60, .inl B)), (rk, .inr (0, [.ref aL, .ref aT, .ref aU, .int co1_3, .int pl1_3, .int st1_3, .int jo1_3, .int cn1_3, .int ii1_3, .int fi1_3, .int fe1_3])), (aL, .inl (cI, 4, .inl L)), (aT, .inl (cI, 4, .inl T)), (aU, .inl (cI, 6, .inl U1_3))]) [0, 1, 2, 3, 4, 5, 6, 7, 8] rfl
    have hD9 := hD.sub (ws' := [(kl, .inr (1, [.ref aK, .ref aF, .ref aS, .ref aB, .int (nI n), .ref rk])), (aK, .inl (cI, 60, .inl K)), (aF, .inl (cI, 60, .inl F)), (aS, .inl (cI, 60, .inl S)), (aB, .inl (cZ, 60, .inl B)), (rk, .inr (0, [.ref aL, .ref aT, .ref aU, .int co1_3, .int pl1_3, .int st1_3, .int jo1_3, .int cn1_3, .int ii1_3, .int fi1_3, .int fe1_3])), (aL, .inl (cI, 4, .inl L)), (aT, .inl (cI, 4, .inl T)), (aU, .inl (cI, 6, .inl U1_3))]) [0, 1, 2, 3, 4, 5, 6, 7, 8] (by decide) rfl
    exact W.iret (v := st1_3) hx hb hr (fun t ht hW => ⟨⟨st1_3, (co1_3, pl1_3, st1_3, jo1_3, cn1_3, ii1_3, fi1_3, fe1_3, U1_3), rfl, hpost, by rw [ht]; exact hP9, hD9⟩, hS.F ht⟩) hS.2.2 dX1_behind_83
  by_cases k_22_3 : w = 3
  · -- case 3
    refine lv_tableIn (off := 62) (tgt := 84) hx hb dX1_behind_22 (by rw [k_22_3]; decide) (by rw [k_22_3]; decide) (by rw [k_22_3]; rfl) (by decide) ?_
    refine lv_aload_n hx hb dX1_behind_84 rfl (lv_at hl 0 rfl) ?_
    refine va_get (D := (dC, dI)) (ci := 1) (v := .ref rk) (C := RX1) (T := TX1) (N := 6) hx hb hts hinX1 hown hK hP 0 rfl rfl 5 (by decide) k2 (fun _ h9 => h9) rfl dX1_behind_85 ?_
    refine va_getN (D := (dC, dI)) (ci := 0) (v := .int jo1_3) (C := RX0) (T := TX0) (N := 11) hx hb hts hinX0 hown hK hP 5 rfl rfl 6 (by decide) (nw_use hN (by decide +kernel) : (Cond.fieldLinkNest RX1 78 "KnifeLedger$Reckoning" "joined" "I" "KnifeLedger").before _ _ = true) (fun _ h9 => h9) rfl dX1_behind_88 ?_
    have hpost : jo1_3 = aBehind w (cRec L T K F S B mm) := by
      rw [← ans_of (aBehind_sim w) hX (hm) hw_3]
      simp only [aBehind, if_neg k_22_0, if_neg k_22_1, if_neg k_22_2, if_pos k_22_3]
    have hP9 := hP.sub (ws' := [(kl, .inr (1, [.ref aK, .ref aF, .ref aS, .ref aB, .int (nI n), .ref rk])), (aK, .inl (cI, 60, .inl K)), (aF, .inl (cI, 60, .inl F)), (aS, .inl (cI, 60, .inl S)), (aB, .inl (cZ, 60, .inl B)), (rk, .inr (0, [.ref aL, .ref aT, .ref aU, .int co1_3, .int pl1_3, .int st1_3, .int jo1_3, .int cn1_3, .int ii1_3, .int fi1_3, .int fe1_3])), (aL, .inl (cI, 4, .inl L)), (aT, .inl (cI, 4, .inl T)), (aU, .inl (cI, 6, .inl U1_3))]) [0, 1, 2, 3, 4, 5, 6, 7, 8] rfl
    have hD9 := hD.sub (ws' := [(kl, .inr (1, [.ref aK, .ref aF, .ref aS, .ref aB, .int (nI n), .ref rk])), (aK, .inl (cI, 60, .inl K)), (aF, .inl (cI, 60, .inl F)), (aS, .inl (cI, 60, .inl S)), (aB, .inl (cZ, 60, .inl B)), (rk, .inr (0, [.ref aL, .ref aT, .ref aU, .int co1_3, .int pl1_3, .int st1_3, .int jo1_3, .int cn1_3, .int ii1_3, .int fi1_3, .int fe1_3])), (aL, .inl (cI, 4, .inl L)), (aT, .inl (cI, 4, .inl T)), (aU, .inl (cI, 6, .inl U1_3))]) [0, 1, 2, 3, 4, 5, 6, 7, 8] (by decide) rfl
    exact W.iret (v := jo1_3) hx hb hr (fun t ht hW => ⟨⟨jo1_3, (co1_3, pl1_3, st1_3, jo1_3, cn1_3, ii1_3, fi1_3, fe1_3, U1_3), rfl, hpost, by rw [ht]; exact hP9, hD9⟩, hS.F ht⟩) hS.2.2 dX1_behind_91
  by_cases k_22_4 : w = 4
  · -- case 4
    refine lv_tableIn (off := 70) (tgt := 92) hx hb dX1_behind_22 (by rw [k_22_4]; decide) (by rw [k_22_4]; decide) (by rw [k_22_4]; rfl) (by decide) ?_
    obtain ⟨-, -, j9, hj9, hj96⟩ := okX_hap hX hm hw_3
    refine lv_aload_n hx hb dX1_behind_92 rfl (lv_at hl 0 rfl) ?_
    refine va_get (D := (dC, dI)) (ci := 1) (v := .ref rk) (C := RX1) (T := TX1) (N := 6) hx hb hts hinX1 hown hK hP 0 rfl rfl 5 (by decide) k2 (fun _ h9 => h9) rfl dX1_behind_93 ?_
    have hPc := hP.sub (ws' := [(rk, .inr (0, [.ref aL, .ref aT, .ref aU, .int co1_3, .int pl1_3, .int st1_3, .int jo1_3, .int cn1_3, .int ii1_3, .int fi1_3, .int fe1_3])), (aL, .inl (cI, 4, .inl L)), (aT, .inl (cI, 4, .inl T)), (aU, .inl (cI, 6, .inl U1_3))]) [5, 6, 7, 8] rfl
    have hDc := hD.sub (ws' := [(rk, .inr (0, [.ref aL, .ref aT, .ref aU, .int co1_3, .int pl1_3, .int st1_3, .int jo1_3, .int cn1_3, .int ii1_3, .int fi1_3, .int fe1_3])), (aL, .inl (cI, 4, .inl L)), (aT, .inl (cI, 4, .inl T)), (aU, .inl (cI, 6, .inl U1_3))]) [5, 6, 7, 8] (by decide) rfl
    have hKc := hK.sub (tys' := [(cI, .int)]) [0] rfl
    have hFc := va_free (wc := [(rk, .inr (0, [.ref aL, .ref aT, .ref aU, .int co1_3, .int pl1_3, .int st1_3, .int jo1_3, .int cn1_3, .int ii1_3, .int fi1_3, .int fe1_3])), (aL, .inl (cI, 4, .inl L)), (aT, .inl (cI, 4, .inl T)), (aU, .inl (cI, 6, .inl U1_3))]) hD hS hA [5, 6, 7, 8] rfl
    refine va_calli (va_runVN (As := []) (rest := []) ⟨hx, hb, hml, hown, hts⟩ (c_X0_trustOfAll l dC dI cI rk aL aT aU H_3.size L T U1_3 co1_3 pl1_3 st1_3 jo1_3 cn1_3 ii1_3 fi1_3 fe1_3 j9 (hj9) (hj96)) ⟨va_cnB (host := "KnifeLedger") 0 hts gX1_behind_X0_trustOfAll_n81 rfl rfl rfl (nw_use0 hN (by decide +kernel)) k4 (by decide +kernel) ⟨Nat.le_of_ble_eq_true rfl, Nat.le_of_ble_eq_true rfl⟩, k5, k6⟩ (pc_V hKc hPc hDc (ci := 0) (C := RX0) (T := TX0) (N := 11) (q0 := 0) rfl rfl) rfl rfl hl.1 rfl (lv_room (Nat.le_of_ble_eq_true rfl)) dX1_behind_96 ⟨Nat.le_of_ble_eq_true rfl, Nat.le_of_ble_eq_true rfl⟩) hS (fun q _ h => hFc q h) hFc (fun r_4 u t H_4 locs ht hvm hw hB hz1 hk1 hS => ?_)
    try dsimp only at hw hB
    have hw_4 := hw
    replace hw_4 := hw_4.symm
    subst hw_4
    obtain ⟨hP1, hD1⟩ := hB
    rw [ht] at hP1
    obtain ⟨hP, hD⟩ := va_join (wr := [(kl, .inr (1, [.ref aK, .ref aF, .ref aS, .ref aB, .int (nI n), .ref rk])), (aK, .inl (cI, 60, .inl K)), (aF, .inl (cI, 60, .inl F)), (aS, .inl (cI, 60, .inl S)), (aB, .inl (cZ, 60, .inl B))]) (w1 := [(rk, .inr (0, [.ref aL, .ref aT, .ref aU, .int co1_3, .int pl1_3, .int st1_3, .int jo1_3, .int cn1_3, .int ii1_3, .int fi1_3, .int fe1_3])), (aL, .inl (cI, 4, .inl L)), (aT, .inl (cI, 4, .inl T)), (aU, .inl (cI, 6, .inl U1_3))]) hP hD [5, 6, 7, 8] [0, 1, 2, 3, 4] rfl rfl (by decide) (by decide) hk1 hFc hP1 hD1
    have hP : va_P (dC, dI) vwCl [(kl, .inr (1, [.ref aK, .ref aF, .ref aS, .ref aB, .int (nI n), .ref rk])), (aK, .inl (cI, 60, .inl K)), (aF, .inl (cI, 60, .inl F)), (aS, .inl (cI, 60, .inl S)), (aB, .inl (cZ, 60, .inl B)), (rk, .inr (0, [.ref aL, .ref aT, .ref aU, .int co1_3, .int pl1_3, .int st1_3, .int jo1_3, .int cn1_3, .int ii1_3, .int fi1_3, .int fe1_3])), (aL, .inl (cI, 4, .inl L)), (aT, .inl (cI, 4, .inl T)), (aU, .inl (cI, 6, .inl U1_3))] H_4 := hP
    have hD : va_D A [(kl, .inr (1, [.ref aK, .ref aF, .ref aS, .ref aB, .int (nI n), .ref rk])), (aK, .inl (cI, 60, .inl K)), (aF, .inl (cI, 60, .inl F)), (aS, .inl (cI, 60, .inl S)), (aB, .inl (cZ, 60, .inl B)), (rk, .inr (0, [.ref aL, .ref aT, .ref aU, .int co1_3, .int pl1_3, .int st1_3, .int jo1_3, .int cn1_3, .int ii1_3, .int fi1_3, .int fe1_3])), (aL, .inl (cI, 4, .inl L)), (aT, .inl (cI, 4, .inl T)), (aU, .inl (cI, 6, .inl U1_3))] := hD
    have hpost : (mSum U1_3 j9) = aBehind w (cRec L T K F S B mm) := by
      rw [← ans_of (aBehind_sim w) hX hm hw_3]
      simp only [aBehind, if_neg k_22_0, if_neg k_22_1, if_neg k_22_2, if_neg k_22_3, if_pos k_22_4]
      rw [hj9, nI_clamp (by omega)]
    have hP9 := hP.sub (ws' := [(kl, .inr (1, [.ref aK, .ref aF, .ref aS, .ref aB, .int (nI n), .ref rk])), (aK, .inl (cI, 60, .inl K)), (aF, .inl (cI, 60, .inl F)), (aS, .inl (cI, 60, .inl S)), (aB, .inl (cZ, 60, .inl B)), (rk, .inr (0, [.ref aL, .ref aT, .ref aU, .int co1_3, .int pl1_3, .int st1_3, .int jo1_3, .int cn1_3, .int ii1_3, .int fi1_3, .int fe1_3])), (aL, .inl (cI, 4, .inl L)), (aT, .inl (cI, 4, .inl T)), (aU, .inl (cI, 6, .inl U1_3))]) [0, 1, 2, 3, 4, 5, 6, 7, 8] rfl
    have hD9 := hD.sub (ws' := [(kl, .inr (1, [.ref aK, .ref aF, .ref aS, .ref aB, .int (nI n), .ref rk])), (aK, .inl (cI, 60, .inl K)), (aF, .inl (cI, 60, .inl F)), (aS, .inl (cI, 60, .inl S)), (aB, .inl (cZ, 60, .inl B)), (rk, .inr (0, [.ref aL, .ref aT, .ref aU, .int co1_3, .int pl1_3, .int st1_3, .int jo1_3, .int cn1_3, .int ii1_3, .int fi1_3, .int fe1_3])), (aL, .inl (cI, 4, .inl L)), (aT, .inl (cI, 4, .inl T)), (aU, .inl (cI, 6, .inl U1_3))]) [0, 1, 2, 3, 4, 5, 6, 7, 8] (by decide) rfl
    exact W.iret (v := mSum U1_3 j9) hx hb hr (fun t ht hW => ⟨⟨(mSum U1_3 j9), (co1_3, pl1_3, st1_3, jo1_3, cn1_3, ii1_3, fi1_3, fe1_3, U1_3), rfl, hpost, by rw [ht]; exact hP9, hD9⟩, hS.F ht⟩) hS.2.2 dX1_behind_99
  by_cases k_22_5 : w = 5
  · -- case 5
    refine lv_tableIn (off := 78) (tgt := 100) hx hb dX1_behind_22 (by rw [k_22_5]; decide) (by rw [k_22_5]; decide) (by rw [k_22_5]; rfl) (by decide) ?_
    refine lv_aload_n hx hb dX1_behind_100 rfl (lv_at hl 0 rfl) ?_
    refine va_get (D := (dC, dI)) (ci := 1) (v := .ref rk) (C := RX1) (T := TX1) (N := 6) hx hb hts hinX1 hown hK hP 0 rfl rfl 5 (by decide) k2 (fun _ h9 => h9) rfl dX1_behind_101 ?_
    refine va_getN (D := (dC, dI)) (ci := 0) (v := .int cn1_3) (C := RX0) (T := TX0) (N := 11) hx hb hts hinX0 hown hK hP 5 rfl rfl 7 (by decide) (nw_use hN (by decide +kernel) : (Cond.fieldLinkNest RX1 85 "KnifeLedger$Reckoning" "counting" "I" "KnifeLedger").before _ _ = true) (fun _ h9 => h9) rfl dX1_behind_104 ?_
    have hpost : cn1_3 = aBehind w (cRec L T K F S B mm) := by
      rw [← ans_of (aBehind_sim w) hX (hm) hw_3]
      simp only [aBehind, if_neg k_22_0, if_neg k_22_1, if_neg k_22_2, if_neg k_22_3, if_neg k_22_4, if_pos k_22_5]
    have hP9 := hP.sub (ws' := [(kl, .inr (1, [.ref aK, .ref aF, .ref aS, .ref aB, .int (nI n), .ref rk])), (aK, .inl (cI, 60, .inl K)), (aF, .inl (cI, 60, .inl F)), (aS, .inl (cI, 60, .inl S)), (aB, .inl (cZ, 60, .inl B)), (rk, .inr (0, [.ref aL, .ref aT, .ref aU, .int co1_3, .int pl1_3, .int st1_3, .int jo1_3, .int cn1_3, .int ii1_3, .int fi1_3, .int fe1_3])), (aL, .inl (cI, 4, .inl L)), (aT, .inl (cI, 4, .inl T)), (aU, .inl (cI, 6, .inl U1_3))]) [0, 1, 2, 3, 4, 5, 6, 7, 8] rfl
    have hD9 := hD.sub (ws' := [(kl, .inr (1, [.ref aK, .ref aF, .ref aS, .ref aB, .int (nI n), .ref rk])), (aK, .inl (cI, 60, .inl K)), (aF, .inl (cI, 60, .inl F)), (aS, .inl (cI, 60, .inl S)), (aB, .inl (cZ, 60, .inl B)), (rk, .inr (0, [.ref aL, .ref aT, .ref aU, .int co1_3, .int pl1_3, .int st1_3, .int jo1_3, .int cn1_3, .int ii1_3, .int fi1_3, .int fe1_3])), (aL, .inl (cI, 4, .inl L)), (aT, .inl (cI, 4, .inl T)), (aU, .inl (cI, 6, .inl U1_3))]) [0, 1, 2, 3, 4, 5, 6, 7, 8] (by decide) rfl
    exact W.iret (v := cn1_3) hx hb hr (fun t ht hW => ⟨⟨cn1_3, (co1_3, pl1_3, st1_3, jo1_3, cn1_3, ii1_3, fi1_3, fe1_3, U1_3), rfl, hpost, by rw [ht]; exact hP9, hD9⟩, hS.F ht⟩) hS.2.2 dX1_behind_107
  refine lv_tableOut (tgt := 108) hx hb dX1_behind_22 (sw_out6 k_22_0 k_22_1 k_22_2 k_22_3 k_22_4 k_22_5) (by decide) ?_
  refine lv_aload_n hx hb dX1_behind_108 rfl (lv_at hl 0 rfl) ?_
  refine va_get (D := (dC, dI)) (ci := 1) (v := .ref rk) (C := RX1) (T := TX1) (N := 6) hx hb hts hinX1 hown hK hP 0 rfl rfl 5 (by decide) k2 (fun _ h9 => h9) rfl dX1_behind_109 ?_
  refine va_getN (D := (dC, dI)) (ci := 0) (v := .int ii1_3) (C := RX0) (T := TX0) (N := 11) hx hb hts hinX0 hown hK hP 5 rfl rfl 8 (by decide) (nw_use hN (by decide +kernel) : (Cond.fieldLinkNest RX1 88 "KnifeLedger$Reckoning" "idle" "I" "KnifeLedger").before _ _ = true) (fun _ h9 => h9) rfl dX1_behind_112 ?_
  have hpost : ii1_3 = aBehind w (cRec L T K F S B mm) := by
    rw [← ans_of (aBehind_sim w) hX (hm) hw_3]
    simp only [aBehind, if_neg k_22_0, if_neg k_22_1, if_neg k_22_2, if_neg k_22_3, if_neg k_22_4, if_neg k_22_5]
  have hP9 := hP.sub (ws' := [(kl, .inr (1, [.ref aK, .ref aF, .ref aS, .ref aB, .int (nI n), .ref rk])), (aK, .inl (cI, 60, .inl K)), (aF, .inl (cI, 60, .inl F)), (aS, .inl (cI, 60, .inl S)), (aB, .inl (cZ, 60, .inl B)), (rk, .inr (0, [.ref aL, .ref aT, .ref aU, .int co1_3, .int pl1_3, .int st1_3, .int jo1_3, .int cn1_3, .int ii1_3, .int fi1_3, .int fe1_3])), (aL, .inl (cI, 4, .inl L)), (aT, .inl (cI, 4, .inl T)), (aU, .inl (cI, 6, .inl U1_3))]) [0, 1, 2, 3, 4, 5, 6, 7, 8] rfl
  have hD9 := hD.sub (ws' := [(kl, .inr (1, [.ref aK, .ref aF, .ref aS, .ref aB, .int (nI n), .ref rk])), (aK, .inl (cI, 60, .inl K)), (aF, .inl (cI, 60, .inl F)), (aS, .inl (cI, 60, .inl S)), (aB, .inl (cZ, 60, .inl B)), (rk, .inr (0, [.ref aL, .ref aT, .ref aU, .int co1_3, .int pl1_3, .int st1_3, .int jo1_3, .int cn1_3, .int ii1_3, .int fi1_3, .int fe1_3])), (aL, .inl (cI, 4, .inl L)), (aT, .inl (cI, 4, .inl T)), (aU, .inl (cI, 6, .inl U1_3))]) [0, 1, 2, 3, 4, 5, 6, 7, 8] (by decide) rfl
  exact W.iret (v := ii1_3) hx hb hr (fun t ht hW => ⟨⟨ii1_3, (co1_3, pl1_3, st1_3, jo1_3, cn1_3, ii1_3, fi1_3, fe1_3, U1_3), rfl, hpost, by rw [ht]; exact hP9, hD9⟩, hS.F ht⟩) hS.2.2 dX1_behind_115

set_option maxHeartbeats 4000000 in
set_option maxRecDepth 100000 in
theorem c_X1_trust (l : Launch) (dC : Nat → ClassId) (dI : Nat → Nat → Nat) (cI cZ : ClassId) (kl aK aF aS aB rk aL aT aU : Nat) (sz : Nat)  (L : N2I) (T : N2I) (K : N2I) (F : N2I) (S : N2I) (B : N2I) (U : N2I) (n : Nat) (co : Int32) (pl : Int32) (st : Int32) (jo : Int32) (cn : Int32) (ii : Int32) (fi : Int32) (fe : Int32) (p9 : Int32) (mm : Nat) (hX : okX K F S B n) (hm : mm ≤ n) (hp : vp_in p9 6) (hp0 : ¬ p9 < 0) (hp6 : p9 < 6) : Met l yX1_trust wsX1_trust ({ frames := 7, cells := 0, slots := 0, locals := 152 } : Room) (va_Pc [.ref kl, .int p9, .int (nI mm)] (pn_  (dC, dI) [(cI, .int), (cZ, .boolean)] [(kl, .inr (1, [.ref aK, .ref aF, .ref aS, .ref aB, .int (nI n), .ref rk])), (aK, .inl (cI, 60, .inl K)), (aF, .inl (cI, 60, .inl F)), (aS, .inl (cI, 60, .inl S)), (aB, .inl (cZ, 60, .inl B)), (rk, .inr (0, [.ref aL, .ref aT, .ref aU, .int co, .int pl, .int st, .int jo, .int cn, .int ii, .int fi, .int fe])), (aL, .inl (cI, 4, .inl L)), (aT, .inl (cI, 4, .inl T)), (aU, .inl (cI, 6, .inl U))] sz)) (va_Qi (fun (r : Int32) (u : Int32 × Int32 × Int32 × Int32 × Int32 × Int32 × Int32 × Int32 × N2I) => r = aTrust p9 (cRec L T K F S B mm)) (fun (u : Int32 × Int32 × Int32 × Int32 × Int32 × Int32 × Int32 × Int32 × N2I) (t : State) => va_P (dC, dI) vwCl [(kl, .inr (1, [.ref aK, .ref aF, .ref aS, .ref aB, .int (nI n), .ref rk])), (aK, .inl (cI, 60, .inl K)), (aF, .inl (cI, 60, .inl F)), (aS, .inl (cI, 60, .inl S)), (aB, .inl (cZ, 60, .inl B)), (rk, .inr (0, [.ref aL, .ref aT, .ref aU, .int u.1, .int u.2.1, .int u.2.2.1, .int u.2.2.2.1, .int u.2.2.2.2.1, .int u.2.2.2.2.2.1, .int u.2.2.2.2.2.2.1, .int u.2.2.2.2.2.2.2.1])), (aL, .inl (cI, 4, .inl L)), (aT, .inl (cI, 4, .inl T)), (aU, .inl (cI, 6, .inl u.2.2.2.2.2.2.2.2))] t.heap ∧ va_D (va_A [(kl, .inr (1, [.ref aK, .ref aF, .ref aS, .ref aB, .int (nI n), .ref rk])), (aK, .inl (cI, 60, .inl K)), (aF, .inl (cI, 60, .inl F)), (aS, .inl (cI, 60, .inl S)), (aB, .inl (cZ, 60, .inl B)), (rk, .inr (0, [.ref aL, .ref aT, .ref aU, .int co, .int pl, .int st, .int jo, .int cn, .int ii, .int fi, .int fe])), (aL, .inl (cI, 4, .inl L)), (aT, .inl (cI, 4, .inl T)), (aU, .inl (cI, 6, .inl U))] sz) [(kl, .inr (1, [.ref aK, .ref aF, .ref aS, .ref aB, .int (nI n), .ref rk])), (aK, .inl (cI, 60, .inl K)), (aF, .inl (cI, 60, .inl F)), (aS, .inl (cI, 60, .inl S)), (aB, .inl (cZ, 60, .inl B)), (rk, .inr (0, [.ref aL, .ref aT, .ref aU, .int u.1, .int u.2.1, .int u.2.2.1, .int u.2.2.2.1, .int u.2.2.2.2.1, .int u.2.2.2.2.2.1, .int u.2.2.2.2.2.2.1, .int u.2.2.2.2.2.2.2.1])), (aL, .inl (cI, 4, .inl L)), (aT, .inl (cI, 4, .inl T)), (aU, .inl (cI, 6, .inl u.2.2.2.2.2.2.2.2))]) (va_A [(kl, .inr (1, [.ref aK, .ref aF, .ref aS, .ref aB, .int (nI n), .ref rk])), (aK, .inl (cI, 60, .inl K)), (aF, .inl (cI, 60, .inl F)), (aS, .inl (cI, 60, .inl S)), (aB, .inl (cZ, 60, .inl B)), (rk, .inr (0, [.ref aL, .ref aT, .ref aU, .int co, .int pl, .int st, .int jo, .int cn, .int ii, .int fi, .int fe])), (aL, .inl (cI, 4, .inl L)), (aT, .inl (cI, 4, .inl T)), (aU, .inl (cI, 6, .inl U))] sz)) 0 0 (va_A [(kl, .inr (1, [.ref aK, .ref aF, .ref aS, .ref aB, .int (nI n), .ref rk])), (aK, .inl (cI, 60, .inl K)), (aF, .inl (cI, 60, .inl F)), (aS, .inl (cI, 60, .inl S)), (aB, .inl (cZ, 60, .inl B)), (rk, .inr (0, [.ref aL, .ref aT, .ref aU, .int co, .int pl, .int st, .int jo, .int cn, .int ii, .int fi, .int fe])), (aL, .inl (cI, 4, .inl L)), (aT, .inl (cI, 4, .inl T)), (aU, .inl (cI, 6, .inl U))] sz) := by
  refine Met.ofW (cc := cX1_trust) (maxL := 3) (ret := (some .int)) (by decide) rfl ?_
  intro p e s m args below meth c s₁ BB hml hv
  obtain ⟨rfl, hsz, hP, hK, hD0, hN⟩ := hv
  have hx := BB.exec
  have hb := BB.bytes
  have hr := BB.returns
  have hts := atoms_spec (ws := wsX1_trust) BB.pre
  have hown : s.vm.findClass RX1 = some m.cls := findClass_of_methodNamed BB.named
  have hlocks := BB.notSynchronized
  subst hsz
  have hD := hD0.self (sz := s.heap.size)
  generalize hAe : va_A [(kl, .inr (1, [.ref aK, .ref aF, .ref aS, .ref aB, .int (nI n), .ref rk])), (aK, .inl (cI, 60, .inl K)), (aF, .inl (cI, 60, .inl F)), (aS, .inl (cI, 60, .inl S)), (aB, .inl (cZ, 60, .inl B)), (rk, .inr (0, [.ref aL, .ref aT, .ref aU, .int co, .int pl, .int st, .int jo, .int cn, .int ii, .int fi, .int fe])), (aL, .inl (cI, 4, .inl L)), (aT, .inl (cI, 4, .inl T)), (aU, .inl (cI, 6, .inl U))] s.heap.size = A at hD ⊢
  have hA : ∀ q : Nat, s.heap.size ≤ q → A q := fun q h => by rw [← hAe]; exact Or.inr h
  have hS : va_S A s.heap s.heap [] := va_S.rf
  have hP : va_P (dC, dI) vwCl [(kl, .inr (1, [.ref aK, .ref aF, .ref aS, .ref aB, .int (nI n), .ref rk])), (aK, .inl (cI, 60, .inl K)), (aF, .inl (cI, 60, .inl F)), (aS, .inl (cI, 60, .inl S)), (aB, .inl (cZ, 60, .inl B)), (rk, .inr (0, [.ref aL, .ref aT, .ref aU, .int co, .int pl, .int st, .int jo, .int cn, .int ii, .int fi, .int fe])), (aL, .inl (cI, 4, .inl L)), (aT, .inl (cI, 4, .inl T)), (aU, .inl (cI, 6, .inl U))] s.heap := hP
  have hl := lv_entry ([.ref kl, .int p9, .int (nI mm)]) (n := 3) (Nat.le_of_ble_eq_true rfl)
  rw [lg_entry_eq]
  generalize (lg_sl ([.ref kl, .int p9, .int (nI mm)]) ++ List.replicate (3 - (lg_sl ([.ref kl, .int p9, .int (nI mm)])).length) Slot.unset).toArray = ls at hl ⊢
  have hl : lv_has ls 3 [(0, .ref kl), (1, .int p9), (2, .int (nI mm))] := hl
  have k0 := hts (.fieldLink RX1 23 "KnifeLedger" "size" "I") (by decide +kernel)
  have hinX1 : ∀ w ∈ wsX10, w ∈ wsX1_trust := by decide +kernel
  have k2 := hts (.fieldLink RX1 30 "KnifeLedger" "reckoning" "LKnifeLedger$Reckoning;") (by decide +kernel)
  have k3 := hts (.initialized RX0) (by decide +kernel)
  have k4 := hts (.instanceMethod yX0_hasJoined) (by decide +kernel)
  have k5 := hts (.selects RX0 yX0_hasJoined yX0_hasJoined) (by decide +kernel)
  have hinX0 : ∀ w ∈ wsX00, w ∈ wsX1_trust := by decide +kernel
  have hn6 : n ≤ 60 := hX.1
  refine lv_iload_n hx hb dX1_trust_0 rfl (lv_at hl 1 rfl) ?_
  refine lv_bipush (v := 6) hx hb dX1_trust_1 (by decide) ?_
  have hPc := hP.sub (ws' := []) [] rfl
  have hDc := hD.sub (ws' := []) [] (by decide) rfl
  have hKc := hK.sub (tys' := []) [] rfl
  have hFc := va_free (wc := []) hD hS hA [] rfl
  refine va_callv (va_runS (As := [.int p9, .int 6]) (rest := []) ⟨hx, hb, hml, hown, hts⟩ (c_X1_needIndex l dC dI s.heap.size p9 6 (hp0) (hp6)) (va_cwS 2 hts gX1_trust_X1_needIndex rfl rfl rfl (by decide +kernel) ⟨Nat.le_of_ble_eq_true rfl, Nat.le_of_ble_eq_true rfl⟩) (pc_S hKc hPc hDc) rfl rfl hl.1 rfl (lv_room (Nat.le_of_ble_eq_true rfl)) dX1_trust_3 ⟨Nat.le_of_ble_eq_true rfl, Nat.le_of_ble_eq_true rfl⟩) hS (fun q _ h => hFc q h) hFc (fun u t H_1 locs ht hvm hw hB hz1 hk1 hS => ?_)
  try dsimp only at hw hB
  have hw_1 := hw
  obtain ⟨hP1, hD1⟩ := hB
  rw [ht] at hP1
  obtain ⟨hP, hD⟩ := va_join (wr := [(kl, .inr (1, [.ref aK, .ref aF, .ref aS, .ref aB, .int (nI n), .ref rk])), (aK, .inl (cI, 60, .inl K)), (aF, .inl (cI, 60, .inl F)), (aS, .inl (cI, 60, .inl S)), (aB, .inl (cZ, 60, .inl B)), (rk, .inr (0, [.ref aL, .ref aT, .ref aU, .int co, .int pl, .int st, .int jo, .int cn, .int ii, .int fi, .int fe])), (aL, .inl (cI, 4, .inl L)), (aT, .inl (cI, 4, .inl T)), (aU, .inl (cI, 6, .inl U))]) (w1 := []) hP hD [] [0, 1, 2, 3, 4, 5, 6, 7, 8] rfl rfl (by decide) (by decide) hk1 hFc hP1 hD1
  have hP : va_P (dC, dI) vwCl [(kl, .inr (1, [.ref aK, .ref aF, .ref aS, .ref aB, .int (nI n), .ref rk])), (aK, .inl (cI, 60, .inl K)), (aF, .inl (cI, 60, .inl F)), (aS, .inl (cI, 60, .inl S)), (aB, .inl (cZ, 60, .inl B)), (rk, .inr (0, [.ref aL, .ref aT, .ref aU, .int co, .int pl, .int st, .int jo, .int cn, .int ii, .int fi, .int fe])), (aL, .inl (cI, 4, .inl L)), (aT, .inl (cI, 4, .inl T)), (aU, .inl (cI, 6, .inl U))] H_1 := hP
  have hD : va_D A [(kl, .inr (1, [.ref aK, .ref aF, .ref aS, .ref aB, .int (nI n), .ref rk])), (aK, .inl (cI, 60, .inl K)), (aF, .inl (cI, 60, .inl F)), (aS, .inl (cI, 60, .inl S)), (aB, .inl (cZ, 60, .inl B)), (rk, .inr (0, [.ref aL, .ref aT, .ref aU, .int co, .int pl, .int st, .int jo, .int cn, .int ii, .int fi, .int fe])), (aL, .inl (cI, 4, .inl L)), (aT, .inl (cI, 4, .inl T)), (aU, .inl (cI, 6, .inl U))] := hD
  refine lv_iload_n hx hb dX1_trust_6 rfl (lv_at hl 2 rfl) ?_
  refine lv_iconst (v := 0) hx hb dX1_trust_7 (by decide) ?_
  refine lv_aload_n hx hb dX1_trust_8 rfl (lv_at hl 0 rfl) ?_
  refine va_get (D := (dC, dI)) (ci := 1) (v := .int (nI n)) (C := RX1) (T := TX1) (N := 6) hx hb hts hinX1 hown hK hP 0 rfl rfl 4 (by decide) k0 (fun _ h9 => h9) rfl dX1_trust_9 ?_
  have hPc := hP.sub (ws' := []) [] rfl
  have hDc := hD.sub (ws' := []) [] (by decide) rfl
  have hKc := hK.sub (tys' := []) [] rfl
  have hFc := va_free (wc := []) hD hS hA [] rfl
  refine va_callv (va_runS (As := [.int (nI mm), .int 0, .int (nI n)]) (rest := []) ⟨hx, hb, hml, hown, hts⟩ (c_X1_needWithin l dC dI H_1.size (nI mm) 0 (nI n) (nI_pos (by omega)) (nI_le hm (by omega))) (va_cwS 3 hts gX1_trust_X1_needWithin rfl rfl rfl (by decide +kernel) ⟨Nat.le_of_ble_eq_true rfl, Nat.le_of_ble_eq_true rfl⟩) (pc_S hKc hPc hDc) rfl rfl hl.1 rfl (lv_room (Nat.le_of_ble_eq_true rfl)) dX1_trust_12 ⟨Nat.le_of_ble_eq_true rfl, Nat.le_of_ble_eq_true rfl⟩) hS (fun q _ h => hFc q h) hFc (fun u t H_2 locs ht hvm hw hB hz1 hk1 hS => ?_)
  try dsimp only at hw hB
  have hw_2 := hw
  obtain ⟨hP1, hD1⟩ := hB
  rw [ht] at hP1
  obtain ⟨hP, hD⟩ := va_join (wr := [(kl, .inr (1, [.ref aK, .ref aF, .ref aS, .ref aB, .int (nI n), .ref rk])), (aK, .inl (cI, 60, .inl K)), (aF, .inl (cI, 60, .inl F)), (aS, .inl (cI, 60, .inl S)), (aB, .inl (cZ, 60, .inl B)), (rk, .inr (0, [.ref aL, .ref aT, .ref aU, .int co, .int pl, .int st, .int jo, .int cn, .int ii, .int fi, .int fe])), (aL, .inl (cI, 4, .inl L)), (aT, .inl (cI, 4, .inl T)), (aU, .inl (cI, 6, .inl U))]) (w1 := []) hP hD [] [0, 1, 2, 3, 4, 5, 6, 7, 8] rfl rfl (by decide) (by decide) hk1 hFc hP1 hD1
  have hP : va_P (dC, dI) vwCl [(kl, .inr (1, [.ref aK, .ref aF, .ref aS, .ref aB, .int (nI n), .ref rk])), (aK, .inl (cI, 60, .inl K)), (aF, .inl (cI, 60, .inl F)), (aS, .inl (cI, 60, .inl S)), (aB, .inl (cZ, 60, .inl B)), (rk, .inr (0, [.ref aL, .ref aT, .ref aU, .int co, .int pl, .int st, .int jo, .int cn, .int ii, .int fi, .int fe])), (aL, .inl (cI, 4, .inl L)), (aT, .inl (cI, 4, .inl T)), (aU, .inl (cI, 6, .inl U))] H_2 := hP
  have hD : va_D A [(kl, .inr (1, [.ref aK, .ref aF, .ref aS, .ref aB, .int (nI n), .ref rk])), (aK, .inl (cI, 60, .inl K)), (aF, .inl (cI, 60, .inl F)), (aS, .inl (cI, 60, .inl S)), (aB, .inl (cZ, 60, .inl B)), (rk, .inr (0, [.ref aL, .ref aT, .ref aU, .int co, .int pl, .int st, .int jo, .int cn, .int ii, .int fi, .int fe])), (aL, .inl (cI, 4, .inl L)), (aT, .inl (cI, 4, .inl T)), (aU, .inl (cI, 6, .inl U))] := hD
  refine lv_aload_n hx hb dX1_trust_15 rfl (lv_at hl 0 rfl) ?_
  refine lv_iload_n hx hb dX1_trust_16 rfl (lv_at hl 2 rfl) ?_
  refine lv_iconst (v := (-1)) hx hb dX1_trust_17 (by decide) ?_
  have hPc := hP.sub (ws' := [(kl, .inr (1, [.ref aK, .ref aF, .ref aS, .ref aB, .int (nI n), .ref rk])), (aK, .inl (cI, 60, .inl K)), (aF, .inl (cI, 60, .inl F)), (aS, .inl (cI, 60, .inl S)), (aB, .inl (cZ, 60, .inl B)), (rk, .inr (0, [.ref aL, .ref aT, .ref aU, .int co, .int pl, .int st, .int jo, .int cn, .int ii, .int fi, .int fe])), (aL, .inl (cI, 4, .inl L)), (aT, .inl (cI, 4, .inl T)), (aU, .inl (cI, 6, .inl U))]) [0, 1, 2, 3, 4, 5, 6, 7, 8] rfl
  have hDc := hD.sub (ws' := [(kl, .inr (1, [.ref aK, .ref aF, .ref aS, .ref aB, .int (nI n), .ref rk])), (aK, .inl (cI, 60, .inl K)), (aF, .inl (cI, 60, .inl F)), (aS, .inl (cI, 60, .inl S)), (aB, .inl (cZ, 60, .inl B)), (rk, .inr (0, [.ref aL, .ref aT, .ref aU, .int co, .int pl, .int st, .int jo, .int cn, .int ii, .int fi, .int fe])), (aL, .inl (cI, 4, .inl L)), (aT, .inl (cI, 4, .inl T)), (aU, .inl (cI, 6, .inl U))]) [0, 1, 2, 3, 4, 5, 6, 7, 8] (by decide) rfl
  have hKc := hK.sub (tys' := [(cI, .int), (cZ, .boolean)]) [0, 1] rfl
  have hFc := va_free (wc := [(kl, .inr (1, [.ref aK, .ref aF, .ref aS, .ref aB, .int (nI n), .ref rk])), (aK, .inl (cI, 60, .inl K)), (aF, .inl (cI, 60, .inl F)), (aS, .inl (cI, 60, .inl S)), (aB, .inl (cZ, 60, .inl B)), (rk, .inr (0, [.ref aL, .ref aT, .ref aU, .int co, .int pl, .int st, .int jo, .int cn, .int ii, .int fi, .int fe])), (aL, .inl (cI, 4, .inl L)), (aT, .inl (cI, 4, .inl T)), (aU, .inl (cI, 6, .inl U))]) hD hS hA [0, 1, 2, 3, 4, 5, 6, 7, 8] rfl
  refine va_callv (va_runV (As := [.int (nI mm), .int (-1)]) (rest := []) ⟨hx, hb, hml, hown, hts⟩ (c_X1_reckon l dC dI cI cZ kl aK aF aS aB rk aL aT aU H_2.size L T K F S B U n co pl st jo cn ii fi fe mm (-1) (hX) (hm)) (cwV 2 hts gX1_trust_X1_reckon rfl rfl rfl (by decide +kernel) ⟨Nat.le_of_ble_eq_true rfl, Nat.le_of_ble_eq_true rfl⟩) (pn_V hN hKc hPc hDc (ci := 1) (C := RX1) (T := TX1) (N := 6) (q0 := 0) rfl rfl) rfl rfl hl.1 rfl (lv_room (Nat.le_of_ble_eq_true rfl)) dX1_trust_18 ⟨Nat.le_of_ble_eq_true rfl, Nat.le_of_ble_eq_true rfl⟩) hS (fun q _ h => hFc q h) hFc (fun u t H_3 locs ht hvm hw hB hz1 hk1 hS => ?_)
  obtain ⟨co1_3, pl1_3, st1_3, jo1_3, cn1_3, ii1_3, fi1_3, fe1_3, U1_3⟩ := u
  try dsimp only at hw hB
  have hw_3 := hw
  obtain ⟨hP1, hD1⟩ := hB
  rw [ht] at hP1
  obtain ⟨hP, hD⟩ := va_join (wr := []) (w1 := [(kl, .inr (1, [.ref aK, .ref aF, .ref aS, .ref aB, .int (nI n), .ref rk])), (aK, .inl (cI, 60, .inl K)), (aF, .inl (cI, 60, .inl F)), (aS, .inl (cI, 60, .inl S)), (aB, .inl (cZ, 60, .inl B)), (rk, .inr (0, [.ref aL, .ref aT, .ref aU, .int co1_3, .int pl1_3, .int st1_3, .int jo1_3, .int cn1_3, .int ii1_3, .int fi1_3, .int fe1_3])), (aL, .inl (cI, 4, .inl L)), (aT, .inl (cI, 4, .inl T)), (aU, .inl (cI, 6, .inl U1_3))]) hP hD [0, 1, 2, 3, 4, 5, 6, 7, 8] [] rfl rfl (by decide) (by decide) hk1 hFc hP1 hD1
  have hP : va_P (dC, dI) vwCl [(kl, .inr (1, [.ref aK, .ref aF, .ref aS, .ref aB, .int (nI n), .ref rk])), (aK, .inl (cI, 60, .inl K)), (aF, .inl (cI, 60, .inl F)), (aS, .inl (cI, 60, .inl S)), (aB, .inl (cZ, 60, .inl B)), (rk, .inr (0, [.ref aL, .ref aT, .ref aU, .int co1_3, .int pl1_3, .int st1_3, .int jo1_3, .int cn1_3, .int ii1_3, .int fi1_3, .int fe1_3])), (aL, .inl (cI, 4, .inl L)), (aT, .inl (cI, 4, .inl T)), (aU, .inl (cI, 6, .inl U1_3))] H_3 := hP
  have hD : va_D A [(kl, .inr (1, [.ref aK, .ref aF, .ref aS, .ref aB, .int (nI n), .ref rk])), (aK, .inl (cI, 60, .inl K)), (aF, .inl (cI, 60, .inl F)), (aS, .inl (cI, 60, .inl S)), (aB, .inl (cZ, 60, .inl B)), (rk, .inr (0, [.ref aL, .ref aT, .ref aU, .int co1_3, .int pl1_3, .int st1_3, .int jo1_3, .int cn1_3, .int ii1_3, .int fi1_3, .int fe1_3])), (aL, .inl (cI, 4, .inl L)), (aT, .inl (cI, 4, .inl T)), (aU, .inl (cI, 6, .inl U1_3))] := hD
  rw [mRec_noFl (by omega)] at hw_3
  refine lv_aload_n hx hb dX1_trust_21 rfl (lv_at hl 0 rfl) ?_
  refine va_get (D := (dC, dI)) (ci := 1) (v := .ref rk) (C := RX1) (T := TX1) (N := 6) hx hb hts hinX1 hown hK hP 0 rfl rfl 5 (by decide) k2 (fun _ h9 => h9) rfl dX1_trust_22 ?_
  refine lv_iload_n hx hb dX1_trust_25 rfl (lv_at hl 1 rfl) ?_
  have hPc := hP.sub (ws' := [(rk, .inr (0, [.ref aL, .ref aT, .ref aU, .int co1_3, .int pl1_3, .int st1_3, .int jo1_3, .int cn1_3, .int ii1_3, .int fi1_3, .int fe1_3])), (aL, .inl (cI, 4, .inl L)), (aT, .inl (cI, 4, .inl T)), (aU, .inl (cI, 6, .inl U1_3))]) [5, 6, 7, 8] rfl
  have hDc := hD.sub (ws' := [(rk, .inr (0, [.ref aL, .ref aT, .ref aU, .int co1_3, .int pl1_3, .int st1_3, .int jo1_3, .int cn1_3, .int ii1_3, .int fi1_3, .int fe1_3])), (aL, .inl (cI, 4, .inl L)), (aT, .inl (cI, 4, .inl T)), (aU, .inl (cI, 6, .inl U1_3))]) [5, 6, 7, 8] (by decide) rfl
  have hKc := hK.sub (tys' := [(cI, .int)]) [0] rfl
  have hFc := va_free (wc := [(rk, .inr (0, [.ref aL, .ref aT, .ref aU, .int co1_3, .int pl1_3, .int st1_3, .int jo1_3, .int cn1_3, .int ii1_3, .int fi1_3, .int fe1_3])), (aL, .inl (cI, 4, .inl L)), (aT, .inl (cI, 4, .inl T)), (aU, .inl (cI, 6, .inl U1_3))]) hD hS hA [5, 6, 7, 8] rfl
  refine va_calli (va_runVN (As := [.int p9]) (rest := []) ⟨hx, hb, hml, hown, hts⟩ (c_X0_hasJoined l dC dI cI rk aL aT aU H_3.size L T U1_3 co1_3 pl1_3 st1_3 jo1_3 cn1_3 ii1_3 fi1_3 fe1_3 p9) ⟨va_cnB (host := "KnifeLedger") 1 hts gX1_trust_X0_hasJoined_n91 rfl rfl rfl (nw_use0 hN (by decide +kernel)) k3 (by decide +kernel) ⟨Nat.le_of_ble_eq_true rfl, Nat.le_of_ble_eq_true rfl⟩, k4, k5⟩ (pc_V hKc hPc hDc (ci := 0) (C := RX0) (T := TX0) (N := 11) (q0 := 0) rfl rfl) rfl rfl hl.1 rfl (lv_room (Nat.le_of_ble_eq_true rfl)) dX1_trust_26 ⟨Nat.le_of_ble_eq_true rfl, Nat.le_of_ble_eq_true rfl⟩) hS (fun q _ h => hFc q h) hFc (fun r_4 u t H_4 locs ht hvm hw hB hz1 hk1 hS => ?_)
  try dsimp only at hw hB
  have hw_4 := hw
  replace hw_4 := hw_4.symm
  subst hw_4
  obtain ⟨hP1, hD1⟩ := hB
  rw [ht] at hP1
  obtain ⟨hP, hD⟩ := va_join (wr := [(kl, .inr (1, [.ref aK, .ref aF, .ref aS, .ref aB, .int (nI n), .ref rk])), (aK, .inl (cI, 60, .inl K)), (aF, .inl (cI, 60, .inl F)), (aS, .inl (cI, 60, .inl S)), (aB, .inl (cZ, 60, .inl B))]) (w1 := [(rk, .inr (0, [.ref aL, .ref aT, .ref aU, .int co1_3, .int pl1_3, .int st1_3, .int jo1_3, .int cn1_3, .int ii1_3, .int fi1_3, .int fe1_3])), (aL, .inl (cI, 4, .inl L)), (aT, .inl (cI, 4, .inl T)), (aU, .inl (cI, 6, .inl U1_3))]) hP hD [5, 6, 7, 8] [0, 1, 2, 3, 4] rfl rfl (by decide) (by decide) hk1 hFc hP1 hD1
  have hP : va_P (dC, dI) vwCl [(kl, .inr (1, [.ref aK, .ref aF, .ref aS, .ref aB, .int (nI n), .ref rk])), (aK, .inl (cI, 60, .inl K)), (aF, .inl (cI, 60, .inl F)), (aS, .inl (cI, 60, .inl S)), (aB, .inl (cZ, 60, .inl B)), (rk, .inr (0, [.ref aL, .ref aT, .ref aU, .int co1_3, .int pl1_3, .int st1_3, .int jo1_3, .int cn1_3, .int ii1_3, .int fi1_3, .int fe1_3])), (aL, .inl (cI, 4, .inl L)), (aT, .inl (cI, 4, .inl T)), (aU, .inl (cI, 6, .inl U1_3))] H_4 := hP
  have hD : va_D A [(kl, .inr (1, [.ref aK, .ref aF, .ref aS, .ref aB, .int (nI n), .ref rk])), (aK, .inl (cI, 60, .inl K)), (aF, .inl (cI, 60, .inl F)), (aS, .inl (cI, 60, .inl S)), (aB, .inl (cZ, 60, .inl B)), (rk, .inr (0, [.ref aL, .ref aT, .ref aU, .int co1_3, .int pl1_3, .int st1_3, .int jo1_3, .int cn1_3, .int ii1_3, .int fi1_3, .int fe1_3])), (aL, .inl (cI, 4, .inl L)), (aT, .inl (cI, 4, .inl T)), (aU, .inl (cI, 6, .inl U1_3))] := hD
  refine lv_if_eq (tgt := 44) hx hb dX1_trust_29 (by decide) (fun c_29 => ?_) (fun c_29 => ?_)
  · -- 29
    refine lv_iconst (v := (-1)) hx hb dX1_trust_44 (by decide) ?_
    have hpost : (-1 : Int32) = aTrust p9 (cRec L T K F S B mm) := by
      rw [← ans_of (aTrust_sim hp) hX (hm) hw_3]
      simp only [aTrust, if_pos c_29]
    have hP9 := hP.sub (ws' := [(kl, .inr (1, [.ref aK, .ref aF, .ref aS, .ref aB, .int (nI n), .ref rk])), (aK, .inl (cI, 60, .inl K)), (aF, .inl (cI, 60, .inl F)), (aS, .inl (cI, 60, .inl S)), (aB, .inl (cZ, 60, .inl B)), (rk, .inr (0, [.ref aL, .ref aT, .ref aU, .int co1_3, .int pl1_3, .int st1_3, .int jo1_3, .int cn1_3, .int ii1_3, .int fi1_3, .int fe1_3])), (aL, .inl (cI, 4, .inl L)), (aT, .inl (cI, 4, .inl T)), (aU, .inl (cI, 6, .inl U1_3))]) [0, 1, 2, 3, 4, 5, 6, 7, 8] rfl
    have hD9 := hD.sub (ws' := [(kl, .inr (1, [.ref aK, .ref aF, .ref aS, .ref aB, .int (nI n), .ref rk])), (aK, .inl (cI, 60, .inl K)), (aF, .inl (cI, 60, .inl F)), (aS, .inl (cI, 60, .inl S)), (aB, .inl (cZ, 60, .inl B)), (rk, .inr (0, [.ref aL, .ref aT, .ref aU, .int co1_3, .int pl1_3, .int st1_3, .int jo1_3, .int cn1_3, .int ii1_3, .int fi1_3, .int fe1_3])), (aL, .inl (cI, 4, .inl L)), (aT, .inl (cI, 4, .inl T)), (aU, .inl (cI, 6, .inl U1_3))]) [0, 1, 2, 3, 4, 5, 6, 7, 8] (by decide) rfl
    exact W.iret (v := (-1)) hx hb hr (fun t ht hW => ⟨⟨(-1), (co1_3, pl1_3, st1_3, jo1_3, cn1_3, ii1_3, fi1_3, fe1_3, U1_3), rfl, hpost, by rw [ht]; exact hP9, hD9⟩, hS.F ht⟩) hS.2.2 dX1_trust_45
  · -- 29
    refine lv_aload_n hx hb dX1_trust_32 rfl (lv_at hl 0 rfl) ?_
    refine va_get (D := (dC, dI)) (ci := 1) (v := .ref rk) (C := RX1) (T := TX1) (N := 6) hx hb hts hinX1 hown hK hP 0 rfl rfl 5 (by decide) k2 (fun _ h9 => h9) rfl dX1_trust_33 ?_
    refine va_getN (D := (dC, dI)) (ci := 0) (v := .ref aU) (C := RX0) (T := TX0) (N := 11) hx hb hts hinX0 hown hK hP 5 rfl rfl 2 (by decide) (nw_use hN (by decide +kernel) : (Cond.fieldLinkNest RX1 94 "KnifeLedger$Reckoning" "trusts" "[I" "KnifeLedger").before _ _ = true) (fun _ h9 => h9) rfl dX1_trust_36 ?_
    refine lv_iload_n hx hb dX1_trust_39 rfl (lv_at hl 1 rfl) ?_
    refine va_iald hx hb hK hP 8 0 rfl rfl (hp) dX1_trust_40 ?_
    refine lv_goto (tgt := 45) hx hb dX1_trust_41 (by decide) ?_
    have hpost : (U1_3 p9.toNatClampNeg) = aTrust p9 (cRec L T K F S B mm) := by
      rw [← ans_of (aTrust_sim hp) hX (hm) hw_3]
      simp only [aTrust, if_neg c_29]
    have hP9 := hP.sub (ws' := [(kl, .inr (1, [.ref aK, .ref aF, .ref aS, .ref aB, .int (nI n), .ref rk])), (aK, .inl (cI, 60, .inl K)), (aF, .inl (cI, 60, .inl F)), (aS, .inl (cI, 60, .inl S)), (aB, .inl (cZ, 60, .inl B)), (rk, .inr (0, [.ref aL, .ref aT, .ref aU, .int co1_3, .int pl1_3, .int st1_3, .int jo1_3, .int cn1_3, .int ii1_3, .int fi1_3, .int fe1_3])), (aL, .inl (cI, 4, .inl L)), (aT, .inl (cI, 4, .inl T)), (aU, .inl (cI, 6, .inl U1_3))]) [0, 1, 2, 3, 4, 5, 6, 7, 8] rfl
    have hD9 := hD.sub (ws' := [(kl, .inr (1, [.ref aK, .ref aF, .ref aS, .ref aB, .int (nI n), .ref rk])), (aK, .inl (cI, 60, .inl K)), (aF, .inl (cI, 60, .inl F)), (aS, .inl (cI, 60, .inl S)), (aB, .inl (cZ, 60, .inl B)), (rk, .inr (0, [.ref aL, .ref aT, .ref aU, .int co1_3, .int pl1_3, .int st1_3, .int jo1_3, .int cn1_3, .int ii1_3, .int fi1_3, .int fe1_3])), (aL, .inl (cI, 4, .inl L)), (aT, .inl (cI, 4, .inl T)), (aU, .inl (cI, 6, .inl U1_3))]) [0, 1, 2, 3, 4, 5, 6, 7, 8] (by decide) rfl
    exact W.iret (v := U1_3 p9.toNatClampNeg) hx hb hr (fun t ht hW => ⟨⟨(U1_3 p9.toNatClampNeg), (co1_3, pl1_3, st1_3, jo1_3, cn1_3, ii1_3, fi1_3, fe1_3, U1_3), rfl, hpost, by rw [ht]; exact hP9, hD9⟩, hS.F ht⟩) hS.2.2 dX1_trust_45

set_option maxHeartbeats 4000000 in
set_option maxRecDepth 100000 in
theorem c_X1_count (l : Launch) (dC : Nat → ClassId) (dI : Nat → Nat → Nat) (cI cZ : ClassId) (kl aK aF aS aB rk aL aT aU : Nat) (sz : Nat)  (L : N2I) (T : N2I) (K : N2I) (F : N2I) (S : N2I) (B : N2I) (U : N2I) (n : Nat) (co : Int32) (pl : Int32) (st : Int32) (jo : Int32) (cn : Int32) (ii : Int32) (fi : Int32) (fe : Int32) (w : Int32) (hX : okX K F S B n) (hw0 : ¬ w < 0) (hw6 : w < 6) : Met l yX1_count wsX1_count ({ frames := 7, cells := 0, slots := 0, locals := 152 } : Room) (va_Pc [.ref kl, .int w] (pn_  (dC, dI) [(cI, .int), (cZ, .boolean)] [(kl, .inr (1, [.ref aK, .ref aF, .ref aS, .ref aB, .int (nI n), .ref rk])), (aK, .inl (cI, 60, .inl K)), (aF, .inl (cI, 60, .inl F)), (aS, .inl (cI, 60, .inl S)), (aB, .inl (cZ, 60, .inl B)), (rk, .inr (0, [.ref aL, .ref aT, .ref aU, .int co, .int pl, .int st, .int jo, .int cn, .int ii, .int fi, .int fe])), (aL, .inl (cI, 4, .inl L)), (aT, .inl (cI, 4, .inl T)), (aU, .inl (cI, 6, .inl U))] sz)) (va_Qi (fun (r : Int32) (u : Int32 × Int32 × Int32 × Int32 × Int32 × Int32 × Int32 × Int32 × N2I) => r = aCount n w (cRec L T K F S B n)) (fun (u : Int32 × Int32 × Int32 × Int32 × Int32 × Int32 × Int32 × Int32 × N2I) (t : State) => va_P (dC, dI) vwCl [(kl, .inr (1, [.ref aK, .ref aF, .ref aS, .ref aB, .int (nI n), .ref rk])), (aK, .inl (cI, 60, .inl K)), (aF, .inl (cI, 60, .inl F)), (aS, .inl (cI, 60, .inl S)), (aB, .inl (cZ, 60, .inl B)), (rk, .inr (0, [.ref aL, .ref aT, .ref aU, .int u.1, .int u.2.1, .int u.2.2.1, .int u.2.2.2.1, .int u.2.2.2.2.1, .int u.2.2.2.2.2.1, .int u.2.2.2.2.2.2.1, .int u.2.2.2.2.2.2.2.1])), (aL, .inl (cI, 4, .inl L)), (aT, .inl (cI, 4, .inl T)), (aU, .inl (cI, 6, .inl u.2.2.2.2.2.2.2.2))] t.heap ∧ va_D (va_A [(kl, .inr (1, [.ref aK, .ref aF, .ref aS, .ref aB, .int (nI n), .ref rk])), (aK, .inl (cI, 60, .inl K)), (aF, .inl (cI, 60, .inl F)), (aS, .inl (cI, 60, .inl S)), (aB, .inl (cZ, 60, .inl B)), (rk, .inr (0, [.ref aL, .ref aT, .ref aU, .int co, .int pl, .int st, .int jo, .int cn, .int ii, .int fi, .int fe])), (aL, .inl (cI, 4, .inl L)), (aT, .inl (cI, 4, .inl T)), (aU, .inl (cI, 6, .inl U))] sz) [(kl, .inr (1, [.ref aK, .ref aF, .ref aS, .ref aB, .int (nI n), .ref rk])), (aK, .inl (cI, 60, .inl K)), (aF, .inl (cI, 60, .inl F)), (aS, .inl (cI, 60, .inl S)), (aB, .inl (cZ, 60, .inl B)), (rk, .inr (0, [.ref aL, .ref aT, .ref aU, .int u.1, .int u.2.1, .int u.2.2.1, .int u.2.2.2.1, .int u.2.2.2.2.1, .int u.2.2.2.2.2.1, .int u.2.2.2.2.2.2.1, .int u.2.2.2.2.2.2.2.1])), (aL, .inl (cI, 4, .inl L)), (aT, .inl (cI, 4, .inl T)), (aU, .inl (cI, 6, .inl u.2.2.2.2.2.2.2.2))]) (va_A [(kl, .inr (1, [.ref aK, .ref aF, .ref aS, .ref aB, .int (nI n), .ref rk])), (aK, .inl (cI, 60, .inl K)), (aF, .inl (cI, 60, .inl F)), (aS, .inl (cI, 60, .inl S)), (aB, .inl (cZ, 60, .inl B)), (rk, .inr (0, [.ref aL, .ref aT, .ref aU, .int co, .int pl, .int st, .int jo, .int cn, .int ii, .int fi, .int fe])), (aL, .inl (cI, 4, .inl L)), (aT, .inl (cI, 4, .inl T)), (aU, .inl (cI, 6, .inl U))] sz)) 0 0 (va_A [(kl, .inr (1, [.ref aK, .ref aF, .ref aS, .ref aB, .int (nI n), .ref rk])), (aK, .inl (cI, 60, .inl K)), (aF, .inl (cI, 60, .inl F)), (aS, .inl (cI, 60, .inl S)), (aB, .inl (cZ, 60, .inl B)), (rk, .inr (0, [.ref aL, .ref aT, .ref aU, .int co, .int pl, .int st, .int jo, .int cn, .int ii, .int fi, .int fe])), (aL, .inl (cI, 4, .inl L)), (aT, .inl (cI, 4, .inl T)), (aU, .inl (cI, 6, .inl U))] sz) := by
  refine Met.ofW (cc := cX1_count) (maxL := 2) (ret := (some .int)) (by decide) rfl ?_
  intro p e s m args below meth c s₁ BB hml hv
  obtain ⟨rfl, hsz, hP, hK, hD0, hN⟩ := hv
  have hx := BB.exec
  have hb := BB.bytes
  have hr := BB.returns
  have hts := atoms_spec (ws := wsX1_count) BB.pre
  have hown : s.vm.findClass RX1 = some m.cls := findClass_of_methodNamed BB.named
  have hlocks := BB.notSynchronized
  subst hsz
  have hD := hD0.self (sz := s.heap.size)
  generalize hAe : va_A [(kl, .inr (1, [.ref aK, .ref aF, .ref aS, .ref aB, .int (nI n), .ref rk])), (aK, .inl (cI, 60, .inl K)), (aF, .inl (cI, 60, .inl F)), (aS, .inl (cI, 60, .inl S)), (aB, .inl (cZ, 60, .inl B)), (rk, .inr (0, [.ref aL, .ref aT, .ref aU, .int co, .int pl, .int st, .int jo, .int cn, .int ii, .int fi, .int fe])), (aL, .inl (cI, 4, .inl L)), (aT, .inl (cI, 4, .inl T)), (aU, .inl (cI, 6, .inl U))] s.heap.size = A at hD ⊢
  have hA : ∀ q : Nat, s.heap.size ≤ q → A q := fun q h => by rw [← hAe]; exact Or.inr h
  have hS : va_S A s.heap s.heap [] := va_S.rf
  have hP : va_P (dC, dI) vwCl [(kl, .inr (1, [.ref aK, .ref aF, .ref aS, .ref aB, .int (nI n), .ref rk])), (aK, .inl (cI, 60, .inl K)), (aF, .inl (cI, 60, .inl F)), (aS, .inl (cI, 60, .inl S)), (aB, .inl (cZ, 60, .inl B)), (rk, .inr (0, [.ref aL, .ref aT, .ref aU, .int co, .int pl, .int st, .int jo, .int cn, .int ii, .int fi, .int fe])), (aL, .inl (cI, 4, .inl L)), (aT, .inl (cI, 4, .inl T)), (aU, .inl (cI, 6, .inl U))] s.heap := hP
  have hl := lv_entry ([.ref kl, .int w]) (n := 2) (Nat.le_of_ble_eq_true rfl)
  rw [lg_entry_eq]
  generalize (lg_sl ([.ref kl, .int w]) ++ List.replicate (2 - (lg_sl ([.ref kl, .int w])).length) Slot.unset).toArray = ls at hl ⊢
  have hl : lv_has ls 2 [(0, .ref kl), (1, .int w)] := hl
  have k0 := hts (.fieldLink RX1 23 "KnifeLedger" "size" "I") (by decide +kernel)
  have hinX1 : ∀ w ∈ wsX10, w ∈ wsX1_count := by decide +kernel
  have k2 := hts (.fieldLink RX1 30 "KnifeLedger" "reckoning" "LKnifeLedger$Reckoning;") (by decide +kernel)
  have hinX0 : ∀ w ∈ wsX00, w ∈ wsX1_count := by decide +kernel
  have hn6 : n ≤ 60 := hX.1
  refine lv_iload_n hx hb dX1_count_0 rfl (lv_at hl 1 rfl) ?_
  refine lv_bipush (v := 6) hx hb dX1_count_1 (by decide) ?_
  have hPc := hP.sub (ws' := []) [] rfl
  have hDc := hD.sub (ws' := []) [] (by decide) rfl
  have hKc := hK.sub (tys' := []) [] rfl
  have hFc := va_free (wc := []) hD hS hA [] rfl
  refine va_callv (va_runS (As := [.int w, .int 6]) (rest := []) ⟨hx, hb, hml, hown, hts⟩ (c_X1_needIndex l dC dI s.heap.size w 6 (hw0) (hw6)) (va_cwS 2 hts gX1_count_X1_needIndex rfl rfl rfl (by decide +kernel) ⟨Nat.le_of_ble_eq_true rfl, Nat.le_of_ble_eq_true rfl⟩) (pc_S hKc hPc hDc) rfl rfl hl.1 rfl (lv_room (Nat.le_of_ble_eq_true rfl)) dX1_count_3 ⟨Nat.le_of_ble_eq_true rfl, Nat.le_of_ble_eq_true rfl⟩) hS (fun q _ h => hFc q h) hFc (fun u t H_1 locs ht hvm hw hB hz1 hk1 hS => ?_)
  try dsimp only at hw hB
  have hw_1 := hw
  obtain ⟨hP1, hD1⟩ := hB
  rw [ht] at hP1
  obtain ⟨hP, hD⟩ := va_join (wr := [(kl, .inr (1, [.ref aK, .ref aF, .ref aS, .ref aB, .int (nI n), .ref rk])), (aK, .inl (cI, 60, .inl K)), (aF, .inl (cI, 60, .inl F)), (aS, .inl (cI, 60, .inl S)), (aB, .inl (cZ, 60, .inl B)), (rk, .inr (0, [.ref aL, .ref aT, .ref aU, .int co, .int pl, .int st, .int jo, .int cn, .int ii, .int fi, .int fe])), (aL, .inl (cI, 4, .inl L)), (aT, .inl (cI, 4, .inl T)), (aU, .inl (cI, 6, .inl U))]) (w1 := []) hP hD [] [0, 1, 2, 3, 4, 5, 6, 7, 8] rfl rfl (by decide) (by decide) hk1 hFc hP1 hD1
  have hP : va_P (dC, dI) vwCl [(kl, .inr (1, [.ref aK, .ref aF, .ref aS, .ref aB, .int (nI n), .ref rk])), (aK, .inl (cI, 60, .inl K)), (aF, .inl (cI, 60, .inl F)), (aS, .inl (cI, 60, .inl S)), (aB, .inl (cZ, 60, .inl B)), (rk, .inr (0, [.ref aL, .ref aT, .ref aU, .int co, .int pl, .int st, .int jo, .int cn, .int ii, .int fi, .int fe])), (aL, .inl (cI, 4, .inl L)), (aT, .inl (cI, 4, .inl T)), (aU, .inl (cI, 6, .inl U))] H_1 := hP
  have hD : va_D A [(kl, .inr (1, [.ref aK, .ref aF, .ref aS, .ref aB, .int (nI n), .ref rk])), (aK, .inl (cI, 60, .inl K)), (aF, .inl (cI, 60, .inl F)), (aS, .inl (cI, 60, .inl S)), (aB, .inl (cZ, 60, .inl B)), (rk, .inr (0, [.ref aL, .ref aT, .ref aU, .int co, .int pl, .int st, .int jo, .int cn, .int ii, .int fi, .int fe])), (aL, .inl (cI, 4, .inl L)), (aT, .inl (cI, 4, .inl T)), (aU, .inl (cI, 6, .inl U))] := hD
  refine lv_aload_n hx hb dX1_count_6 rfl (lv_at hl 0 rfl) ?_
  refine lv_aload_n hx hb dX1_count_7 rfl (lv_at hl 0 rfl) ?_
  refine va_get (D := (dC, dI)) (ci := 1) (v := .int (nI n)) (C := RX1) (T := TX1) (N := 6) hx hb hts hinX1 hown hK hP 0 rfl rfl 4 (by decide) k0 (fun _ h9 => h9) rfl dX1_count_8 ?_
  refine lv_iconst (v := (-1)) hx hb dX1_count_11 (by decide) ?_
  have hPc := hP.sub (ws' := [(kl, .inr (1, [.ref aK, .ref aF, .ref aS, .ref aB, .int (nI n), .ref rk])), (aK, .inl (cI, 60, .inl K)), (aF, .inl (cI, 60, .inl F)), (aS, .inl (cI, 60, .inl S)), (aB, .inl (cZ, 60, .inl B)), (rk, .inr (0, [.ref aL, .ref aT, .ref aU, .int co, .int pl, .int st, .int jo, .int cn, .int ii, .int fi, .int fe])), (aL, .inl (cI, 4, .inl L)), (aT, .inl (cI, 4, .inl T)), (aU, .inl (cI, 6, .inl U))]) [0, 1, 2, 3, 4, 5, 6, 7, 8] rfl
  have hDc := hD.sub (ws' := [(kl, .inr (1, [.ref aK, .ref aF, .ref aS, .ref aB, .int (nI n), .ref rk])), (aK, .inl (cI, 60, .inl K)), (aF, .inl (cI, 60, .inl F)), (aS, .inl (cI, 60, .inl S)), (aB, .inl (cZ, 60, .inl B)), (rk, .inr (0, [.ref aL, .ref aT, .ref aU, .int co, .int pl, .int st, .int jo, .int cn, .int ii, .int fi, .int fe])), (aL, .inl (cI, 4, .inl L)), (aT, .inl (cI, 4, .inl T)), (aU, .inl (cI, 6, .inl U))]) [0, 1, 2, 3, 4, 5, 6, 7, 8] (by decide) rfl
  have hKc := hK.sub (tys' := [(cI, .int), (cZ, .boolean)]) [0, 1] rfl
  have hFc := va_free (wc := [(kl, .inr (1, [.ref aK, .ref aF, .ref aS, .ref aB, .int (nI n), .ref rk])), (aK, .inl (cI, 60, .inl K)), (aF, .inl (cI, 60, .inl F)), (aS, .inl (cI, 60, .inl S)), (aB, .inl (cZ, 60, .inl B)), (rk, .inr (0, [.ref aL, .ref aT, .ref aU, .int co, .int pl, .int st, .int jo, .int cn, .int ii, .int fi, .int fe])), (aL, .inl (cI, 4, .inl L)), (aT, .inl (cI, 4, .inl T)), (aU, .inl (cI, 6, .inl U))]) hD hS hA [0, 1, 2, 3, 4, 5, 6, 7, 8] rfl
  refine va_callv (va_runV (As := [.int (nI n), .int (-1)]) (rest := []) ⟨hx, hb, hml, hown, hts⟩ (c_X1_reckon l dC dI cI cZ kl aK aF aS aB rk aL aT aU H_1.size L T K F S B U n co pl st jo cn ii fi fe n (-1) (hX) (Nat.le_refl n)) (cwV 2 hts gX1_count_X1_reckon rfl rfl rfl (by decide +kernel) ⟨Nat.le_of_ble_eq_true rfl, Nat.le_of_ble_eq_true rfl⟩) (pn_V hN hKc hPc hDc (ci := 1) (C := RX1) (T := TX1) (N := 6) (q0 := 0) rfl rfl) rfl rfl hl.1 rfl (lv_room (Nat.le_of_ble_eq_true rfl)) dX1_count_12 ⟨Nat.le_of_ble_eq_true rfl, Nat.le_of_ble_eq_true rfl⟩) hS (fun q _ h => hFc q h) hFc (fun u t H_2 locs ht hvm hw hB hz1 hk1 hS => ?_)
  obtain ⟨co1_2, pl1_2, st1_2, jo1_2, cn1_2, ii1_2, fi1_2, fe1_2, U1_2⟩ := u
  try dsimp only at hw hB
  have hw_2 := hw
  obtain ⟨hP1, hD1⟩ := hB
  rw [ht] at hP1
  obtain ⟨hP, hD⟩ := va_join (wr := []) (w1 := [(kl, .inr (1, [.ref aK, .ref aF, .ref aS, .ref aB, .int (nI n), .ref rk])), (aK, .inl (cI, 60, .inl K)), (aF, .inl (cI, 60, .inl F)), (aS, .inl (cI, 60, .inl S)), (aB, .inl (cZ, 60, .inl B)), (rk, .inr (0, [.ref aL, .ref aT, .ref aU, .int co1_2, .int pl1_2, .int st1_2, .int jo1_2, .int cn1_2, .int ii1_2, .int fi1_2, .int fe1_2])), (aL, .inl (cI, 4, .inl L)), (aT, .inl (cI, 4, .inl T)), (aU, .inl (cI, 6, .inl U1_2))]) hP hD [0, 1, 2, 3, 4, 5, 6, 7, 8] [] rfl rfl (by decide) (by decide) hk1 hFc hP1 hD1
  have hP : va_P (dC, dI) vwCl [(kl, .inr (1, [.ref aK, .ref aF, .ref aS, .ref aB, .int (nI n), .ref rk])), (aK, .inl (cI, 60, .inl K)), (aF, .inl (cI, 60, .inl F)), (aS, .inl (cI, 60, .inl S)), (aB, .inl (cZ, 60, .inl B)), (rk, .inr (0, [.ref aL, .ref aT, .ref aU, .int co1_2, .int pl1_2, .int st1_2, .int jo1_2, .int cn1_2, .int ii1_2, .int fi1_2, .int fe1_2])), (aL, .inl (cI, 4, .inl L)), (aT, .inl (cI, 4, .inl T)), (aU, .inl (cI, 6, .inl U1_2))] H_2 := hP
  have hD : va_D A [(kl, .inr (1, [.ref aK, .ref aF, .ref aS, .ref aB, .int (nI n), .ref rk])), (aK, .inl (cI, 60, .inl K)), (aF, .inl (cI, 60, .inl F)), (aS, .inl (cI, 60, .inl S)), (aB, .inl (cZ, 60, .inl B)), (rk, .inr (0, [.ref aL, .ref aT, .ref aU, .int co1_2, .int pl1_2, .int st1_2, .int jo1_2, .int cn1_2, .int ii1_2, .int fi1_2, .int fe1_2])), (aL, .inl (cI, 4, .inl L)), (aT, .inl (cI, 4, .inl T)), (aU, .inl (cI, 6, .inl U1_2))] := hD
  rw [mRec_noFl (by omega)] at hw_2
  refine lv_iload_n hx hb dX1_count_15 rfl (lv_at hl 1 rfl) ?_
  by_cases k_16_0 : w = 0
  · -- case 0
    refine lv_tableIn (off := 36) (tgt := 52) hx hb dX1_count_16 (by rw [k_16_0]; decide) (by rw [k_16_0]; decide) (by rw [k_16_0]; rfl) (by decide) ?_
    refine lv_aload_n hx hb dX1_count_52 rfl (lv_at hl 0 rfl) ?_
    refine va_get (D := (dC, dI)) (ci := 1) (v := .int (nI n)) (C := RX1) (T := TX1) (N := 6) hx hb hts hinX1 hown hK hP 0 rfl rfl 4 (by decide) k0 (fun _ h9 => h9) rfl dX1_count_53 ?_
    have hpost : (nI n) = aCount n w (cRec L T K F S B n) := by
      rw [← ans_of (aCount_sim n w) hX (Nat.le_refl n) hw_2]
      simp only [aCount, if_pos k_16_0]
    have hP9 := hP.sub (ws' := [(kl, .inr (1, [.ref aK, .ref aF, .ref aS, .ref aB, .int (nI n), .ref rk])), (aK, .inl (cI, 60, .inl K)), (aF, .inl (cI, 60, .inl F)), (aS, .inl (cI, 60, .inl S)), (aB, .inl (cZ, 60, .inl B)), (rk, .inr (0, [.ref aL, .ref aT, .ref aU, .int co1_2, .int pl1_2, .int st1_2, .int jo1_2, .int cn1_2, .int ii1_2, .int fi1_2, .int fe1_2])), (aL, .inl (cI, 4, .inl L)), (aT, .inl (cI, 4, .inl T)), (aU, .inl (cI, 6, .inl U1_2))]) [0, 1, 2, 3, 4, 5, 6, 7, 8] rfl
    have hD9 := hD.sub (ws' := [(kl, .inr (1, [.ref aK, .ref aF, .ref aS, .ref aB, .int (nI n), .ref rk])), (aK, .inl (cI, 60, .inl K)), (aF, .inl (cI, 60, .inl F)), (aS, .inl (cI, 60, .inl S)), (aB, .inl (cZ, 60, .inl B)), (rk, .inr (0, [.ref aL, .ref aT, .ref aU, .int co1_2, .int pl1_2, .int st1_2, .int jo1_2, .int cn1_2, .int ii1_2, .int fi1_2, .int fe1_2])), (aL, .inl (cI, 4, .inl L)), (aT, .inl (cI, 4, .inl T)), (aU, .inl (cI, 6, .inl U1_2))]) [0, 1, 2, 3, 4, 5, 6, 7, 8] (by decide) rfl
    exact W.iret (v := nI n) hx hb hr (fun t ht hW => ⟨⟨(nI n), (co1_2, pl1_2, st1_2, jo1_2, cn1_2, ii1_2, fi1_2, fe1_2, U1_2), rfl, hpost, by rw [ht]; exact hP9, hD9⟩, hS.F ht⟩) hS.2.2 dX1_count_56
  by_cases k_16_1 : w = 1
  · -- case 1
    refine lv_tableIn (off := 41) (tgt := 57) hx hb dX1_count_16 (by rw [k_16_1]; decide) (by rw [k_16_1]; decide) (by rw [k_16_1]; rfl) (by decide) ?_
    refine lv_aload_n hx hb dX1_count_57 rfl (lv_at hl 0 rfl) ?_
    refine va_get (D := (dC, dI)) (ci := 1) (v := .int (nI n)) (C := RX1) (T := TX1) (N := 6) hx hb hts hinX1 hown hK hP 0 rfl rfl 4 (by decide) k0 (fun _ h9 => h9) rfl dX1_count_58 ?_
    refine lv_aload_n hx hb dX1_count_61 rfl (lv_at hl 0 rfl) ?_
    refine va_get (D := (dC, dI)) (ci := 1) (v := .ref rk) (C := RX1) (T := TX1) (N := 6) hx hb hts hinX1 hown hK hP 0 rfl rfl 5 (by decide) k2 (fun _ h9 => h9) rfl dX1_count_62 ?_
    refine va_getN (D := (dC, dI)) (ci := 0) (v := .int cn1_2) (C := RX0) (T := TX0) (N := 11) hx hb hts hinX0 hown hK hP 5 rfl rfl 7 (by decide) (nw_use hN (by decide +kernel) : (Cond.fieldLinkNest RX1 85 "KnifeLedger$Reckoning" "counting" "I" "KnifeLedger").before _ _ = true) (fun _ h9 => h9) rfl dX1_count_65 ?_
    refine lv_isub hx hb dX1_count_68 ?_
    refine lv_aload_n hx hb dX1_count_69 rfl (lv_at hl 0 rfl) ?_
    refine va_get (D := (dC, dI)) (ci := 1) (v := .ref rk) (C := RX1) (T := TX1) (N := 6) hx hb hts hinX1 hown hK hP 0 rfl rfl 5 (by decide) k2 (fun _ h9 => h9) rfl dX1_count_70 ?_
    refine va_getN (D := (dC, dI)) (ci := 0) (v := .int ii1_2) (C := RX0) (T := TX0) (N := 11) hx hb hts hinX0 hown hK hP 5 rfl rfl 8 (by decide) (nw_use hN (by decide +kernel) : (Cond.fieldLinkNest RX1 88 "KnifeLedger$Reckoning" "idle" "I" "KnifeLedger").before _ _ = true) (fun _ h9 => h9) rfl dX1_count_73 ?_
    refine lv_isub hx hb dX1_count_76 ?_
    have hpost : (((nI n) - cn1_2) - ii1_2) = aCount n w (cRec L T K F S B n) := by
      rw [← ans_of (aCount_sim n w) hX (Nat.le_refl n) hw_2]
      simp only [aCount, if_neg k_16_0, if_pos k_16_1]
    have hP9 := hP.sub (ws' := [(kl, .inr (1, [.ref aK, .ref aF, .ref aS, .ref aB, .int (nI n), .ref rk])), (aK, .inl (cI, 60, .inl K)), (aF, .inl (cI, 60, .inl F)), (aS, .inl (cI, 60, .inl S)), (aB, .inl (cZ, 60, .inl B)), (rk, .inr (0, [.ref aL, .ref aT, .ref aU, .int co1_2, .int pl1_2, .int st1_2, .int jo1_2, .int cn1_2, .int ii1_2, .int fi1_2, .int fe1_2])), (aL, .inl (cI, 4, .inl L)), (aT, .inl (cI, 4, .inl T)), (aU, .inl (cI, 6, .inl U1_2))]) [0, 1, 2, 3, 4, 5, 6, 7, 8] rfl
    have hD9 := hD.sub (ws' := [(kl, .inr (1, [.ref aK, .ref aF, .ref aS, .ref aB, .int (nI n), .ref rk])), (aK, .inl (cI, 60, .inl K)), (aF, .inl (cI, 60, .inl F)), (aS, .inl (cI, 60, .inl S)), (aB, .inl (cZ, 60, .inl B)), (rk, .inr (0, [.ref aL, .ref aT, .ref aU, .int co1_2, .int pl1_2, .int st1_2, .int jo1_2, .int cn1_2, .int ii1_2, .int fi1_2, .int fe1_2])), (aL, .inl (cI, 4, .inl L)), (aT, .inl (cI, 4, .inl T)), (aU, .inl (cI, 6, .inl U1_2))]) [0, 1, 2, 3, 4, 5, 6, 7, 8] (by decide) rfl
    exact W.iret (v := ((nI n) - cn1_2) - ii1_2) hx hb hr (fun t ht hW => ⟨⟨(((nI n) - cn1_2) - ii1_2), (co1_2, pl1_2, st1_2, jo1_2, cn1_2, ii1_2, fi1_2, fe1_2, U1_2), rfl, hpost, by rw [ht]; exact hP9, hD9⟩, hS.F ht⟩) hS.2.2 dX1_count_77
  by_cases k_16_2 : w = 2
  · -- case 2
    refine lv_tableIn (off := 62) (tgt := 78) hx hb dX1_count_16 (by rw [k_16_2]; decide) (by rw [k_16_2]; decide) (by rw [k_16_2]; rfl) (by decide) ?_
    refine lv_aload_n hx hb dX1_count_78 rfl (lv_at hl 0 rfl) ?_
    refine va_get (D := (dC, dI)) (ci := 1) (v := .ref rk) (C := RX1) (T := TX1) (N := 6) hx hb hts hinX1 hown hK hP 0 rfl rfl 5 (by decide) k2 (fun _ h9 => h9) rfl dX1_count_79 ?_
    refine va_getN (D := (dC, dI)) (ci := 0) (v := .int cn1_2) (C := RX0) (T := TX0) (N := 11) hx hb hts hinX0 hown hK hP 5 rfl rfl 7 (by decide) (nw_use hN (by decide +kernel) : (Cond.fieldLinkNest RX1 85 "KnifeLedger$Reckoning" "counting" "I" "KnifeLedger").before _ _ = true) (fun _ h9 => h9) rfl dX1_count_82 ?_
    have hpost : cn1_2 = aCount n w (cRec L T K F S B n) := by
      rw [← ans_of (aCount_sim n w) hX (Nat.le_refl n) hw_2]
      simp only [aCount, if_neg k_16_0, if_neg k_16_1, if_pos k_16_2]
    have hP9 := hP.sub (ws' := [(kl, .inr (1, [.ref aK, .ref aF, .ref aS, .ref aB, .int (nI n), .ref rk])), (aK, .inl (cI, 60, .inl K)), (aF, .inl (cI, 60, .inl F)), (aS, .inl (cI, 60, .inl S)), (aB, .inl (cZ, 60, .inl B)), (rk, .inr (0, [.ref aL, .ref aT, .ref aU, .int co1_2, .int pl1_2, .int st1_2, .int jo1_2, .int cn1_2, .int ii1_2, .int fi1_2, .int fe1_2])), (aL, .inl (cI, 4, .inl L)), (aT, .inl (cI, 4, .inl T)), (aU, .inl (cI, 6, .inl U1_2))]) [0, 1, 2, 3, 4, 5, 6, 7, 8] rfl
    have hD9 := hD.sub (ws' := [(kl, .inr (1, [.ref aK, .ref aF, .ref aS, .ref aB, .int (nI n), .ref rk])), (aK, .inl (cI, 60, .inl K)), (aF, .inl (cI, 60, .inl F)), (aS, .inl (cI, 60, .inl S)), (aB, .inl (cZ, 60, .inl B)), (rk, .inr (0, [.ref aL, .ref aT, .ref aU, .int co1_2, .int pl1_2, .int st1_2, .int jo1_2, .int cn1_2, .int ii1_2, .int fi1_2, .int fe1_2])), (aL, .inl (cI, 4, .inl L)), (aT, .inl (cI, 4, .inl T)), (aU, .inl (cI, 6, .inl U1_2))]) [0, 1, 2, 3, 4, 5, 6, 7, 8] (by decide) rfl
    exact W.iret (v := cn1_2) hx hb hr (fun t ht hW => ⟨⟨cn1_2, (co1_2, pl1_2, st1_2, jo1_2, cn1_2, ii1_2, fi1_2, fe1_2, U1_2), rfl, hpost, by rw [ht]; exact hP9, hD9⟩, hS.F ht⟩) hS.2.2 dX1_count_85
  by_cases k_16_3 : w = 3
  · -- case 3
    refine lv_tableIn (off := 70) (tgt := 86) hx hb dX1_count_16 (by rw [k_16_3]; decide) (by rw [k_16_3]; decide) (by rw [k_16_3]; rfl) (by decide) ?_
    refine lv_aload_n hx hb dX1_count_86 rfl (lv_at hl 0 rfl) ?_
    refine va_get (D := (dC, dI)) (ci := 1) (v := .ref rk) (C := RX1) (T := TX1) (N := 6) hx hb hts hinX1 hown hK hP 0 rfl rfl 5 (by decide) k2 (fun _ h9 => h9) rfl dX1_count_87 ?_
    refine va_getN (D := (dC, dI)) (ci := 0) (v := .int co1_2) (C := RX0) (T := TX0) (N := 11) hx hb hts hinX0 hown hK hP 5 rfl rfl 3 (by decide) (nw_use hN (by decide +kernel) : (Cond.fieldLinkNest RX1 69 "KnifeLedger$Reckoning" "coins" "I" "KnifeLedger").before _ _ = true) (fun _ h9 => h9) rfl dX1_count_90 ?_
    have hpost : co1_2 = aCount n w (cRec L T K F S B n) := by
      rw [← ans_of (aCount_sim n w) hX (Nat.le_refl n) hw_2]
      simp only [aCount, if_neg k_16_0, if_neg k_16_1, if_neg k_16_2, if_pos k_16_3]
    have hP9 := hP.sub (ws' := [(kl, .inr (1, [.ref aK, .ref aF, .ref aS, .ref aB, .int (nI n), .ref rk])), (aK, .inl (cI, 60, .inl K)), (aF, .inl (cI, 60, .inl F)), (aS, .inl (cI, 60, .inl S)), (aB, .inl (cZ, 60, .inl B)), (rk, .inr (0, [.ref aL, .ref aT, .ref aU, .int co1_2, .int pl1_2, .int st1_2, .int jo1_2, .int cn1_2, .int ii1_2, .int fi1_2, .int fe1_2])), (aL, .inl (cI, 4, .inl L)), (aT, .inl (cI, 4, .inl T)), (aU, .inl (cI, 6, .inl U1_2))]) [0, 1, 2, 3, 4, 5, 6, 7, 8] rfl
    have hD9 := hD.sub (ws' := [(kl, .inr (1, [.ref aK, .ref aF, .ref aS, .ref aB, .int (nI n), .ref rk])), (aK, .inl (cI, 60, .inl K)), (aF, .inl (cI, 60, .inl F)), (aS, .inl (cI, 60, .inl S)), (aB, .inl (cZ, 60, .inl B)), (rk, .inr (0, [.ref aL, .ref aT, .ref aU, .int co1_2, .int pl1_2, .int st1_2, .int jo1_2, .int cn1_2, .int ii1_2, .int fi1_2, .int fe1_2])), (aL, .inl (cI, 4, .inl L)), (aT, .inl (cI, 4, .inl T)), (aU, .inl (cI, 6, .inl U1_2))]) [0, 1, 2, 3, 4, 5, 6, 7, 8] (by decide) rfl
    exact W.iret (v := co1_2) hx hb hr (fun t ht hW => ⟨⟨co1_2, (co1_2, pl1_2, st1_2, jo1_2, cn1_2, ii1_2, fi1_2, fe1_2, U1_2), rfl, hpost, by rw [ht]; exact hP9, hD9⟩, hS.F ht⟩) hS.2.2 dX1_count_93
  by_cases k_16_4 : w = 4
  · -- case 4
    refine lv_tableIn (off := 78) (tgt := 94) hx hb dX1_count_16 (by rw [k_16_4]; decide) (by rw [k_16_4]; decide) (by rw [k_16_4]; rfl) (by decide) ?_
    refine lv_aload_n hx hb dX1_count_94 rfl (lv_at hl 0 rfl) ?_
    refine va_get (D := (dC, dI)) (ci := 1) (v := .ref rk) (C := RX1) (T := TX1) (N := 6) hx hb hts hinX1 hown hK hP 0 rfl rfl 5 (by decide) k2 (fun _ h9 => h9) rfl dX1_count_95 ?_
    refine va_getN (D := (dC, dI)) (ci := 0) (v := .int fi1_2) (C := RX0) (T := TX0) (N := 11) hx hb hts hinX0 hown hK hP 5 rfl rfl 9 (by decide) (nw_use hN (by decide +kernel) : (Cond.fieldLinkNest RX1 97 "KnifeLedger$Reckoning" "firstIdle" "I" "KnifeLedger").before _ _ = true) (fun _ h9 => h9) rfl dX1_count_98 ?_
    have hpost : fi1_2 = aCount n w (cRec L T K F S B n) := by
      rw [← ans_of (aCount_sim n w) hX (Nat.le_refl n) hw_2]
      simp only [aCount, if_neg k_16_0, if_neg k_16_1, if_neg k_16_2, if_neg k_16_3, if_pos k_16_4]
    have hP9 := hP.sub (ws' := [(kl, .inr (1, [.ref aK, .ref aF, .ref aS, .ref aB, .int (nI n), .ref rk])), (aK, .inl (cI, 60, .inl K)), (aF, .inl (cI, 60, .inl F)), (aS, .inl (cI, 60, .inl S)), (aB, .inl (cZ, 60, .inl B)), (rk, .inr (0, [.ref aL, .ref aT, .ref aU, .int co1_2, .int pl1_2, .int st1_2, .int jo1_2, .int cn1_2, .int ii1_2, .int fi1_2, .int fe1_2])), (aL, .inl (cI, 4, .inl L)), (aT, .inl (cI, 4, .inl T)), (aU, .inl (cI, 6, .inl U1_2))]) [0, 1, 2, 3, 4, 5, 6, 7, 8] rfl
    have hD9 := hD.sub (ws' := [(kl, .inr (1, [.ref aK, .ref aF, .ref aS, .ref aB, .int (nI n), .ref rk])), (aK, .inl (cI, 60, .inl K)), (aF, .inl (cI, 60, .inl F)), (aS, .inl (cI, 60, .inl S)), (aB, .inl (cZ, 60, .inl B)), (rk, .inr (0, [.ref aL, .ref aT, .ref aU, .int co1_2, .int pl1_2, .int st1_2, .int jo1_2, .int cn1_2, .int ii1_2, .int fi1_2, .int fe1_2])), (aL, .inl (cI, 4, .inl L)), (aT, .inl (cI, 4, .inl T)), (aU, .inl (cI, 6, .inl U1_2))]) [0, 1, 2, 3, 4, 5, 6, 7, 8] (by decide) rfl
    exact W.iret (v := fi1_2) hx hb hr (fun t ht hW => ⟨⟨fi1_2, (co1_2, pl1_2, st1_2, jo1_2, cn1_2, ii1_2, fi1_2, fe1_2, U1_2), rfl, hpost, by rw [ht]; exact hP9, hD9⟩, hS.F ht⟩) hS.2.2 dX1_count_101
  refine lv_tableOut (tgt := 102) hx hb dX1_count_16 (sw_out5 k_16_0 k_16_1 k_16_2 k_16_3 k_16_4) (by decide) ?_
  refine lv_aload_n hx hb dX1_count_102 rfl (lv_at hl 0 rfl) ?_
  refine va_get (D := (dC, dI)) (ci := 1) (v := .ref rk) (C := RX1) (T := TX1) (N := 6) hx hb hts hinX1 hown hK hP 0 rfl rfl 5 (by decide) k2 (fun _ h9 => h9) rfl dX1_count_103 ?_
  refine va_getN (D := (dC, dI)) (ci := 0) (v := .int fe1_2) (C := RX0) (T := TX0) (N := 11) hx hb hts hinX0 hown hK hP 5 rfl rfl 10 (by decide) (nw_use hN (by decide +kernel) : (Cond.fieldLinkNest RX1 100 "KnifeLedger$Reckoning" "fewestCoins" "I" "KnifeLedger").before _ _ = true) (fun _ h9 => h9) rfl dX1_count_106 ?_
  have hpost : fe1_2 = aCount n w (cRec L T K F S B n) := by
    rw [← ans_of (aCount_sim n w) hX (Nat.le_refl n) hw_2]
    simp only [aCount, if_neg k_16_0, if_neg k_16_1, if_neg k_16_2, if_neg k_16_3, if_neg k_16_4]
  have hP9 := hP.sub (ws' := [(kl, .inr (1, [.ref aK, .ref aF, .ref aS, .ref aB, .int (nI n), .ref rk])), (aK, .inl (cI, 60, .inl K)), (aF, .inl (cI, 60, .inl F)), (aS, .inl (cI, 60, .inl S)), (aB, .inl (cZ, 60, .inl B)), (rk, .inr (0, [.ref aL, .ref aT, .ref aU, .int co1_2, .int pl1_2, .int st1_2, .int jo1_2, .int cn1_2, .int ii1_2, .int fi1_2, .int fe1_2])), (aL, .inl (cI, 4, .inl L)), (aT, .inl (cI, 4, .inl T)), (aU, .inl (cI, 6, .inl U1_2))]) [0, 1, 2, 3, 4, 5, 6, 7, 8] rfl
  have hD9 := hD.sub (ws' := [(kl, .inr (1, [.ref aK, .ref aF, .ref aS, .ref aB, .int (nI n), .ref rk])), (aK, .inl (cI, 60, .inl K)), (aF, .inl (cI, 60, .inl F)), (aS, .inl (cI, 60, .inl S)), (aB, .inl (cZ, 60, .inl B)), (rk, .inr (0, [.ref aL, .ref aT, .ref aU, .int co1_2, .int pl1_2, .int st1_2, .int jo1_2, .int cn1_2, .int ii1_2, .int fi1_2, .int fe1_2])), (aL, .inl (cI, 4, .inl L)), (aT, .inl (cI, 4, .inl T)), (aU, .inl (cI, 6, .inl U1_2))]) [0, 1, 2, 3, 4, 5, 6, 7, 8] (by decide) rfl
  exact W.iret (v := fe1_2) hx hb hr (fun t ht hW => ⟨⟨fe1_2, (co1_2, pl1_2, st1_2, jo1_2, cn1_2, ii1_2, fi1_2, fe1_2, U1_2), rfl, hpost, by rw [ht]; exact hP9, hD9⟩, hS.F ht⟩) hS.2.2 dX1_count_109

set_option maxHeartbeats 4000000 in
set_option maxRecDepth 100000 in
theorem c_X1_worth (l : Launch) (dC : Nat → ClassId) (dI : Nat → Nat → Nat) (cI cZ : ClassId) (kl aK aF aS aB rk aL aT aU : Nat) (sz : Nat)  (L : N2I) (T : N2I) (K : N2I) (F : N2I) (S : N2I) (B : N2I) (U : N2I) (n : Nat) (co : Int32) (pl : Int32) (st : Int32) (jo : Int32) (cn : Int32) (ii : Int32) (fi : Int32) (fe : Int32) (i : Nat) (hX : okX K F S B n) (hi : i < n) : Met l yX1_worth wsX1_worth ({ frames := 8, cells := 0, slots := 0, locals := 173 } : Room) (va_Pc [.ref kl, .int (nI i)] (pn_  (dC, dI) [(cI, .int), (cZ, .boolean)] [(kl, .inr (1, [.ref aK, .ref aF, .ref aS, .ref aB, .int (nI n), .ref rk])), (aK, .inl (cI, 60, .inl K)), (aF, .inl (cI, 60, .inl F)), (aS, .inl (cI, 60, .inl S)), (aB, .inl (cZ, 60, .inl B)), (rk, .inr (0, [.ref aL, .ref aT, .ref aU, .int co, .int pl, .int st, .int jo, .int cn, .int ii, .int fi, .int fe])), (aL, .inl (cI, 4, .inl L)), (aT, .inl (cI, 4, .inl T)), (aU, .inl (cI, 6, .inl U))] sz)) (va_Qi (fun (r : Int32) (u : Int32 × Int32 × Int32 × Int32 × Int32 × Int32 × Int32 × Int32 × N2I) => r = aCo L T K F S B n (-1) - aCo L T K F S B n (nI i)) (fun (u : Int32 × Int32 × Int32 × Int32 × Int32 × Int32 × Int32 × Int32 × N2I) (t : State) => va_P (dC, dI) vwCl [(kl, .inr (1, [.ref aK, .ref aF, .ref aS, .ref aB, .int (nI n), .ref rk])), (aK, .inl (cI, 60, .inl K)), (aF, .inl (cI, 60, .inl F)), (aS, .inl (cI, 60, .inl S)), (aB, .inl (cZ, 60, .inl B)), (rk, .inr (0, [.ref aL, .ref aT, .ref aU, .int u.1, .int u.2.1, .int u.2.2.1, .int u.2.2.2.1, .int u.2.2.2.2.1, .int u.2.2.2.2.2.1, .int u.2.2.2.2.2.2.1, .int u.2.2.2.2.2.2.2.1])), (aL, .inl (cI, 4, .inl L)), (aT, .inl (cI, 4, .inl T)), (aU, .inl (cI, 6, .inl u.2.2.2.2.2.2.2.2))] t.heap ∧ va_D (va_A [(kl, .inr (1, [.ref aK, .ref aF, .ref aS, .ref aB, .int (nI n), .ref rk])), (aK, .inl (cI, 60, .inl K)), (aF, .inl (cI, 60, .inl F)), (aS, .inl (cI, 60, .inl S)), (aB, .inl (cZ, 60, .inl B)), (rk, .inr (0, [.ref aL, .ref aT, .ref aU, .int co, .int pl, .int st, .int jo, .int cn, .int ii, .int fi, .int fe])), (aL, .inl (cI, 4, .inl L)), (aT, .inl (cI, 4, .inl T)), (aU, .inl (cI, 6, .inl U))] sz) [(kl, .inr (1, [.ref aK, .ref aF, .ref aS, .ref aB, .int (nI n), .ref rk])), (aK, .inl (cI, 60, .inl K)), (aF, .inl (cI, 60, .inl F)), (aS, .inl (cI, 60, .inl S)), (aB, .inl (cZ, 60, .inl B)), (rk, .inr (0, [.ref aL, .ref aT, .ref aU, .int u.1, .int u.2.1, .int u.2.2.1, .int u.2.2.2.1, .int u.2.2.2.2.1, .int u.2.2.2.2.2.1, .int u.2.2.2.2.2.2.1, .int u.2.2.2.2.2.2.2.1])), (aL, .inl (cI, 4, .inl L)), (aT, .inl (cI, 4, .inl T)), (aU, .inl (cI, 6, .inl u.2.2.2.2.2.2.2.2))]) (va_A [(kl, .inr (1, [.ref aK, .ref aF, .ref aS, .ref aB, .int (nI n), .ref rk])), (aK, .inl (cI, 60, .inl K)), (aF, .inl (cI, 60, .inl F)), (aS, .inl (cI, 60, .inl S)), (aB, .inl (cZ, 60, .inl B)), (rk, .inr (0, [.ref aL, .ref aT, .ref aU, .int co, .int pl, .int st, .int jo, .int cn, .int ii, .int fi, .int fe])), (aL, .inl (cI, 4, .inl L)), (aT, .inl (cI, 4, .inl T)), (aU, .inl (cI, 6, .inl U))] sz)) 0 0 (va_A [(kl, .inr (1, [.ref aK, .ref aF, .ref aS, .ref aB, .int (nI n), .ref rk])), (aK, .inl (cI, 60, .inl K)), (aF, .inl (cI, 60, .inl F)), (aS, .inl (cI, 60, .inl S)), (aB, .inl (cZ, 60, .inl B)), (rk, .inr (0, [.ref aL, .ref aT, .ref aU, .int co, .int pl, .int st, .int jo, .int cn, .int ii, .int fi, .int fe])), (aL, .inl (cI, 4, .inl L)), (aT, .inl (cI, 4, .inl T)), (aU, .inl (cI, 6, .inl U))] sz) := by
  refine Met.ofW (cc := cX1_worth) (maxL := 2) (ret := (some .int)) (by decide) rfl ?_
  intro p e s m args below meth c s₁ BB hml hv
  obtain ⟨rfl, hsz, hP, hK, hD0, hN⟩ := hv
  have hx := BB.exec
  have hb := BB.bytes
  have hr := BB.returns
  have hts := atoms_spec (ws := wsX1_worth) BB.pre
  have hown : s.vm.findClass RX1 = some m.cls := findClass_of_methodNamed BB.named
  have hlocks := BB.notSynchronized
  subst hsz
  have hD := hD0.self (sz := s.heap.size)
  generalize hAe : va_A [(kl, .inr (1, [.ref aK, .ref aF, .ref aS, .ref aB, .int (nI n), .ref rk])), (aK, .inl (cI, 60, .inl K)), (aF, .inl (cI, 60, .inl F)), (aS, .inl (cI, 60, .inl S)), (aB, .inl (cZ, 60, .inl B)), (rk, .inr (0, [.ref aL, .ref aT, .ref aU, .int co, .int pl, .int st, .int jo, .int cn, .int ii, .int fi, .int fe])), (aL, .inl (cI, 4, .inl L)), (aT, .inl (cI, 4, .inl T)), (aU, .inl (cI, 6, .inl U))] s.heap.size = A at hD ⊢
  have hA : ∀ q : Nat, s.heap.size ≤ q → A q := fun q h => by rw [← hAe]; exact Or.inr h
  have hS : va_S A s.heap s.heap [] := va_S.rf
  have hP : va_P (dC, dI) vwCl [(kl, .inr (1, [.ref aK, .ref aF, .ref aS, .ref aB, .int (nI n), .ref rk])), (aK, .inl (cI, 60, .inl K)), (aF, .inl (cI, 60, .inl F)), (aS, .inl (cI, 60, .inl S)), (aB, .inl (cZ, 60, .inl B)), (rk, .inr (0, [.ref aL, .ref aT, .ref aU, .int co, .int pl, .int st, .int jo, .int cn, .int ii, .int fi, .int fe])), (aL, .inl (cI, 4, .inl L)), (aT, .inl (cI, 4, .inl T)), (aU, .inl (cI, 6, .inl U))] s.heap := hP
  have hl := lv_entry ([.ref kl, .int (nI i)]) (n := 2) (Nat.le_of_ble_eq_true rfl)
  rw [lg_entry_eq]
  generalize (lg_sl ([.ref kl, .int (nI i)]) ++ List.replicate (2 - (lg_sl ([.ref kl, .int (nI i)])).length) Slot.unset).toArray = ls at hl ⊢
  have hl : lv_has ls 2 [(0, .ref kl), (1, .int (nI i))] := hl
  have k0 := hts (.fieldLink RX1 23 "KnifeLedger" "size" "I") (by decide +kernel)
  have hinX1 : ∀ w ∈ wsX10, w ∈ wsX1_worth := by decide +kernel
  have hn6 : n ≤ 60 := hX.1
  refine lv_iload_n hx hb dX1_worth_0 rfl (lv_at hl 1 rfl) ?_
  refine lv_aload_n hx hb dX1_worth_1 rfl (lv_at hl 0 rfl) ?_
  refine va_get (D := (dC, dI)) (ci := 1) (v := .int (nI n)) (C := RX1) (T := TX1) (N := 6) hx hb hts hinX1 hown hK hP 0 rfl rfl 4 (by decide) k0 (fun _ h9 => h9) rfl dX1_worth_2 ?_
  have hPc := hP.sub (ws' := []) [] rfl
  have hDc := hD.sub (ws' := []) [] (by decide) rfl
  have hKc := hK.sub (tys' := []) [] rfl
  have hFc := va_free (wc := []) hD hS hA [] rfl
  refine va_callv (va_runS (As := [.int (nI i), .int (nI n)]) (rest := []) ⟨hx, hb, hml, hown, hts⟩ (c_X1_needIndex l dC dI s.heap.size (nI i) (nI n) (nI_pos (by omega)) (nI_lt hi (by omega))) (va_cwS 2 hts gX1_worth_X1_needIndex rfl rfl rfl (by decide +kernel) ⟨Nat.le_of_ble_eq_true rfl, Nat.le_of_ble_eq_true rfl⟩) (pc_S hKc hPc hDc) rfl rfl hl.1 rfl (lv_room (Nat.le_of_ble_eq_true rfl)) dX1_worth_5 ⟨Nat.le_of_ble_eq_true rfl, Nat.le_of_ble_eq_true rfl⟩) hS (fun q _ h => hFc q h) hFc (fun u t H_1 locs ht hvm hw hB hz1 hk1 hS => ?_)
  try dsimp only at hw hB
  have hw_1 := hw
  obtain ⟨hP1, hD1⟩ := hB
  rw [ht] at hP1
  obtain ⟨hP, hD⟩ := va_join (wr := [(kl, .inr (1, [.ref aK, .ref aF, .ref aS, .ref aB, .int (nI n), .ref rk])), (aK, .inl (cI, 60, .inl K)), (aF, .inl (cI, 60, .inl F)), (aS, .inl (cI, 60, .inl S)), (aB, .inl (cZ, 60, .inl B)), (rk, .inr (0, [.ref aL, .ref aT, .ref aU, .int co, .int pl, .int st, .int jo, .int cn, .int ii, .int fi, .int fe])), (aL, .inl (cI, 4, .inl L)), (aT, .inl (cI, 4, .inl T)), (aU, .inl (cI, 6, .inl U))]) (w1 := []) hP hD [] [0, 1, 2, 3, 4, 5, 6, 7, 8] rfl rfl (by decide) (by decide) hk1 hFc hP1 hD1
  have hP : va_P (dC, dI) vwCl [(kl, .inr (1, [.ref aK, .ref aF, .ref aS, .ref aB, .int (nI n), .ref rk])), (aK, .inl (cI, 60, .inl K)), (aF, .inl (cI, 60, .inl F)), (aS, .inl (cI, 60, .inl S)), (aB, .inl (cZ, 60, .inl B)), (rk, .inr (0, [.ref aL, .ref aT, .ref aU, .int co, .int pl, .int st, .int jo, .int cn, .int ii, .int fi, .int fe])), (aL, .inl (cI, 4, .inl L)), (aT, .inl (cI, 4, .inl T)), (aU, .inl (cI, 6, .inl U))] H_1 := hP
  have hD : va_D A [(kl, .inr (1, [.ref aK, .ref aF, .ref aS, .ref aB, .int (nI n), .ref rk])), (aK, .inl (cI, 60, .inl K)), (aF, .inl (cI, 60, .inl F)), (aS, .inl (cI, 60, .inl S)), (aB, .inl (cZ, 60, .inl B)), (rk, .inr (0, [.ref aL, .ref aT, .ref aU, .int co, .int pl, .int st, .int jo, .int cn, .int ii, .int fi, .int fe])), (aL, .inl (cI, 4, .inl L)), (aT, .inl (cI, 4, .inl T)), (aU, .inl (cI, 6, .inl U))] := hD
  refine lv_aload_n hx hb dX1_worth_8 rfl (lv_at hl 0 rfl) ?_
  refine lv_iconst (v := (-1)) hx hb dX1_worth_9 (by decide) ?_
  have hPc := hP.sub (ws' := [(kl, .inr (1, [.ref aK, .ref aF, .ref aS, .ref aB, .int (nI n), .ref rk])), (aK, .inl (cI, 60, .inl K)), (aF, .inl (cI, 60, .inl F)), (aS, .inl (cI, 60, .inl S)), (aB, .inl (cZ, 60, .inl B)), (rk, .inr (0, [.ref aL, .ref aT, .ref aU, .int co, .int pl, .int st, .int jo, .int cn, .int ii, .int fi, .int fe])), (aL, .inl (cI, 4, .inl L)), (aT, .inl (cI, 4, .inl T)), (aU, .inl (cI, 6, .inl U))]) [0, 1, 2, 3, 4, 5, 6, 7, 8] rfl
  have hDc := hD.sub (ws' := [(kl, .inr (1, [.ref aK, .ref aF, .ref aS, .ref aB, .int (nI n), .ref rk])), (aK, .inl (cI, 60, .inl K)), (aF, .inl (cI, 60, .inl F)), (aS, .inl (cI, 60, .inl S)), (aB, .inl (cZ, 60, .inl B)), (rk, .inr (0, [.ref aL, .ref aT, .ref aU, .int co, .int pl, .int st, .int jo, .int cn, .int ii, .int fi, .int fe])), (aL, .inl (cI, 4, .inl L)), (aT, .inl (cI, 4, .inl T)), (aU, .inl (cI, 6, .inl U))]) [0, 1, 2, 3, 4, 5, 6, 7, 8] (by decide) rfl
  have hKc := hK.sub (tys' := [(cI, .int), (cZ, .boolean)]) [0, 1] rfl
  have hFc := va_free (wc := [(kl, .inr (1, [.ref aK, .ref aF, .ref aS, .ref aB, .int (nI n), .ref rk])), (aK, .inl (cI, 60, .inl K)), (aF, .inl (cI, 60, .inl F)), (aS, .inl (cI, 60, .inl S)), (aB, .inl (cZ, 60, .inl B)), (rk, .inr (0, [.ref aL, .ref aT, .ref aU, .int co, .int pl, .int st, .int jo, .int cn, .int ii, .int fi, .int fe])), (aL, .inl (cI, 4, .inl L)), (aT, .inl (cI, 4, .inl T)), (aU, .inl (cI, 6, .inl U))]) hD hS hA [0, 1, 2, 3, 4, 5, 6, 7, 8] rfl
  refine va_calli (va_runV (As := [.int (-1)]) (rest := []) ⟨hx, hb, hml, hown, hts⟩ (c_X1_coinsBehindAll l dC dI cI cZ kl aK aF aS aB rk aL aT aU H_1.size L T K F S B U n co pl st jo cn ii fi fe (-1) (hX)) (cwV 1 hts gX1_worth_X1_coinsBehindAll rfl rfl rfl (by decide +kernel) ⟨Nat.le_of_ble_eq_true rfl, Nat.le_of_ble_eq_true rfl⟩) (pn_V hN hKc hPc hDc (ci := 1) (C := RX1) (T := TX1) (N := 6) (q0 := 0) rfl rfl) rfl rfl hl.1 rfl (lv_room (Nat.le_of_ble_eq_true rfl)) dX1_worth_10 ⟨Nat.le_of_ble_eq_true rfl, Nat.le_of_ble_eq_true rfl⟩) hS (fun q _ h => hFc q h) hFc (fun r_2 u t H_2 locs ht hvm hw hB hz1 hk1 hS => ?_)
  obtain ⟨co1_2, pl1_2, st1_2, jo1_2, cn1_2, ii1_2, fi1_2, fe1_2, U1_2⟩ := u
  try dsimp only at hw hB
  have hw_2 := hw
  obtain ⟨hw0_2, hw1_2⟩ := hw_2
  replace hw1_2 := hw1_2.symm
  subst hw1_2
  obtain ⟨hP1, hD1⟩ := hB
  rw [ht] at hP1
  obtain ⟨hP, hD⟩ := va_join (wr := []) (w1 := [(kl, .inr (1, [.ref aK, .ref aF, .ref aS, .ref aB, .int (nI n), .ref rk])), (aK, .inl (cI, 60, .inl K)), (aF, .inl (cI, 60, .inl F)), (aS, .inl (cI, 60, .inl S)), (aB, .inl (cZ, 60, .inl B)), (rk, .inr (0, [.ref aL, .ref aT, .ref aU, .int co1_2, .int pl1_2, .int st1_2, .int jo1_2, .int cn1_2, .int ii1_2, .int fi1_2, .int fe1_2])), (aL, .inl (cI, 4, .inl L)), (aT, .inl (cI, 4, .inl T)), (aU, .inl (cI, 6, .inl U1_2))]) hP hD [0, 1, 2, 3, 4, 5, 6, 7, 8] [] rfl rfl (by decide) (by decide) hk1 hFc hP1 hD1
  have hP : va_P (dC, dI) vwCl [(kl, .inr (1, [.ref aK, .ref aF, .ref aS, .ref aB, .int (nI n), .ref rk])), (aK, .inl (cI, 60, .inl K)), (aF, .inl (cI, 60, .inl F)), (aS, .inl (cI, 60, .inl S)), (aB, .inl (cZ, 60, .inl B)), (rk, .inr (0, [.ref aL, .ref aT, .ref aU, .int co1_2, .int pl1_2, .int st1_2, .int jo1_2, .int cn1_2, .int ii1_2, .int fi1_2, .int fe1_2])), (aL, .inl (cI, 4, .inl L)), (aT, .inl (cI, 4, .inl T)), (aU, .inl (cI, 6, .inl U1_2))] H_2 := hP
  have hD : va_D A [(kl, .inr (1, [.ref aK, .ref aF, .ref aS, .ref aB, .int (nI n), .ref rk])), (aK, .inl (cI, 60, .inl K)), (aF, .inl (cI, 60, .inl F)), (aS, .inl (cI, 60, .inl S)), (aB, .inl (cZ, 60, .inl B)), (rk, .inr (0, [.ref aL, .ref aT, .ref aU, .int co1_2, .int pl1_2, .int st1_2, .int jo1_2, .int cn1_2, .int ii1_2, .int fi1_2, .int fe1_2])), (aL, .inl (cI, 4, .inl L)), (aT, .inl (cI, 4, .inl T)), (aU, .inl (cI, 6, .inl U1_2))] := hD
  refine lv_aload_n hx hb dX1_worth_13 rfl (lv_at hl 0 rfl) ?_
  refine lv_iload_n hx hb dX1_worth_14 rfl (lv_at hl 1 rfl) ?_
  have hPc := hP.sub (ws' := [(kl, .inr (1, [.ref aK, .ref aF, .ref aS, .ref aB, .int (nI n), .ref rk])), (aK, .inl (cI, 60, .inl K)), (aF, .inl (cI, 60, .inl F)), (aS, .inl (cI, 60, .inl S)), (aB, .inl (cZ, 60, .inl B)), (rk, .inr (0, [.ref aL, .ref aT, .ref aU, .int co1_2, .int pl1_2, .int st1_2, .int jo1_2, .int cn1_2, .int ii1_2, .int fi1_2, .int fe1_2])), (aL, .inl (cI, 4, .inl L)), (aT, .inl (cI, 4, .inl T)), (aU, .inl (cI, 6, .inl U1_2))]) [0, 1, 2, 3, 4, 5, 6, 7, 8] rfl
  have hDc := hD.sub (ws' := [(kl, .inr (1, [.ref aK, .ref aF, .ref aS, .ref aB, .int (nI n), .ref rk])), (aK, .inl (cI, 60, .inl K)), (aF, .inl (cI, 60, .inl F)), (aS, .inl (cI, 60, .inl S)), (aB, .inl (cZ, 60, .inl B)), (rk, .inr (0, [.ref aL, .ref aT, .ref aU, .int co1_2, .int pl1_2, .int st1_2, .int jo1_2, .int cn1_2, .int ii1_2, .int fi1_2, .int fe1_2])), (aL, .inl (cI, 4, .inl L)), (aT, .inl (cI, 4, .inl T)), (aU, .inl (cI, 6, .inl U1_2))]) [0, 1, 2, 3, 4, 5, 6, 7, 8] (by decide) rfl
  have hKc := hK.sub (tys' := [(cI, .int), (cZ, .boolean)]) [0, 1] rfl
  have hFc := va_free (wc := [(kl, .inr (1, [.ref aK, .ref aF, .ref aS, .ref aB, .int (nI n), .ref rk])), (aK, .inl (cI, 60, .inl K)), (aF, .inl (cI, 60, .inl F)), (aS, .inl (cI, 60, .inl S)), (aB, .inl (cZ, 60, .inl B)), (rk, .inr (0, [.ref aL, .ref aT, .ref aU, .int co1_2, .int pl1_2, .int st1_2, .int jo1_2, .int cn1_2, .int ii1_2, .int fi1_2, .int fe1_2])), (aL, .inl (cI, 4, .inl L)), (aT, .inl (cI, 4, .inl T)), (aU, .inl (cI, 6, .inl U1_2))]) hD hS hA [0, 1, 2, 3, 4, 5, 6, 7, 8] rfl
  refine va_calli (va_runV (As := [.int (nI i)]) (rest := [.int co1_2]) ⟨hx, hb, hml, hown, hts⟩ (c_X1_coinsBehindAll l dC dI cI cZ kl aK aF aS aB rk aL aT aU H_2.size L T K F S B U1_2 n co1_2 pl1_2 st1_2 jo1_2 cn1_2 ii1_2 fi1_2 fe1_2 (nI i) (hX)) (cwV 1 hts gX1_worth_X1_coinsBehindAll rfl rfl rfl (by decide +kernel) ⟨Nat.le_of_ble_eq_true rfl, Nat.le_of_ble_eq_true rfl⟩) (pn_V hN hKc hPc hDc (ci := 1) (C := RX1) (T := TX1) (N := 6) (q0 := 0) rfl rfl) rfl rfl hl.1 rfl (lv_room (Nat.le_of_ble_eq_true rfl)) dX1_worth_15 ⟨Nat.le_of_ble_eq_true rfl, Nat.le_of_ble_eq_true rfl⟩) hS (fun q _ h => hFc q h) hFc (fun r_3 u t H_3 locs ht hvm hw hB hz1 hk1 hS => ?_)
  obtain ⟨co1_3, pl1_3, st1_3, jo1_3, cn1_3, ii1_3, fi1_3, fe1_3, U1_3⟩ := u
  try dsimp only at hw hB
  have hw_3 := hw
  obtain ⟨hw0_3, hw1_3⟩ := hw_3
  replace hw1_3 := hw1_3.symm
  subst hw1_3
  obtain ⟨hP1, hD1⟩ := hB
  rw [ht] at hP1
  obtain ⟨hP, hD⟩ := va_join (wr := []) (w1 := [(kl, .inr (1, [.ref aK, .ref aF, .ref aS, .ref aB, .int (nI n), .ref rk])), (aK, .inl (cI, 60, .inl K)), (aF, .inl (cI, 60, .inl F)), (aS, .inl (cI, 60, .inl S)), (aB, .inl (cZ, 60, .inl B)), (rk, .inr (0, [.ref aL, .ref aT, .ref aU, .int co1_3, .int pl1_3, .int st1_3, .int jo1_3, .int cn1_3, .int ii1_3, .int fi1_3, .int fe1_3])), (aL, .inl (cI, 4, .inl L)), (aT, .inl (cI, 4, .inl T)), (aU, .inl (cI, 6, .inl U1_3))]) hP hD [0, 1, 2, 3, 4, 5, 6, 7, 8] [] rfl rfl (by decide) (by decide) hk1 hFc hP1 hD1
  have hP : va_P (dC, dI) vwCl [(kl, .inr (1, [.ref aK, .ref aF, .ref aS, .ref aB, .int (nI n), .ref rk])), (aK, .inl (cI, 60, .inl K)), (aF, .inl (cI, 60, .inl F)), (aS, .inl (cI, 60, .inl S)), (aB, .inl (cZ, 60, .inl B)), (rk, .inr (0, [.ref aL, .ref aT, .ref aU, .int co1_3, .int pl1_3, .int st1_3, .int jo1_3, .int cn1_3, .int ii1_3, .int fi1_3, .int fe1_3])), (aL, .inl (cI, 4, .inl L)), (aT, .inl (cI, 4, .inl T)), (aU, .inl (cI, 6, .inl U1_3))] H_3 := hP
  have hD : va_D A [(kl, .inr (1, [.ref aK, .ref aF, .ref aS, .ref aB, .int (nI n), .ref rk])), (aK, .inl (cI, 60, .inl K)), (aF, .inl (cI, 60, .inl F)), (aS, .inl (cI, 60, .inl S)), (aB, .inl (cZ, 60, .inl B)), (rk, .inr (0, [.ref aL, .ref aT, .ref aU, .int co1_3, .int pl1_3, .int st1_3, .int jo1_3, .int cn1_3, .int ii1_3, .int fi1_3, .int fe1_3])), (aL, .inl (cI, 4, .inl L)), (aT, .inl (cI, 4, .inl T)), (aU, .inl (cI, 6, .inl U1_3))] := hD
  refine lv_isub hx hb dX1_worth_18 ?_
  have hpost : (co1_2 - co1_3) = aCo L T K F S B n (-1) - aCo L T K F S B n (nI i) := by
    rw [← aCo_of hX hw0_2, ← aCo_of hX hw0_3]
  have hP9 := hP.sub (ws' := [(kl, .inr (1, [.ref aK, .ref aF, .ref aS, .ref aB, .int (nI n), .ref rk])), (aK, .inl (cI, 60, .inl K)), (aF, .inl (cI, 60, .inl F)), (aS, .inl (cI, 60, .inl S)), (aB, .inl (cZ, 60, .inl B)), (rk, .inr (0, [.ref aL, .ref aT, .ref aU, .int co1_3, .int pl1_3, .int st1_3, .int jo1_3, .int cn1_3, .int ii1_3, .int fi1_3, .int fe1_3])), (aL, .inl (cI, 4, .inl L)), (aT, .inl (cI, 4, .inl T)), (aU, .inl (cI, 6, .inl U1_3))]) [0, 1, 2, 3, 4, 5, 6, 7, 8] rfl
  have hD9 := hD.sub (ws' := [(kl, .inr (1, [.ref aK, .ref aF, .ref aS, .ref aB, .int (nI n), .ref rk])), (aK, .inl (cI, 60, .inl K)), (aF, .inl (cI, 60, .inl F)), (aS, .inl (cI, 60, .inl S)), (aB, .inl (cZ, 60, .inl B)), (rk, .inr (0, [.ref aL, .ref aT, .ref aU, .int co1_3, .int pl1_3, .int st1_3, .int jo1_3, .int cn1_3, .int ii1_3, .int fi1_3, .int fe1_3])), (aL, .inl (cI, 4, .inl L)), (aT, .inl (cI, 4, .inl T)), (aU, .inl (cI, 6, .inl U1_3))]) [0, 1, 2, 3, 4, 5, 6, 7, 8] (by decide) rfl
  exact W.iret (v := co1_2 - co1_3) hx hb hr (fun t ht hW => ⟨⟨(co1_2 - co1_3), (co1_3, pl1_3, st1_3, jo1_3, cn1_3, ii1_3, fi1_3, fe1_3, U1_3), rfl, hpost, by rw [ht]; exact hP9, hD9⟩, hS.F ht⟩) hS.2.2 dX1_worth_19

set_option maxHeartbeats 4000000 in
set_option maxRecDepth 100000 in
theorem c_X1_best (l : Launch) (dC : Nat → ClassId) (dI : Nat → Nat → Nat) (cI cZ : ClassId) (kl aK aF aS aB rk aL aT aU : Nat) (sz : Nat)  (L : N2I) (T : N2I) (K : N2I) (F : N2I) (S : N2I) (B : N2I) (U : N2I) (n : Nat) (co : Int32) (pl : Int32) (st : Int32) (jo : Int32) (cn : Int32) (ii : Int32) (fi : Int32) (fe : Int32) (hX : okX K F S B n) : Met l yX1_best wsX1_best ({ frames := 8, cells := 0, slots := 0, locals := 173 } : Room) (va_Pc [.ref kl] (pn_  (dC, dI) [(cI, .int), (cZ, .boolean)] [(kl, .inr (1, [.ref aK, .ref aF, .ref aS, .ref aB, .int (nI n), .ref rk])), (aK, .inl (cI, 60, .inl K)), (aF, .inl (cI, 60, .inl F)), (aS, .inl (cI, 60, .inl S)), (aB, .inl (cZ, 60, .inl B)), (rk, .inr (0, [.ref aL, .ref aT, .ref aU, .int co, .int pl, .int st, .int jo, .int cn, .int ii, .int fi, .int fe])), (aL, .inl (cI, 4, .inl L)), (aT, .inl (cI, 4, .inl T)), (aU, .inl (cI, 6, .inl U))] sz)) (va_Qi (fun (r : Int32) (u : Int32 × Int32 × Int32 × Int32 × Int32 × Int32 × Int32 × Int32 × N2I) => r = (aBest (aCo L T K F S B n) B n).1) (fun (u : Int32 × Int32 × Int32 × Int32 × Int32 × Int32 × Int32 × Int32 × N2I) (t : State) => va_P (dC, dI) vwCl [(kl, .inr (1, [.ref aK, .ref aF, .ref aS, .ref aB, .int (nI n), .ref rk])), (aK, .inl (cI, 60, .inl K)), (aF, .inl (cI, 60, .inl F)), (aS, .inl (cI, 60, .inl S)), (aB, .inl (cZ, 60, .inl B)), (rk, .inr (0, [.ref aL, .ref aT, .ref aU, .int u.1, .int u.2.1, .int u.2.2.1, .int u.2.2.2.1, .int u.2.2.2.2.1, .int u.2.2.2.2.2.1, .int u.2.2.2.2.2.2.1, .int u.2.2.2.2.2.2.2.1])), (aL, .inl (cI, 4, .inl L)), (aT, .inl (cI, 4, .inl T)), (aU, .inl (cI, 6, .inl u.2.2.2.2.2.2.2.2))] t.heap ∧ va_D (va_A [(kl, .inr (1, [.ref aK, .ref aF, .ref aS, .ref aB, .int (nI n), .ref rk])), (aK, .inl (cI, 60, .inl K)), (aF, .inl (cI, 60, .inl F)), (aS, .inl (cI, 60, .inl S)), (aB, .inl (cZ, 60, .inl B)), (rk, .inr (0, [.ref aL, .ref aT, .ref aU, .int co, .int pl, .int st, .int jo, .int cn, .int ii, .int fi, .int fe])), (aL, .inl (cI, 4, .inl L)), (aT, .inl (cI, 4, .inl T)), (aU, .inl (cI, 6, .inl U))] sz) [(kl, .inr (1, [.ref aK, .ref aF, .ref aS, .ref aB, .int (nI n), .ref rk])), (aK, .inl (cI, 60, .inl K)), (aF, .inl (cI, 60, .inl F)), (aS, .inl (cI, 60, .inl S)), (aB, .inl (cZ, 60, .inl B)), (rk, .inr (0, [.ref aL, .ref aT, .ref aU, .int u.1, .int u.2.1, .int u.2.2.1, .int u.2.2.2.1, .int u.2.2.2.2.1, .int u.2.2.2.2.2.1, .int u.2.2.2.2.2.2.1, .int u.2.2.2.2.2.2.2.1])), (aL, .inl (cI, 4, .inl L)), (aT, .inl (cI, 4, .inl T)), (aU, .inl (cI, 6, .inl u.2.2.2.2.2.2.2.2))]) (va_A [(kl, .inr (1, [.ref aK, .ref aF, .ref aS, .ref aB, .int (nI n), .ref rk])), (aK, .inl (cI, 60, .inl K)), (aF, .inl (cI, 60, .inl F)), (aS, .inl (cI, 60, .inl S)), (aB, .inl (cZ, 60, .inl B)), (rk, .inr (0, [.ref aL, .ref aT, .ref aU, .int co, .int pl, .int st, .int jo, .int cn, .int ii, .int fi, .int fe])), (aL, .inl (cI, 4, .inl L)), (aT, .inl (cI, 4, .inl T)), (aU, .inl (cI, 6, .inl U))] sz)) 0 0 (va_A [(kl, .inr (1, [.ref aK, .ref aF, .ref aS, .ref aB, .int (nI n), .ref rk])), (aK, .inl (cI, 60, .inl K)), (aF, .inl (cI, 60, .inl F)), (aS, .inl (cI, 60, .inl S)), (aB, .inl (cZ, 60, .inl B)), (rk, .inr (0, [.ref aL, .ref aT, .ref aU, .int co, .int pl, .int st, .int jo, .int cn, .int ii, .int fi, .int fe])), (aL, .inl (cI, 4, .inl L)), (aT, .inl (cI, 4, .inl T)), (aU, .inl (cI, 6, .inl U))] sz) := by
  refine Met.ofW (cc := cX1_best) (maxL := 5) (ret := (some .int)) (by decide) rfl ?_
  intro p e s m args below meth c s₁ BB hml hv
  obtain ⟨rfl, hsz, hP, hK, hD0, hN⟩ := hv
  have hx := BB.exec
  have hb := BB.bytes
  have hr := BB.returns
  have hts := atoms_spec (ws := wsX1_best) BB.pre
  have hown : s.vm.findClass RX1 = some m.cls := findClass_of_methodNamed BB.named
  have hlocks := BB.notSynchronized
  subst hsz
  have hD := hD0.self (sz := s.heap.size)
  generalize hAe : va_A [(kl, .inr (1, [.ref aK, .ref aF, .ref aS, .ref aB, .int (nI n), .ref rk])), (aK, .inl (cI, 60, .inl K)), (aF, .inl (cI, 60, .inl F)), (aS, .inl (cI, 60, .inl S)), (aB, .inl (cZ, 60, .inl B)), (rk, .inr (0, [.ref aL, .ref aT, .ref aU, .int co, .int pl, .int st, .int jo, .int cn, .int ii, .int fi, .int fe])), (aL, .inl (cI, 4, .inl L)), (aT, .inl (cI, 4, .inl T)), (aU, .inl (cI, 6, .inl U))] s.heap.size = A at hD ⊢
  have hA : ∀ q : Nat, s.heap.size ≤ q → A q := fun q h => by rw [← hAe]; exact Or.inr h
  have hS : va_S A s.heap s.heap [] := va_S.rf
  have hP : va_P (dC, dI) vwCl [(kl, .inr (1, [.ref aK, .ref aF, .ref aS, .ref aB, .int (nI n), .ref rk])), (aK, .inl (cI, 60, .inl K)), (aF, .inl (cI, 60, .inl F)), (aS, .inl (cI, 60, .inl S)), (aB, .inl (cZ, 60, .inl B)), (rk, .inr (0, [.ref aL, .ref aT, .ref aU, .int co, .int pl, .int st, .int jo, .int cn, .int ii, .int fi, .int fe])), (aL, .inl (cI, 4, .inl L)), (aT, .inl (cI, 4, .inl T)), (aU, .inl (cI, 6, .inl U))] s.heap := hP
  have hl := lv_entry ([.ref kl]) (n := 5) (Nat.le_of_ble_eq_true rfl)
  rw [lg_entry_eq]
  generalize (lg_sl ([.ref kl]) ++ List.replicate (5 - (lg_sl ([.ref kl])).length) Slot.unset).toArray = ls at hl ⊢
  have hl : lv_has ls 5 [(0, .ref kl)] := hl
  have k0 := hts (.fieldLink RX1 23 "KnifeLedger" "size" "I") (by decide +kernel)
  have hinX1 : ∀ w ∈ wsX10, w ∈ wsX1_best := by decide +kernel
  have k2 := hts (.fieldLink RX1 19 "KnifeLedger" "struck" "[Z") (by decide +kernel)
  have hn6 : n ≤ 60 := hX.1
  refine lv_iconst (v := (-1)) hx hb dX1_best_0 (by decide) ?_
  refine lv_istore_n (lv' := [(1, .int (-1)), (0, .ref kl)]) hx hb dX1_best_1 rfl hl (by decide) rfl (fun ls hl => ?_)
  refine lv_aload_n hx hb dX1_best_2 rfl (lv_at hl 1 rfl) ?_
  refine lv_iconst (v := (-1)) hx hb dX1_best_3 (by decide) ?_
  have hPc := hP.sub (ws' := [(kl, .inr (1, [.ref aK, .ref aF, .ref aS, .ref aB, .int (nI n), .ref rk])), (aK, .inl (cI, 60, .inl K)), (aF, .inl (cI, 60, .inl F)), (aS, .inl (cI, 60, .inl S)), (aB, .inl (cZ, 60, .inl B)), (rk, .inr (0, [.ref aL, .ref aT, .ref aU, .int co, .int pl, .int st, .int jo, .int cn, .int ii, .int fi, .int fe])), (aL, .inl (cI, 4, .inl L)), (aT, .inl (cI, 4, .inl T)), (aU, .inl (cI, 6, .inl U))]) [0, 1, 2, 3, 4, 5, 6, 7, 8] rfl
  have hDc := hD.sub (ws' := [(kl, .inr (1, [.ref aK, .ref aF, .ref aS, .ref aB, .int (nI n), .ref rk])), (aK, .inl (cI, 60, .inl K)), (aF, .inl (cI, 60, .inl F)), (aS, .inl (cI, 60, .inl S)), (aB, .inl (cZ, 60, .inl B)), (rk, .inr (0, [.ref aL, .ref aT, .ref aU, .int co, .int pl, .int st, .int jo, .int cn, .int ii, .int fi, .int fe])), (aL, .inl (cI, 4, .inl L)), (aT, .inl (cI, 4, .inl T)), (aU, .inl (cI, 6, .inl U))]) [0, 1, 2, 3, 4, 5, 6, 7, 8] (by decide) rfl
  have hKc := hK.sub (tys' := [(cI, .int), (cZ, .boolean)]) [0, 1] rfl
  have hFc := va_free (wc := [(kl, .inr (1, [.ref aK, .ref aF, .ref aS, .ref aB, .int (nI n), .ref rk])), (aK, .inl (cI, 60, .inl K)), (aF, .inl (cI, 60, .inl F)), (aS, .inl (cI, 60, .inl S)), (aB, .inl (cZ, 60, .inl B)), (rk, .inr (0, [.ref aL, .ref aT, .ref aU, .int co, .int pl, .int st, .int jo, .int cn, .int ii, .int fi, .int fe])), (aL, .inl (cI, 4, .inl L)), (aT, .inl (cI, 4, .inl T)), (aU, .inl (cI, 6, .inl U))]) hD hS hA [0, 1, 2, 3, 4, 5, 6, 7, 8] rfl
  refine va_calli (va_runV (As := [.int (-1)]) (rest := []) ⟨hx, hb, hml, hown, hts⟩ (c_X1_coinsBehindAll l dC dI cI cZ kl aK aF aS aB rk aL aT aU s.heap.size L T K F S B U n co pl st jo cn ii fi fe (-1) (hX)) (cwV 1 hts gX1_best_X1_coinsBehindAll rfl rfl rfl (by decide +kernel) ⟨Nat.le_of_ble_eq_true rfl, Nat.le_of_ble_eq_true rfl⟩) (pn_V hN hKc hPc hDc (ci := 1) (C := RX1) (T := TX1) (N := 6) (q0 := 0) rfl rfl) rfl rfl hl.1 rfl (lv_room (Nat.le_of_ble_eq_true rfl)) dX1_best_4 ⟨Nat.le_of_ble_eq_true rfl, Nat.le_of_ble_eq_true rfl⟩) hS (fun q _ h => hFc q h) hFc (fun r_1 u t H_1 locs ht hvm hw hB hz1 hk1 hS => ?_)
  obtain ⟨co1_1, pl1_1, st1_1, jo1_1, cn1_1, ii1_1, fi1_1, fe1_1, U1_1⟩ := u
  try dsimp only at hw hB
  have hw_1 := hw
  obtain ⟨hw0_1, hw1_1⟩ := hw_1
  replace hw1_1 := hw1_1.symm
  subst hw1_1
  obtain ⟨hP1, hD1⟩ := hB
  rw [ht] at hP1
  obtain ⟨hP, hD⟩ := va_join (wr := []) (w1 := [(kl, .inr (1, [.ref aK, .ref aF, .ref aS, .ref aB, .int (nI n), .ref rk])), (aK, .inl (cI, 60, .inl K)), (aF, .inl (cI, 60, .inl F)), (aS, .inl (cI, 60, .inl S)), (aB, .inl (cZ, 60, .inl B)), (rk, .inr (0, [.ref aL, .ref aT, .ref aU, .int co1_1, .int pl1_1, .int st1_1, .int jo1_1, .int cn1_1, .int ii1_1, .int fi1_1, .int fe1_1])), (aL, .inl (cI, 4, .inl L)), (aT, .inl (cI, 4, .inl T)), (aU, .inl (cI, 6, .inl U1_1))]) hP hD [0, 1, 2, 3, 4, 5, 6, 7, 8] [] rfl rfl (by decide) (by decide) hk1 hFc hP1 hD1
  have hP : va_P (dC, dI) vwCl [(kl, .inr (1, [.ref aK, .ref aF, .ref aS, .ref aB, .int (nI n), .ref rk])), (aK, .inl (cI, 60, .inl K)), (aF, .inl (cI, 60, .inl F)), (aS, .inl (cI, 60, .inl S)), (aB, .inl (cZ, 60, .inl B)), (rk, .inr (0, [.ref aL, .ref aT, .ref aU, .int co1_1, .int pl1_1, .int st1_1, .int jo1_1, .int cn1_1, .int ii1_1, .int fi1_1, .int fe1_1])), (aL, .inl (cI, 4, .inl L)), (aT, .inl (cI, 4, .inl T)), (aU, .inl (cI, 6, .inl U1_1))] H_1 := hP
  have hD : va_D A [(kl, .inr (1, [.ref aK, .ref aF, .ref aS, .ref aB, .int (nI n), .ref rk])), (aK, .inl (cI, 60, .inl K)), (aF, .inl (cI, 60, .inl F)), (aS, .inl (cI, 60, .inl S)), (aB, .inl (cZ, 60, .inl B)), (rk, .inr (0, [.ref aL, .ref aT, .ref aU, .int co1_1, .int pl1_1, .int st1_1, .int jo1_1, .int cn1_1, .int ii1_1, .int fi1_1, .int fe1_1])), (aL, .inl (cI, 4, .inl L)), (aT, .inl (cI, 4, .inl T)), (aU, .inl (cI, 6, .inl U1_1))] := hD
  refine lv_istore_n (lv' := [(2, .int co1_1), (1, .int (-1)), (0, .ref kl)]) hx hb dX1_best_7 rfl hl (by decide) rfl (fun ls hl => ?_)
  refine lv_iconst (v := 0) hx hb dX1_best_8 (by decide) ?_
  refine lv_istore_n (lv' := [(3, .int 0), (2, .int co1_1), (1, .int (-1)), (0, .ref kl)]) hx hb dX1_best_9 rfl hl (by decide) rfl (fun ls hl => ?_)
  refine (fun (KK : ∀ (nn9 : Nat) (i : Nat) (be : Int32) (mo : Int32) (co2 : Int32) (pl2 : Int32) (st2 : Int32) (jo2 : Int32) (cn2 : Int32) (ii2 : Int32) (fi2 : Int32) (fe2 : Int32) (U2 : N2I) (H : Heap) (locs : List Loc) (ls : Array Slot) (hi : i ≤ n) (hs : (be, mo) = aBest (aCo L T K F S B n) B i), n - i < nn9 → va_P (dC, dI) vwCl [(kl, .inr (1, [.ref aK, .ref aF, .ref aS, .ref aB, .int (nI n), .ref rk])), (aK, .inl (cI, 60, .inl K)), (aF, .inl (cI, 60, .inl F)), (aS, .inl (cI, 60, .inl S)), (aB, .inl (cZ, 60, .inl B)), (rk, .inr (0, [.ref aL, .ref aT, .ref aU, .int co2, .int pl2, .int st2, .int jo2, .int cn2, .int ii2, .int fi2, .int fe2])), (aL, .inl (cI, 4, .inl L)), (aT, .inl (cI, 4, .inl T)), (aU, .inl (cI, 6, .inl U2))] H → va_D A [(kl, .inr (1, [.ref aK, .ref aF, .ref aS, .ref aB, .int (nI n), .ref rk])), (aK, .inl (cI, 60, .inl K)), (aF, .inl (cI, 60, .inl F)), (aS, .inl (cI, 60, .inl S)), (aB, .inl (cZ, 60, .inl B)), (rk, .inr (0, [.ref aL, .ref aT, .ref aU, .int co2, .int pl2, .int st2, .int jo2, .int cn2, .int ii2, .int fi2, .int fe2])), (aL, .inl (cI, 4, .inl L)), (aT, .inl (cI, 4, .inl T)), (aU, .inl (cI, 6, .inl U2))] → va_S A s.heap H locs → lv_has ls 5 [(1, .int be), (2, .int mo), (3, .int (nI i)), (0, .ref kl)] → W p l e _ s m _ below meth c H locs 0 0 _ (F0 m 10 ls [])) => KK (n - 0 + 1) 0 (-1) co1_1 co1_1 pl1_1 st1_1 jo1_1 cn1_1 ii1_1 fi1_1 fe1_1 U1_1 _ _ _ (Nat.zero_le _) (by rw [show aBest (aCo L T K F S B n) B 0 = (-1, aCo L T K F S B n (-1)) from rfl, ← aCo_of hX hw0_1]) (by omega) hP hD hS (lv_sub hl [2, 1, 0, 3] rfl)) ?_
  intro nn_10
  induction nn_10 with
  | zero => intro i be mo co2 pl2 st2 jo2 cn2 ii2 fi2 fe2 U2 H locs ls hi hs hn9; exact absurd hn9 (Nat.not_lt_zero _)
  | succ nn_10 ih_10 =>
    intro i be mo co2 pl2 st2 jo2 cn2 ii2 fi2 fe2 U2 H_2 locs ls hi hs hn_10 hP hD hS hl
    refine lv_iload_n hx hb dX1_best_10 rfl (lv_at hl 2 rfl) ?_
    refine lv_aload_n hx hb dX1_best_11 rfl (lv_at hl 3 rfl) ?_
    refine va_get (D := (dC, dI)) (ci := 1) (v := .int (nI n)) (C := RX1) (T := TX1) (N := 6) hx hb hts hinX1 hown hK hP 0 rfl rfl 4 (by decide) k0 (fun _ h9 => h9) rfl dX1_best_12 ?_
    refine lv_icmp_ge (tgt := 54) hx hb dX1_best_15 (by decide) (fun c_15 => ?_) (fun c_15 => ?_)
    · -- 15
      have hge : i = n := by rw [nI_leI (by omega) (by omega)] at c_15; omega
      refine lv_iload_n hx hb dX1_best_54 rfl (lv_at hl 0 rfl) ?_
      have hpost : be = (aBest (aCo L T K F S B n) B n).1 := by
        subst hge; rw [← hs]
      have hP9 := hP.sub (ws' := [(kl, .inr (1, [.ref aK, .ref aF, .ref aS, .ref aB, .int (nI n), .ref rk])), (aK, .inl (cI, 60, .inl K)), (aF, .inl (cI, 60, .inl F)), (aS, .inl (cI, 60, .inl S)), (aB, .inl (cZ, 60, .inl B)), (rk, .inr (0, [.ref aL, .ref aT, .ref aU, .int co2, .int pl2, .int st2, .int jo2, .int cn2, .int ii2, .int fi2, .int fe2])), (aL, .inl (cI, 4, .inl L)), (aT, .inl (cI, 4, .inl T)), (aU, .inl (cI, 6, .inl U2))]) [0, 1, 2, 3, 4, 5, 6, 7, 8] rfl
      have hD9 := hD.sub (ws' := [(kl, .inr (1, [.ref aK, .ref aF, .ref aS, .ref aB, .int (nI n), .ref rk])), (aK, .inl (cI, 60, .inl K)), (aF, .inl (cI, 60, .inl F)), (aS, .inl (cI, 60, .inl S)), (aB, .inl (cZ, 60, .inl B)), (rk, .inr (0, [.ref aL, .ref aT, .ref aU, .int co2, .int pl2, .int st2, .int jo2, .int cn2, .int ii2, .int fi2, .int fe2])), (aL, .inl (cI, 4, .inl L)), (aT, .inl (cI, 4, .inl T)), (aU, .inl (cI, 6, .inl U2))]) [0, 1, 2, 3, 4, 5, 6, 7, 8] (by decide) rfl
      exact W.iret (v := be) hx hb hr (fun t ht hW => ⟨⟨be, (co2, pl2, st2, jo2, cn2, ii2, fi2, fe2, U2), rfl, hpost, by rw [ht]; exact hP9, hD9⟩, hS.F ht⟩) hS.2.2 dX1_best_55
    · -- 15
      have hlt : i < n := by rw [nI_leI (by omega) (by omega)] at c_15; omega
      refine lv_aload_n hx hb dX1_best_18 rfl (lv_at hl 3 rfl) ?_
      refine va_get (D := (dC, dI)) (ci := 1) (v := .ref aB) (C := RX1) (T := TX1) (N := 6) hx hb hts hinX1 hown hK hP 0 rfl rfl 3 (by decide) k2 (fun _ h9 => h9) rfl dX1_best_19 ?_
      refine lv_iload_n hx hb dX1_best_22 rfl (lv_at hl 2 rfl) ?_
      refine va_zald hx hb hK hP 4 1 rfl rfl (vp_in_nI (by omega) (by omega)) dX1_best_23 ?_
      rw [nI_clamp (n := i) (by omega)]
      refine lv_if_eq (tgt := 30) hx hb dX1_best_24 (by decide) (fun c_24 => ?_) (fun c_24 => ?_)
      · -- 24
        refine lv_aload_n hx hb dX1_best_30 rfl (lv_at hl 3 rfl) ?_
        refine lv_iload_n hx hb dX1_best_31 rfl (lv_at hl 2 rfl) ?_
        have hPc := hP.sub (ws' := [(kl, .inr (1, [.ref aK, .ref aF, .ref aS, .ref aB, .int (nI n), .ref rk])), (aK, .inl (cI, 60, .inl K)), (aF, .inl (cI, 60, .inl F)), (aS, .inl (cI, 60, .inl S)), (aB, .inl (cZ, 60, .inl B)), (rk, .inr (0, [.ref aL, .ref aT, .ref aU, .int co2, .int pl2, .int st2, .int jo2, .int cn2, .int ii2, .int fi2, .int fe2])), (aL, .inl (cI, 4, .inl L)), (aT, .inl (cI, 4, .inl T)), (aU, .inl (cI, 6, .inl U2))]) [0, 1, 2, 3, 4, 5, 6, 7, 8] rfl
        have hDc := hD.sub (ws' := [(kl, .inr (1, [.ref aK, .ref aF, .ref aS, .ref aB, .int (nI n), .ref rk])), (aK, .inl (cI, 60, .inl K)), (aF, .inl (cI, 60, .inl F)), (aS, .inl (cI, 60, .inl S)), (aB, .inl (cZ, 60, .inl B)), (rk, .inr (0, [.ref aL, .ref aT, .ref aU, .int co2, .int pl2, .int st2, .int jo2, .int cn2, .int ii2, .int fi2, .int fe2])), (aL, .inl (cI, 4, .inl L)), (aT, .inl (cI, 4, .inl T)), (aU, .inl (cI, 6, .inl U2))]) [0, 1, 2, 3, 4, 5, 6, 7, 8] (by decide) rfl
        have hKc := hK.sub (tys' := [(cI, .int), (cZ, .boolean)]) [0, 1] rfl
        have hFc := va_free (wc := [(kl, .inr (1, [.ref aK, .ref aF, .ref aS, .ref aB, .int (nI n), .ref rk])), (aK, .inl (cI, 60, .inl K)), (aF, .inl (cI, 60, .inl F)), (aS, .inl (cI, 60, .inl S)), (aB, .inl (cZ, 60, .inl B)), (rk, .inr (0, [.ref aL, .ref aT, .ref aU, .int co2, .int pl2, .int st2, .int jo2, .int cn2, .int ii2, .int fi2, .int fe2])), (aL, .inl (cI, 4, .inl L)), (aT, .inl (cI, 4, .inl T)), (aU, .inl (cI, 6, .inl U2))]) hD hS hA [0, 1, 2, 3, 4, 5, 6, 7, 8] rfl
        refine va_calli (va_runV (As := [.int (nI i)]) (rest := []) ⟨hx, hb, hml, hown, hts⟩ (c_X1_coinsBehindAll l dC dI cI cZ kl aK aF aS aB rk aL aT aU H_2.size L T K F S B U2 n co2 pl2 st2 jo2 cn2 ii2 fi2 fe2 (nI i) (hX)) (cwV 1 hts gX1_best_X1_coinsBehindAll rfl rfl rfl (by decide +kernel) ⟨Nat.le_of_ble_eq_true rfl, Nat.le_of_ble_eq_true rfl⟩) (pn_V hN hKc hPc hDc (ci := 1) (C := RX1) (T := TX1) (N := 6) (q0 := 0) rfl rfl) rfl rfl hl.1 rfl (lv_room (Nat.le_of_ble_eq_true rfl)) dX1_best_32 ⟨Nat.le_of_ble_eq_true rfl, Nat.le_of_ble_eq_true rfl⟩) hS (fun q _ h => hFc q h) hFc (fun r_3 u t H_3 locs ht hvm hw hB hz1 hk1 hS => ?_)
        obtain ⟨co1_3, pl1_3, st1_3, jo1_3, cn1_3, ii1_3, fi1_3, fe1_3, U1_3⟩ := u
        try dsimp only at hw hB
        have hw_3 := hw
        obtain ⟨hw0_3, hw1_3⟩ := hw_3
        replace hw1_3 := hw1_3.symm
        subst hw1_3
        obtain ⟨hP1, hD1⟩ := hB
        rw [ht] at hP1
        obtain ⟨hP, hD⟩ := va_join (wr := []) (w1 := [(kl, .inr (1, [.ref aK, .ref aF, .ref aS, .ref aB, .int (nI n), .ref rk])), (aK, .inl (cI, 60, .inl K)), (aF, .inl (cI, 60, .inl F)), (aS, .inl (cI, 60, .inl S)), (aB, .inl (cZ, 60, .inl B)), (rk, .inr (0, [.ref aL, .ref aT, .ref aU, .int co1_3, .int pl1_3, .int st1_3, .int jo1_3, .int cn1_3, .int ii1_3, .int fi1_3, .int fe1_3])), (aL, .inl (cI, 4, .inl L)), (aT, .inl (cI, 4, .inl T)), (aU, .inl (cI, 6, .inl U1_3))]) hP hD [0, 1, 2, 3, 4, 5, 6, 7, 8] [] rfl rfl (by decide) (by decide) hk1 hFc hP1 hD1
        have hP : va_P (dC, dI) vwCl [(kl, .inr (1, [.ref aK, .ref aF, .ref aS, .ref aB, .int (nI n), .ref rk])), (aK, .inl (cI, 60, .inl K)), (aF, .inl (cI, 60, .inl F)), (aS, .inl (cI, 60, .inl S)), (aB, .inl (cZ, 60, .inl B)), (rk, .inr (0, [.ref aL, .ref aT, .ref aU, .int co1_3, .int pl1_3, .int st1_3, .int jo1_3, .int cn1_3, .int ii1_3, .int fi1_3, .int fe1_3])), (aL, .inl (cI, 4, .inl L)), (aT, .inl (cI, 4, .inl T)), (aU, .inl (cI, 6, .inl U1_3))] H_3 := hP
        have hD : va_D A [(kl, .inr (1, [.ref aK, .ref aF, .ref aS, .ref aB, .int (nI n), .ref rk])), (aK, .inl (cI, 60, .inl K)), (aF, .inl (cI, 60, .inl F)), (aS, .inl (cI, 60, .inl S)), (aB, .inl (cZ, 60, .inl B)), (rk, .inr (0, [.ref aL, .ref aT, .ref aU, .int co1_3, .int pl1_3, .int st1_3, .int jo1_3, .int cn1_3, .int ii1_3, .int fi1_3, .int fe1_3])), (aL, .inl (cI, 4, .inl L)), (aT, .inl (cI, 4, .inl T)), (aU, .inl (cI, 6, .inl U1_3))] := hD
        refine lv_istore (lv' := [(4, .int co1_3), (1, .int be), (2, .int mo), (3, .int (nI i)), (0, .ref kl)]) hx hb dX1_best_35 hl (by decide) rfl (fun ls hl => ?_)
        refine lv_iload hx hb dX1_best_37 (lv_at hl 0 rfl) ?_
        refine lv_iload_n hx hb dX1_best_39 rfl (lv_at hl 2 rfl) ?_
        refine lv_icmp_le (tgt := 48) hx hb dX1_best_40 (by decide) (fun c_40 => ?_) (fun c_40 => ?_)
        · -- 40
          refine lv_iinc (v := nI (i + 1)) (lv' := [(3, .int (nI (i + 1))), (4, .int co1_3), (1, .int be), (2, .int mo), (0, .ref kl)]) hx hb dX1_best_48 hl (k := 3) rfl (nI_1 _) (by decide) rfl (fun ls hl => ?_)
          refine lv_goto (tgt := 10) hx hb dX1_best_51 (by decide) ?_
          exact ih_10 (i + 1) be mo co1_3 pl1_3 st1_3 jo1_3 cn1_3 ii1_3 fi1_3 fe1_3 U1_3 _ _ _ (by omega) (by rw [best_keep c_24 (by rw [← hs, ← aCo_of hX hw0_3]; exact c_40)]; exact hs) (by omega) hP hD hS (lv_sub hl [2, 3, 0, 4] rfl)
        · -- 40
          refine lv_iload hx hb dX1_best_43 (lv_at hl 0 rfl) ?_
          refine lv_istore_n (lv' := [(2, .int co1_3), (4, .int co1_3), (1, .int be), (3, .int (nI i)), (0, .ref kl)]) hx hb dX1_best_45 rfl hl (by decide) rfl (fun ls hl => ?_)
          refine lv_iload_n hx hb dX1_best_46 rfl (lv_at hl 3 rfl) ?_
          refine lv_istore_n (lv' := [(1, .int (nI i)), (2, .int co1_3), (4, .int co1_3), (3, .int (nI i)), (0, .ref kl)]) hx hb dX1_best_47 rfl hl (by decide) rfl (fun ls hl => ?_)
          refine lv_iinc (v := nI (i + 1)) (lv' := [(3, .int (nI (i + 1))), (1, .int (nI i)), (2, .int co1_3), (4, .int co1_3), (0, .ref kl)]) hx hb dX1_best_48 hl (k := 3) rfl (nI_1 _) (by decide) rfl (fun ls hl => ?_)
          refine lv_goto (tgt := 10) hx hb dX1_best_51 (by decide) ?_
          exact ih_10 (i + 1) (nI i) co1_3 co1_3 pl1_3 st1_3 jo1_3 cn1_3 ii1_3 fi1_3 fe1_3 U1_3 _ _ _ (by omega) (by rw [best_new c_24 (by rw [← hs, ← aCo_of hX hw0_3]; exact c_40), ← aCo_of hX hw0_3]) (by omega) hP hD hS (lv_sub hl [1, 2, 0, 4] rfl)
      · -- 24
        refine lv_goto (tgt := 48) hx hb dX1_best_27 (by decide) ?_
        refine lv_iinc (v := nI (i + 1)) (lv' := [(3, .int (nI (i + 1))), (1, .int be), (2, .int mo), (0, .ref kl)]) hx hb dX1_best_48 hl (k := 2) rfl (nI_1 _) (by decide) rfl (fun ls hl => ?_)
        refine lv_goto (tgt := 10) hx hb dX1_best_51 (by decide) ?_
        exact ih_10 (i + 1) be mo co2 pl2 st2 jo2 cn2 ii2 fi2 fe2 U2 _ _ _ (by omega) (by rw [best_skip c_24]; exact hs) (by omega) hP hD hS (lv_sub hl [1, 2, 0, 3] rfl)

set_option maxHeartbeats 4000000 in
set_option maxRecDepth 100000 in
theorem c_X1_mean (l : Launch) (dC : Nat → ClassId) (dI : Nat → Nat → Nat) (cI cZ : ClassId) (kl aK aF aS aB rk aL aT aU : Nat) (sz : Nat)  (L : N2I) (T : N2I) (K : N2I) (F : N2I) (S : N2I) (B : N2I) (U : N2I) (n : Nat) (co : Int32) (pl : Int32) (st : Int32) (jo : Int32) (cn : Int32) (ii : Int32) (fi : Int32) (fe : Int32) (hX : okX K F S B n) : Met l yX1_mean wsX1_mean ({ frames := 7, cells := 0, slots := 0, locals := 152 } : Room) (va_Pc [.ref kl] (pn_  (dC, dI) [(cI, .int), (cZ, .boolean)] [(kl, .inr (1, [.ref aK, .ref aF, .ref aS, .ref aB, .int (nI n), .ref rk])), (aK, .inl (cI, 60, .inl K)), (aF, .inl (cI, 60, .inl F)), (aS, .inl (cI, 60, .inl S)), (aB, .inl (cZ, 60, .inl B)), (rk, .inr (0, [.ref aL, .ref aT, .ref aU, .int co, .int pl, .int st, .int jo, .int cn, .int ii, .int fi, .int fe])), (aL, .inl (cI, 4, .inl L)), (aT, .inl (cI, 4, .inl T)), (aU, .inl (cI, 6, .inl U))] sz)) (va_Qd (fun (r : UInt64) (u : Int32 × Int32 × Int32 × Int32 × Int32 × Int32 × Int32 × Int32 × N2I) => r = aMean (cRec L T K F S B n)) (fun (u : Int32 × Int32 × Int32 × Int32 × Int32 × Int32 × Int32 × Int32 × N2I) (t : State) => va_P (dC, dI) vwCl [(kl, .inr (1, [.ref aK, .ref aF, .ref aS, .ref aB, .int (nI n), .ref rk])), (aK, .inl (cI, 60, .inl K)), (aF, .inl (cI, 60, .inl F)), (aS, .inl (cI, 60, .inl S)), (aB, .inl (cZ, 60, .inl B)), (rk, .inr (0, [.ref aL, .ref aT, .ref aU, .int u.1, .int u.2.1, .int u.2.2.1, .int u.2.2.2.1, .int u.2.2.2.2.1, .int u.2.2.2.2.2.1, .int u.2.2.2.2.2.2.1, .int u.2.2.2.2.2.2.2.1])), (aL, .inl (cI, 4, .inl L)), (aT, .inl (cI, 4, .inl T)), (aU, .inl (cI, 6, .inl u.2.2.2.2.2.2.2.2))] t.heap ∧ va_D (va_A [(kl, .inr (1, [.ref aK, .ref aF, .ref aS, .ref aB, .int (nI n), .ref rk])), (aK, .inl (cI, 60, .inl K)), (aF, .inl (cI, 60, .inl F)), (aS, .inl (cI, 60, .inl S)), (aB, .inl (cZ, 60, .inl B)), (rk, .inr (0, [.ref aL, .ref aT, .ref aU, .int co, .int pl, .int st, .int jo, .int cn, .int ii, .int fi, .int fe])), (aL, .inl (cI, 4, .inl L)), (aT, .inl (cI, 4, .inl T)), (aU, .inl (cI, 6, .inl U))] sz) [(kl, .inr (1, [.ref aK, .ref aF, .ref aS, .ref aB, .int (nI n), .ref rk])), (aK, .inl (cI, 60, .inl K)), (aF, .inl (cI, 60, .inl F)), (aS, .inl (cI, 60, .inl S)), (aB, .inl (cZ, 60, .inl B)), (rk, .inr (0, [.ref aL, .ref aT, .ref aU, .int u.1, .int u.2.1, .int u.2.2.1, .int u.2.2.2.1, .int u.2.2.2.2.1, .int u.2.2.2.2.2.1, .int u.2.2.2.2.2.2.1, .int u.2.2.2.2.2.2.2.1])), (aL, .inl (cI, 4, .inl L)), (aT, .inl (cI, 4, .inl T)), (aU, .inl (cI, 6, .inl u.2.2.2.2.2.2.2.2))]) (va_A [(kl, .inr (1, [.ref aK, .ref aF, .ref aS, .ref aB, .int (nI n), .ref rk])), (aK, .inl (cI, 60, .inl K)), (aF, .inl (cI, 60, .inl F)), (aS, .inl (cI, 60, .inl S)), (aB, .inl (cZ, 60, .inl B)), (rk, .inr (0, [.ref aL, .ref aT, .ref aU, .int co, .int pl, .int st, .int jo, .int cn, .int ii, .int fi, .int fe])), (aL, .inl (cI, 4, .inl L)), (aT, .inl (cI, 4, .inl T)), (aU, .inl (cI, 6, .inl U))] sz)) 0 0 (va_A [(kl, .inr (1, [.ref aK, .ref aF, .ref aS, .ref aB, .int (nI n), .ref rk])), (aK, .inl (cI, 60, .inl K)), (aF, .inl (cI, 60, .inl F)), (aS, .inl (cI, 60, .inl S)), (aB, .inl (cZ, 60, .inl B)), (rk, .inr (0, [.ref aL, .ref aT, .ref aU, .int co, .int pl, .int st, .int jo, .int cn, .int ii, .int fi, .int fe])), (aL, .inl (cI, 4, .inl L)), (aT, .inl (cI, 4, .inl T)), (aU, .inl (cI, 6, .inl U))] sz) := by
  refine Met.ofW (cc := cX1_mean) (maxL := 1) (ret := (some .double)) (by decide) rfl ?_
  intro p e s m args below meth c s₁ BB hml hv
  obtain ⟨rfl, hsz, hP, hK, hD0, hN⟩ := hv
  have hx := BB.exec
  have hb := BB.bytes
  have hr := BB.returns
  have hts := atoms_spec (ws := wsX1_mean) BB.pre
  have hown : s.vm.findClass RX1 = some m.cls := findClass_of_methodNamed BB.named
  have hlocks := BB.notSynchronized
  subst hsz
  have hD := hD0.self (sz := s.heap.size)
  generalize hAe : va_A [(kl, .inr (1, [.ref aK, .ref aF, .ref aS, .ref aB, .int (nI n), .ref rk])), (aK, .inl (cI, 60, .inl K)), (aF, .inl (cI, 60, .inl F)), (aS, .inl (cI, 60, .inl S)), (aB, .inl (cZ, 60, .inl B)), (rk, .inr (0, [.ref aL, .ref aT, .ref aU, .int co, .int pl, .int st, .int jo, .int cn, .int ii, .int fi, .int fe])), (aL, .inl (cI, 4, .inl L)), (aT, .inl (cI, 4, .inl T)), (aU, .inl (cI, 6, .inl U))] s.heap.size = A at hD ⊢
  have hA : ∀ q : Nat, s.heap.size ≤ q → A q := fun q h => by rw [← hAe]; exact Or.inr h
  have hS : va_S A s.heap s.heap [] := va_S.rf
  have hP : va_P (dC, dI) vwCl [(kl, .inr (1, [.ref aK, .ref aF, .ref aS, .ref aB, .int (nI n), .ref rk])), (aK, .inl (cI, 60, .inl K)), (aF, .inl (cI, 60, .inl F)), (aS, .inl (cI, 60, .inl S)), (aB, .inl (cZ, 60, .inl B)), (rk, .inr (0, [.ref aL, .ref aT, .ref aU, .int co, .int pl, .int st, .int jo, .int cn, .int ii, .int fi, .int fe])), (aL, .inl (cI, 4, .inl L)), (aT, .inl (cI, 4, .inl T)), (aU, .inl (cI, 6, .inl U))] s.heap := hP
  have hl := lv_entry ([.ref kl]) (n := 1) (Nat.le_of_ble_eq_true rfl)
  rw [lg_entry_eq]
  generalize (lg_sl ([.ref kl]) ++ List.replicate (1 - (lg_sl ([.ref kl])).length) Slot.unset).toArray = ls at hl ⊢
  have hl : lv_has ls 1 [(0, .ref kl)] := hl
  have k0 := hts (.fieldLink RX1 23 "KnifeLedger" "size" "I") (by decide +kernel)
  have hinX1 : ∀ w ∈ wsX10, w ∈ wsX1_mean := by decide +kernel
  have k2 := hts (.fieldLink RX1 30 "KnifeLedger" "reckoning" "LKnifeLedger$Reckoning;") (by decide +kernel)
  have hinX0 : ∀ w ∈ wsX00, w ∈ wsX1_mean := by decide +kernel
  have k4 := hts (.initialized RX0) (by decide +kernel)
  have k5 := hts (.instanceMethod yX0_trustOfAll) (by decide +kernel)
  have k6 := hts (.selects RX0 yX0_trustOfAll yX0_trustOfAll) (by decide +kernel)
  have hn6 : n ≤ 60 := hX.1
  refine lv_aload_n hx hb dX1_mean_0 rfl (lv_at hl 0 rfl) ?_
  refine lv_aload_n hx hb dX1_mean_1 rfl (lv_at hl 0 rfl) ?_
  refine va_get (D := (dC, dI)) (ci := 1) (v := .int (nI n)) (C := RX1) (T := TX1) (N := 6) hx hb hts hinX1 hown hK hP 0 rfl rfl 4 (by decide) k0 (fun _ h9 => h9) rfl dX1_mean_2 ?_
  refine lv_iconst (v := (-1)) hx hb dX1_mean_5 (by decide) ?_
  have hPc := hP.sub (ws' := [(kl, .inr (1, [.ref aK, .ref aF, .ref aS, .ref aB, .int (nI n), .ref rk])), (aK, .inl (cI, 60, .inl K)), (aF, .inl (cI, 60, .inl F)), (aS, .inl (cI, 60, .inl S)), (aB, .inl (cZ, 60, .inl B)), (rk, .inr (0, [.ref aL, .ref aT, .ref aU, .int co, .int pl, .int st, .int jo, .int cn, .int ii, .int fi, .int fe])), (aL, .inl (cI, 4, .inl L)), (aT, .inl (cI, 4, .inl T)), (aU, .inl (cI, 6, .inl U))]) [0, 1, 2, 3, 4, 5, 6, 7, 8] rfl
  have hDc := hD.sub (ws' := [(kl, .inr (1, [.ref aK, .ref aF, .ref aS, .ref aB, .int (nI n), .ref rk])), (aK, .inl (cI, 60, .inl K)), (aF, .inl (cI, 60, .inl F)), (aS, .inl (cI, 60, .inl S)), (aB, .inl (cZ, 60, .inl B)), (rk, .inr (0, [.ref aL, .ref aT, .ref aU, .int co, .int pl, .int st, .int jo, .int cn, .int ii, .int fi, .int fe])), (aL, .inl (cI, 4, .inl L)), (aT, .inl (cI, 4, .inl T)), (aU, .inl (cI, 6, .inl U))]) [0, 1, 2, 3, 4, 5, 6, 7, 8] (by decide) rfl
  have hKc := hK.sub (tys' := [(cI, .int), (cZ, .boolean)]) [0, 1] rfl
  have hFc := va_free (wc := [(kl, .inr (1, [.ref aK, .ref aF, .ref aS, .ref aB, .int (nI n), .ref rk])), (aK, .inl (cI, 60, .inl K)), (aF, .inl (cI, 60, .inl F)), (aS, .inl (cI, 60, .inl S)), (aB, .inl (cZ, 60, .inl B)), (rk, .inr (0, [.ref aL, .ref aT, .ref aU, .int co, .int pl, .int st, .int jo, .int cn, .int ii, .int fi, .int fe])), (aL, .inl (cI, 4, .inl L)), (aT, .inl (cI, 4, .inl T)), (aU, .inl (cI, 6, .inl U))]) hD hS hA [0, 1, 2, 3, 4, 5, 6, 7, 8] rfl
  refine va_callv (va_runV (As := [.int (nI n), .int (-1)]) (rest := []) ⟨hx, hb, hml, hown, hts⟩ (c_X1_reckon l dC dI cI cZ kl aK aF aS aB rk aL aT aU s.heap.size L T K F S B U n co pl st jo cn ii fi fe n (-1) (hX) (Nat.le_refl n)) (cwV 2 hts gX1_mean_X1_reckon rfl rfl rfl (by decide +kernel) ⟨Nat.le_of_ble_eq_true rfl, Nat.le_of_ble_eq_true rfl⟩) (pn_V hN hKc hPc hDc (ci := 1) (C := RX1) (T := TX1) (N := 6) (q0 := 0) rfl rfl) rfl rfl hl.1 rfl (lv_room (Nat.le_of_ble_eq_true rfl)) dX1_mean_6 ⟨Nat.le_of_ble_eq_true rfl, Nat.le_of_ble_eq_true rfl⟩) hS (fun q _ h => hFc q h) hFc (fun u t H_1 locs ht hvm hw hB hz1 hk1 hS => ?_)
  obtain ⟨co1_1, pl1_1, st1_1, jo1_1, cn1_1, ii1_1, fi1_1, fe1_1, U1_1⟩ := u
  try dsimp only at hw hB
  have hw_1 := hw
  obtain ⟨hP1, hD1⟩ := hB
  rw [ht] at hP1
  obtain ⟨hP, hD⟩ := va_join (wr := []) (w1 := [(kl, .inr (1, [.ref aK, .ref aF, .ref aS, .ref aB, .int (nI n), .ref rk])), (aK, .inl (cI, 60, .inl K)), (aF, .inl (cI, 60, .inl F)), (aS, .inl (cI, 60, .inl S)), (aB, .inl (cZ, 60, .inl B)), (rk, .inr (0, [.ref aL, .ref aT, .ref aU, .int co1_1, .int pl1_1, .int st1_1, .int jo1_1, .int cn1_1, .int ii1_1, .int fi1_1, .int fe1_1])), (aL, .inl (cI, 4, .inl L)), (aT, .inl (cI, 4, .inl T)), (aU, .inl (cI, 6, .inl U1_1))]) hP hD [0, 1, 2, 3, 4, 5, 6, 7, 8] [] rfl rfl (by decide) (by decide) hk1 hFc hP1 hD1
  have hP : va_P (dC, dI) vwCl [(kl, .inr (1, [.ref aK, .ref aF, .ref aS, .ref aB, .int (nI n), .ref rk])), (aK, .inl (cI, 60, .inl K)), (aF, .inl (cI, 60, .inl F)), (aS, .inl (cI, 60, .inl S)), (aB, .inl (cZ, 60, .inl B)), (rk, .inr (0, [.ref aL, .ref aT, .ref aU, .int co1_1, .int pl1_1, .int st1_1, .int jo1_1, .int cn1_1, .int ii1_1, .int fi1_1, .int fe1_1])), (aL, .inl (cI, 4, .inl L)), (aT, .inl (cI, 4, .inl T)), (aU, .inl (cI, 6, .inl U1_1))] H_1 := hP
  have hD : va_D A [(kl, .inr (1, [.ref aK, .ref aF, .ref aS, .ref aB, .int (nI n), .ref rk])), (aK, .inl (cI, 60, .inl K)), (aF, .inl (cI, 60, .inl F)), (aS, .inl (cI, 60, .inl S)), (aB, .inl (cZ, 60, .inl B)), (rk, .inr (0, [.ref aL, .ref aT, .ref aU, .int co1_1, .int pl1_1, .int st1_1, .int jo1_1, .int cn1_1, .int ii1_1, .int fi1_1, .int fe1_1])), (aL, .inl (cI, 4, .inl L)), (aT, .inl (cI, 4, .inl T)), (aU, .inl (cI, 6, .inl U1_1))] := hD
  rw [mRec_noFl (by omega)] at hw_1
  refine lv_aload_n hx hb dX1_mean_9 rfl (lv_at hl 0 rfl) ?_
  refine va_get (D := (dC, dI)) (ci := 1) (v := .ref rk) (C := RX1) (T := TX1) (N := 6) hx hb hts hinX1 hown hK hP 0 rfl rfl 5 (by decide) k2 (fun _ h9 => h9) rfl dX1_mean_10 ?_
  refine va_getN (D := (dC, dI)) (ci := 0) (v := .int jo1_1) (C := RX0) (T := TX0) (N := 11) hx hb hts hinX0 hown hK hP 5 rfl rfl 6 (by decide) (nw_use hN (by decide +kernel) : (Cond.fieldLinkNest RX1 78 "KnifeLedger$Reckoning" "joined" "I" "KnifeLedger").before _ _ = true) (fun _ h9 => h9) rfl dX1_mean_13 ?_
  refine lv_if_ne (tgt := 21) hx hb dX1_mean_16 (by decide) (fun c_16 => ?_) (fun c_16 => ?_)
  · -- 16
    obtain ⟨-, -, j9, hj9, hj96⟩ := okX_hap hX (Nat.le_refl n) hw_1
    refine lv_aload_n hx hb dX1_mean_21 rfl (lv_at hl 0 rfl) ?_
    refine va_get (D := (dC, dI)) (ci := 1) (v := .ref rk) (C := RX1) (T := TX1) (N := 6) hx hb hts hinX1 hown hK hP 0 rfl rfl 5 (by decide) k2 (fun _ h9 => h9) rfl dX1_mean_22 ?_
    have hPc := hP.sub (ws' := [(rk, .inr (0, [.ref aL, .ref aT, .ref aU, .int co1_1, .int pl1_1, .int st1_1, .int jo1_1, .int cn1_1, .int ii1_1, .int fi1_1, .int fe1_1])), (aL, .inl (cI, 4, .inl L)), (aT, .inl (cI, 4, .inl T)), (aU, .inl (cI, 6, .inl U1_1))]) [5, 6, 7, 8] rfl
    have hDc := hD.sub (ws' := [(rk, .inr (0, [.ref aL, .ref aT, .ref aU, .int co1_1, .int pl1_1, .int st1_1, .int jo1_1, .int cn1_1, .int ii1_1, .int fi1_1, .int fe1_1])), (aL, .inl (cI, 4, .inl L)), (aT, .inl (cI, 4, .inl T)), (aU, .inl (cI, 6, .inl U1_1))]) [5, 6, 7, 8] (by decide) rfl
    have hKc := hK.sub (tys' := [(cI, .int)]) [0] rfl
    have hFc := va_free (wc := [(rk, .inr (0, [.ref aL, .ref aT, .ref aU, .int co1_1, .int pl1_1, .int st1_1, .int jo1_1, .int cn1_1, .int ii1_1, .int fi1_1, .int fe1_1])), (aL, .inl (cI, 4, .inl L)), (aT, .inl (cI, 4, .inl T)), (aU, .inl (cI, 6, .inl U1_1))]) hD hS hA [5, 6, 7, 8] rfl
    refine va_calli (va_runVN (As := []) (rest := []) ⟨hx, hb, hml, hown, hts⟩ (c_X0_trustOfAll l dC dI cI rk aL aT aU H_1.size L T U1_1 co1_1 pl1_1 st1_1 jo1_1 cn1_1 ii1_1 fi1_1 fe1_1 j9 (hj9) (hj96)) ⟨va_cnB (host := "KnifeLedger") 0 hts gX1_mean_X0_trustOfAll_n81 rfl rfl rfl (nw_use0 hN (by decide +kernel)) k4 (by decide +kernel) ⟨Nat.le_of_ble_eq_true rfl, Nat.le_of_ble_eq_true rfl⟩, k5, k6⟩ (pc_V hKc hPc hDc (ci := 0) (C := RX0) (T := TX0) (N := 11) (q0 := 0) rfl rfl) rfl rfl hl.1 rfl (lv_room (Nat.le_of_ble_eq_true rfl)) dX1_mean_25 ⟨Nat.le_of_ble_eq_true rfl, Nat.le_of_ble_eq_true rfl⟩) hS (fun q _ h => hFc q h) hFc (fun r_2 u t H_2 locs ht hvm hw hB hz1 hk1 hS => ?_)
    try dsimp only at hw hB
    have hw_2 := hw
    replace hw_2 := hw_2.symm
    subst hw_2
    obtain ⟨hP1, hD1⟩ := hB
    rw [ht] at hP1
    obtain ⟨hP, hD⟩ := va_join (wr := [(kl, .inr (1, [.ref aK, .ref aF, .ref aS, .ref aB, .int (nI n), .ref rk])), (aK, .inl (cI, 60, .inl K)), (aF, .inl (cI, 60, .inl F)), (aS, .inl (cI, 60, .inl S)), (aB, .inl (cZ, 60, .inl B))]) (w1 := [(rk, .inr (0, [.ref aL, .ref aT, .ref aU, .int co1_1, .int pl1_1, .int st1_1, .int jo1_1, .int cn1_1, .int ii1_1, .int fi1_1, .int fe1_1])), (aL, .inl (cI, 4, .inl L)), (aT, .inl (cI, 4, .inl T)), (aU, .inl (cI, 6, .inl U1_1))]) hP hD [5, 6, 7, 8] [0, 1, 2, 3, 4] rfl rfl (by decide) (by decide) hk1 hFc hP1 hD1
    have hP : va_P (dC, dI) vwCl [(kl, .inr (1, [.ref aK, .ref aF, .ref aS, .ref aB, .int (nI n), .ref rk])), (aK, .inl (cI, 60, .inl K)), (aF, .inl (cI, 60, .inl F)), (aS, .inl (cI, 60, .inl S)), (aB, .inl (cZ, 60, .inl B)), (rk, .inr (0, [.ref aL, .ref aT, .ref aU, .int co1_1, .int pl1_1, .int st1_1, .int jo1_1, .int cn1_1, .int ii1_1, .int fi1_1, .int fe1_1])), (aL, .inl (cI, 4, .inl L)), (aT, .inl (cI, 4, .inl T)), (aU, .inl (cI, 6, .inl U1_1))] H_2 := hP
    have hD : va_D A [(kl, .inr (1, [.ref aK, .ref aF, .ref aS, .ref aB, .int (nI n), .ref rk])), (aK, .inl (cI, 60, .inl K)), (aF, .inl (cI, 60, .inl F)), (aS, .inl (cI, 60, .inl S)), (aB, .inl (cZ, 60, .inl B)), (rk, .inr (0, [.ref aL, .ref aT, .ref aU, .int co1_1, .int pl1_1, .int st1_1, .int jo1_1, .int cn1_1, .int ii1_1, .int fi1_1, .int fe1_1])), (aL, .inl (cI, 4, .inl L)), (aT, .inl (cI, 4, .inl T)), (aU, .inl (cI, 6, .inl U1_1))] := hD
    refine lv_i2d hx hb dX1_mean_28 ?_
    refine lv_aload_n hx hb dX1_mean_29 rfl (lv_at hl 0 rfl) ?_
    refine va_get (D := (dC, dI)) (ci := 1) (v := .ref rk) (C := RX1) (T := TX1) (N := 6) hx hb hts hinX1 hown hK hP 0 rfl rfl 5 (by decide) k2 (fun _ h9 => h9) rfl dX1_mean_30 ?_
    refine va_getN (D := (dC, dI)) (ci := 0) (v := .int jo1_1) (C := RX0) (T := TX0) (N := 11) hx hb hts hinX0 hown hK hP 5 rfl rfl 6 (by decide) (nw_use hN (by decide +kernel) : (Cond.fieldLinkNest RX1 78 "KnifeLedger$Reckoning" "joined" "I" "KnifeLedger").before _ _ = true) (fun _ h9 => h9) rfl dX1_mean_33 ?_
    refine lv_i2d hx hb dX1_mean_36 ?_
    refine lv_ddiv hx hb dX1_mean_37 (mean_n64 _ _ c_16) ?_
    have hpost : (FP.ddiv (FP.i2d (mSum U1_1 j9)) (FP.i2d jo1_1)) = aMean (cRec L T K F S B n) := by
      rw [← ans_of aMean_sim hX (Nat.le_refl n) hw_1]
      simp only [aMean, if_neg c_16]
      rw [hj9, nI_clamp (by omega)]
    have hP9 := hP.sub (ws' := [(kl, .inr (1, [.ref aK, .ref aF, .ref aS, .ref aB, .int (nI n), .ref rk])), (aK, .inl (cI, 60, .inl K)), (aF, .inl (cI, 60, .inl F)), (aS, .inl (cI, 60, .inl S)), (aB, .inl (cZ, 60, .inl B)), (rk, .inr (0, [.ref aL, .ref aT, .ref aU, .int co1_1, .int pl1_1, .int st1_1, .int jo1_1, .int cn1_1, .int ii1_1, .int fi1_1, .int fe1_1])), (aL, .inl (cI, 4, .inl L)), (aT, .inl (cI, 4, .inl T)), (aU, .inl (cI, 6, .inl U1_1))]) [0, 1, 2, 3, 4, 5, 6, 7, 8] rfl
    have hD9 := hD.sub (ws' := [(kl, .inr (1, [.ref aK, .ref aF, .ref aS, .ref aB, .int (nI n), .ref rk])), (aK, .inl (cI, 60, .inl K)), (aF, .inl (cI, 60, .inl F)), (aS, .inl (cI, 60, .inl S)), (aB, .inl (cZ, 60, .inl B)), (rk, .inr (0, [.ref aL, .ref aT, .ref aU, .int co1_1, .int pl1_1, .int st1_1, .int jo1_1, .int cn1_1, .int ii1_1, .int fi1_1, .int fe1_1])), (aL, .inl (cI, 4, .inl L)), (aT, .inl (cI, 4, .inl T)), (aU, .inl (cI, 6, .inl U1_1))]) [0, 1, 2, 3, 4, 5, 6, 7, 8] (by decide) rfl
    exact W.dret (v := FP.ddiv (FP.i2d (mSum U1_1 j9)) (FP.i2d jo1_1)) hx hb hr (fun t ht hW => ⟨⟨(FP.ddiv (FP.i2d (mSum U1_1 j9)) (FP.i2d jo1_1)), (co1_1, pl1_1, st1_1, jo1_1, cn1_1, ii1_1, fi1_1, fe1_1, U1_1), rfl, hpost, by rw [ht]; exact hP9, hD9⟩, hS.F ht⟩) hS.2.2 dX1_mean_38
  · -- 16
    refine lv_dconst0 hx hb dX1_mean_19 ?_
    have hpost : FP.dconst0 = aMean (cRec L T K F S B n) := by
      rw [← ans_of aMean_sim hX (Nat.le_refl n) hw_1]
      simp only [aMean, if_pos c_16]
    have hP9 := hP.sub (ws' := [(kl, .inr (1, [.ref aK, .ref aF, .ref aS, .ref aB, .int (nI n), .ref rk])), (aK, .inl (cI, 60, .inl K)), (aF, .inl (cI, 60, .inl F)), (aS, .inl (cI, 60, .inl S)), (aB, .inl (cZ, 60, .inl B)), (rk, .inr (0, [.ref aL, .ref aT, .ref aU, .int co1_1, .int pl1_1, .int st1_1, .int jo1_1, .int cn1_1, .int ii1_1, .int fi1_1, .int fe1_1])), (aL, .inl (cI, 4, .inl L)), (aT, .inl (cI, 4, .inl T)), (aU, .inl (cI, 6, .inl U1_1))]) [0, 1, 2, 3, 4, 5, 6, 7, 8] rfl
    have hD9 := hD.sub (ws' := [(kl, .inr (1, [.ref aK, .ref aF, .ref aS, .ref aB, .int (nI n), .ref rk])), (aK, .inl (cI, 60, .inl K)), (aF, .inl (cI, 60, .inl F)), (aS, .inl (cI, 60, .inl S)), (aB, .inl (cZ, 60, .inl B)), (rk, .inr (0, [.ref aL, .ref aT, .ref aU, .int co1_1, .int pl1_1, .int st1_1, .int jo1_1, .int cn1_1, .int ii1_1, .int fi1_1, .int fe1_1])), (aL, .inl (cI, 4, .inl L)), (aT, .inl (cI, 4, .inl T)), (aU, .inl (cI, 6, .inl U1_1))]) [0, 1, 2, 3, 4, 5, 6, 7, 8] (by decide) rfl
    exact W.dret (v := FP.dconst0) hx hb hr (fun t ht hW => ⟨⟨FP.dconst0, (co1_1, pl1_1, st1_1, jo1_1, cn1_1, ii1_1, fi1_1, fe1_1, U1_1), rfl, hpost, by rw [ht]; exact hP9, hD9⟩, hS.F ht⟩) hS.2.2 dX1_mean_20

set_option maxHeartbeats 4000000 in
set_option maxRecDepth 100000 in
theorem c_X1_shift (l : Launch) (dC : Nat → ClassId) (dI : Nat → Nat → Nat) (cI cZ : ClassId) (kl aK aF aS aB rk aL aT aU : Nat) (sz : Nat) (L : N2I) (T : N2I) (K : N2I) (F : N2I) (S : N2I) (B : N2I) (U : N2I) (n : Nat) (co : Int32) (pl : Int32) (st : Int32) (jo : Int32) (cn : Int32) (ii : Int32) (fi : Int32) (fe : Int32) (i : Nat) (q : Nat) (hX : okX K F S B n) (hi : i < n) (hq : q < n) : Met l yX1_shift wsX1_shift ({ frames := 2, cells := 0, slots := 0, locals := 47 } : Room) (va_Pc [.ref kl, .int (nI i), .int (nI q)] (pc_ (dC, dI) [(cI, .int), (cZ, .boolean)] [(kl, .inr (1, [.ref aK, .ref aF, .ref aS, .ref aB, .int (nI n), .ref rk])), (aK, .inl (cI, 60, .inl K)), (aF, .inl (cI, 60, .inl F)), (aS, .inl (cI, 60, .inl S)), (aB, .inl (cZ, 60, .inl B)), (rk, .inr (0, [.ref aL, .ref aT, .ref aU, .int co, .int pl, .int st, .int jo, .int cn, .int ii, .int fi, .int fe])), (aL, .inl (cI, 4, .inl L)), (aT, .inl (cI, 4, .inl T)), (aU, .inl (cI, 6, .inl U))] sz)) (va_Qi (fun (r : Int32) (u : Unit) => r = K i) (fun (u : Unit) (t : State) => va_P (dC, dI) vwCl [(kl, .inr (1, [.ref aK, .ref aF, .ref aS, .ref aB, .int (nI n), .ref rk])), (aK, .inl (cI, 60, .inl (mvS K i q))), (aF, .inl (cI, 60, .inl (mvS F i q))), (aS, .inl (cI, 60, .inl (mvS S i q))), (aB, .inl (cZ, 60, .inl (mvS B i q))), (rk, .inr (0, [.ref aL, .ref aT, .ref aU, .int co, .int pl, .int st, .int jo, .int cn, .int ii, .int fi, .int fe])), (aL, .inl (cI, 4, .inl L)), (aT, .inl (cI, 4, .inl T)), (aU, .inl (cI, 6, .inl U))] t.heap ∧ va_D (va_A [(kl, .inr (1, [.ref aK, .ref aF, .ref aS, .ref aB, .int (nI n), .ref rk])), (aK, .inl (cI, 60, .inl K)), (aF, .inl (cI, 60, .inl F)), (aS, .inl (cI, 60, .inl S)), (aB, .inl (cZ, 60, .inl B)), (rk, .inr (0, [.ref aL, .ref aT, .ref aU, .int co, .int pl, .int st, .int jo, .int cn, .int ii, .int fi, .int fe])), (aL, .inl (cI, 4, .inl L)), (aT, .inl (cI, 4, .inl T)), (aU, .inl (cI, 6, .inl U))] sz) [(kl, .inr (1, [.ref aK, .ref aF, .ref aS, .ref aB, .int (nI n), .ref rk])), (aK, .inl (cI, 60, .inl (mvS K i q))), (aF, .inl (cI, 60, .inl (mvS F i q))), (aS, .inl (cI, 60, .inl (mvS S i q))), (aB, .inl (cZ, 60, .inl (mvS B i q))), (rk, .inr (0, [.ref aL, .ref aT, .ref aU, .int co, .int pl, .int st, .int jo, .int cn, .int ii, .int fi, .int fe])), (aL, .inl (cI, 4, .inl L)), (aT, .inl (cI, 4, .inl T)), (aU, .inl (cI, 6, .inl U))]) (va_A [(kl, .inr (1, [.ref aK, .ref aF, .ref aS, .ref aB, .int (nI n), .ref rk])), (aK, .inl (cI, 60, .inl K)), (aF, .inl (cI, 60, .inl F)), (aS, .inl (cI, 60, .inl S)), (aB, .inl (cZ, 60, .inl B)), (rk, .inr (0, [.ref aL, .ref aT, .ref aU, .int co, .int pl, .int st, .int jo, .int cn, .int ii, .int fi, .int fe])), (aL, .inl (cI, 4, .inl L)), (aT, .inl (cI, 4, .inl T)), (aU, .inl (cI, 6, .inl U))] sz)) 0 0 (va_A [(kl, .inr (1, [.ref aK, .ref aF, .ref aS, .ref aB, .int (nI n), .ref rk])), (aK, .inl (cI, 60, .inl K)), (aF, .inl (cI, 60, .inl F)), (aS, .inl (cI, 60, .inl S)), (aB, .inl (cZ, 60, .inl B)), (rk, .inr (0, [.ref aL, .ref aT, .ref aU, .int co, .int pl, .int st, .int jo, .int cn, .int ii, .int fi, .int fe])), (aL, .inl (cI, 4, .inl L)), (aT, .inl (cI, 4, .inl T)), (aU, .inl (cI, 6, .inl U))] sz) := by
  refine Met.ofW (cc := cX1_shift) (maxL := 5) (ret := (some .int)) (by decide) rfl ?_
  intro p e s m args below meth c s₁ BB hml hv
  obtain ⟨rfl, hsz, hP, hK, hD0⟩ := hv
  have hx := BB.exec
  have hb := BB.bytes
  have hr := BB.returns
  have hts := atoms_spec (ws := wsX1_shift) BB.pre
  have hown : s.vm.findClass RX1 = some m.cls := findClass_of_methodNamed BB.named
  have hlocks := BB.notSynchronized
  subst hsz
  have hD := hD0.self (sz := s.heap.size)
  generalize hAe : va_A [(kl, .inr (1, [.ref aK, .ref aF, .ref aS, .ref aB, .int (nI n), .ref rk])), (aK, .inl (cI, 60, .inl K)), (aF, .inl (cI, 60, .inl F)), (aS, .inl (cI, 60, .inl S)), (aB, .inl (cZ, 60, .inl B)), (rk, .inr (0, [.ref aL, .ref aT, .ref aU, .int co, .int pl, .int st, .int jo, .int cn, .int ii, .int fi, .int fe])), (aL, .inl (cI, 4, .inl L)), (aT, .inl (cI, 4, .inl T)), (aU, .inl (cI, 6, .inl U))] s.heap.size = A at hD ⊢
  have hA : ∀ q : Nat, s.heap.size ≤ q → A q := fun q h => by rw [← hAe]; exact Or.inr h
  have hS : va_S A s.heap s.heap [] := va_S.rf
  have hP : va_P (dC, dI) vwCl [(kl, .inr (1, [.ref aK, .ref aF, .ref aS, .ref aB, .int (nI n), .ref rk])), (aK, .inl (cI, 60, .inl K)), (aF, .inl (cI, 60, .inl F)), (aS, .inl (cI, 60, .inl S)), (aB, .inl (cZ, 60, .inl B)), (rk, .inr (0, [.ref aL, .ref aT, .ref aU, .int co, .int pl, .int st, .int jo, .int cn, .int ii, .int fi, .int fe])), (aL, .inl (cI, 4, .inl L)), (aT, .inl (cI, 4, .inl T)), (aU, .inl (cI, 6, .inl U))] s.heap := hP
  have hl := lv_entry ([.ref kl, .int (nI i), .int (nI q)]) (n := 5) (Nat.le_of_ble_eq_true rfl)
  rw [lg_entry_eq]
  generalize (lg_sl ([.ref kl, .int (nI i), .int (nI q)]) ++ List.replicate (5 - (lg_sl ([.ref kl, .int (nI i), .int (nI q)])).length) Slot.unset).toArray = ls at hl ⊢
  have hl : lv_has ls 5 [(0, .ref kl), (1, .int (nI i)), (2, .int (nI q))] := hl
  have k0 := hts (.fieldLink RX1 23 "KnifeLedger" "size" "I") (by decide +kernel)
  have hinX1 : ∀ w ∈ wsX10, w ∈ wsX1_shift := by decide +kernel
  have k2 := hts (.fieldLink RX1 9 "KnifeLedger" "kinds" "[I") (by decide +kernel)
  have hn6 : n ≤ 60 := hX.1
  refine lv_iload_n hx hb dX1_shift_0 rfl (lv_at hl 1 rfl) ?_
  refine lv_aload_n hx hb dX1_shift_1 rfl (lv_at hl 0 rfl) ?_
  refine va_get (D := (dC, dI)) (ci := 1) (v := .int (nI n)) (C := RX1) (T := TX1) (N := 6) hx hb hts hinX1 hown hK hP 0 rfl rfl 4 (by decide) k0 (fun _ h9 => h9) rfl dX1_shift_2 ?_
  have hPc := hP.sub (ws' := []) [] rfl
  have hDc := hD.sub (ws' := []) [] (by decide) rfl
  have hKc := hK.sub (tys' := []) [] rfl
  have hFc := va_free (wc := []) hD hS hA [] rfl
  refine va_callv (va_runS (As := [.int (nI i), .int (nI n)]) (rest := []) ⟨hx, hb, hml, hown, hts⟩ (c_X1_needIndex l dC dI s.heap.size (nI i) (nI n) (nI_pos (by omega)) (nI_lt hi (by omega))) (va_cwS 2 hts gX1_shift_X1_needIndex rfl rfl rfl (by decide +kernel) ⟨Nat.le_of_ble_eq_true rfl, Nat.le_of_ble_eq_true rfl⟩) (pc_S hKc hPc hDc) rfl rfl hl.1 rfl (lv_room (Nat.le_of_ble_eq_true rfl)) dX1_shift_5 ⟨Nat.le_of_ble_eq_true rfl, Nat.le_of_ble_eq_true rfl⟩) hS (fun q _ h => hFc q h) hFc (fun u t H_1 locs ht hvm hw hB hz1 hk1 hS => ?_)
  try dsimp only at hw hB
  have hw_1 := hw
  obtain ⟨hP1, hD1⟩ := hB
  rw [ht] at hP1
  obtain ⟨hP, hD⟩ := va_join (wr := [(kl, .inr (1, [.ref aK, .ref aF, .ref aS, .ref aB, .int (nI n), .ref rk])), (aK, .inl (cI, 60, .inl K)), (aF, .inl (cI, 60, .inl F)), (aS, .inl (cI, 60, .inl S)), (aB, .inl (cZ, 60, .inl B)), (rk, .inr (0, [.ref aL, .ref aT, .ref aU, .int co, .int pl, .int st, .int jo, .int cn, .int ii, .int fi, .int fe])), (aL, .inl (cI, 4, .inl L)), (aT, .inl (cI, 4, .inl T)), (aU, .inl (cI, 6, .inl U))]) (w1 := []) hP hD [] [0, 1, 2, 3, 4, 5, 6, 7, 8] rfl rfl (by decide) (by decide) hk1 hFc hP1 hD1
  have hP : va_P (dC, dI) vwCl [(kl, .inr (1, [.ref aK, .ref aF, .ref aS, .ref aB, .int (nI n), .ref rk])), (aK, .inl (cI, 60, .inl K)), (aF, .inl (cI, 60, .inl F)), (aS, .inl (cI, 60, .inl S)), (aB, .inl (cZ, 60, .inl B)), (rk, .inr (0, [.ref aL, .ref aT, .ref aU, .int co, .int pl, .int st, .int jo, .int cn, .int ii, .int fi, .int fe])), (aL, .inl (cI, 4, .inl L)), (aT, .inl (cI, 4, .inl T)), (aU, .inl (cI, 6, .inl U))] H_1 := hP
  have hD : va_D A [(kl, .inr (1, [.ref aK, .ref aF, .ref aS, .ref aB, .int (nI n), .ref rk])), (aK, .inl (cI, 60, .inl K)), (aF, .inl (cI, 60, .inl F)), (aS, .inl (cI, 60, .inl S)), (aB, .inl (cZ, 60, .inl B)), (rk, .inr (0, [.ref aL, .ref aT, .ref aU, .int co, .int pl, .int st, .int jo, .int cn, .int ii, .int fi, .int fe])), (aL, .inl (cI, 4, .inl L)), (aT, .inl (cI, 4, .inl T)), (aU, .inl (cI, 6, .inl U))] := hD
  refine lv_iload_n hx hb dX1_shift_8 rfl (lv_at hl 2 rfl) ?_
  refine lv_aload_n hx hb dX1_shift_9 rfl (lv_at hl 0 rfl) ?_
  refine va_get (D := (dC, dI)) (ci := 1) (v := .int (nI n)) (C := RX1) (T := TX1) (N := 6) hx hb hts hinX1 hown hK hP 0 rfl rfl 4 (by decide) k0 (fun _ h9 => h9) rfl dX1_shift_10 ?_
  have hPc := hP.sub (ws' := []) [] rfl
  have hDc := hD.sub (ws' := []) [] (by decide) rfl
  have hKc := hK.sub (tys' := []) [] rfl
  have hFc := va_free (wc := []) hD hS hA [] rfl
  refine va_callv (va_runS (As := [.int (nI q), .int (nI n)]) (rest := []) ⟨hx, hb, hml, hown, hts⟩ (c_X1_needIndex l dC dI H_1.size (nI q) (nI n) (nI_pos (by omega)) (nI_lt hq (by omega))) (va_cwS 2 hts gX1_shift_X1_needIndex rfl rfl rfl (by decide +kernel) ⟨Nat.le_of_ble_eq_true rfl, Nat.le_of_ble_eq_true rfl⟩) (pc_S hKc hPc hDc) rfl rfl hl.1 rfl (lv_room (Nat.le_of_ble_eq_true rfl)) dX1_shift_13 ⟨Nat.le_of_ble_eq_true rfl, Nat.le_of_ble_eq_true rfl⟩) hS (fun q _ h => hFc q h) hFc (fun u t H_2 locs ht hvm hw hB hz1 hk1 hS => ?_)
  try dsimp only at hw hB
  have hw_2 := hw
  obtain ⟨hP1, hD1⟩ := hB
  rw [ht] at hP1
  obtain ⟨hP, hD⟩ := va_join (wr := [(kl, .inr (1, [.ref aK, .ref aF, .ref aS, .ref aB, .int (nI n), .ref rk])), (aK, .inl (cI, 60, .inl K)), (aF, .inl (cI, 60, .inl F)), (aS, .inl (cI, 60, .inl S)), (aB, .inl (cZ, 60, .inl B)), (rk, .inr (0, [.ref aL, .ref aT, .ref aU, .int co, .int pl, .int st, .int jo, .int cn, .int ii, .int fi, .int fe])), (aL, .inl (cI, 4, .inl L)), (aT, .inl (cI, 4, .inl T)), (aU, .inl (cI, 6, .inl U))]) (w1 := []) hP hD [] [0, 1, 2, 3, 4, 5, 6, 7, 8] rfl rfl (by decide) (by decide) hk1 hFc hP1 hD1
  have hP : va_P (dC, dI) vwCl [(kl, .inr (1, [.ref aK, .ref aF, .ref aS, .ref aB, .int (nI n), .ref rk])), (aK, .inl (cI, 60, .inl K)), (aF, .inl (cI, 60, .inl F)), (aS, .inl (cI, 60, .inl S)), (aB, .inl (cZ, 60, .inl B)), (rk, .inr (0, [.ref aL, .ref aT, .ref aU, .int co, .int pl, .int st, .int jo, .int cn, .int ii, .int fi, .int fe])), (aL, .inl (cI, 4, .inl L)), (aT, .inl (cI, 4, .inl T)), (aU, .inl (cI, 6, .inl U))] H_2 := hP
  have hD : va_D A [(kl, .inr (1, [.ref aK, .ref aF, .ref aS, .ref aB, .int (nI n), .ref rk])), (aK, .inl (cI, 60, .inl K)), (aF, .inl (cI, 60, .inl F)), (aS, .inl (cI, 60, .inl S)), (aB, .inl (cZ, 60, .inl B)), (rk, .inr (0, [.ref aL, .ref aT, .ref aU, .int co, .int pl, .int st, .int jo, .int cn, .int ii, .int fi, .int fe])), (aL, .inl (cI, 4, .inl L)), (aT, .inl (cI, 4, .inl T)), (aU, .inl (cI, 6, .inl U))] := hD
  refine lv_aload_n hx hb dX1_shift_16 rfl (lv_at hl 0 rfl) ?_
  refine va_get (D := (dC, dI)) (ci := 1) (v := .ref aK) (C := RX1) (T := TX1) (N := 6) hx hb hts hinX1 hown hK hP 0 rfl rfl 0 (by decide) k2 (fun _ h9 => h9) rfl dX1_shift_17 ?_
  refine lv_iload_n hx hb dX1_shift_20 rfl (lv_at hl 1 rfl) ?_
  refine va_iald hx hb hK hP 1 0 rfl rfl (vp_in_nI (by omega) (by omega)) dX1_shift_21 ?_
  rw [nI_clamp (n := i) (by omega)]
  refine lv_istore_n (lv' := [(3, .int (K i)), (0, .ref kl), (1, .int (nI i)), (2, .int (nI q))]) hx hb dX1_shift_22 rfl hl (by decide) rfl (fun ls hl => ?_)
  refine lv_iload_n hx hb dX1_shift_23 rfl (lv_at hl 2 rfl) ?_
  refine lv_istore (lv' := [(4, .int (nI i)), (3, .int (K i)), (0, .ref kl), (1, .int (nI i)), (2, .int (nI q))]) hx hb dX1_shift_24 hl (by decide) rfl (fun ls hl => ?_)
  refine (fun (KK : ∀ (nn9 : Nat) (tt : Nat) (H : Heap) (locs : List Loc) (ls : Array Slot) (ht : tt ≤ q - i), q - i - tt < nn9 → va_P (dC, dI) vwCl [(kl, .inr (1, [.ref aK, .ref aF, .ref aS, .ref aB, .int (nI n), .ref rk])), (aK, .inl (cI, 60, .inl (upS K i tt))), (aF, .inl (cI, 60, .inl (upS F i tt))), (aS, .inl (cI, 60, .inl (upS S i tt))), (aB, .inl (cZ, 60, .inl (upS B i tt))), (rk, .inr (0, [.ref aL, .ref aT, .ref aU, .int co, .int pl, .int st, .int jo, .int cn, .int ii, .int fi, .int fe])), (aL, .inl (cI, 4, .inl L)), (aT, .inl (cI, 4, .inl T)), (aU, .inl (cI, 6, .inl U))] H → va_D A [(kl, .inr (1, [.ref aK, .ref aF, .ref aS, .ref aB, .int (nI n), .ref rk])), (aK, .inl (cI, 60, .inl (upS K i tt))), (aF, .inl (cI, 60, .inl (upS F i tt))), (aS, .inl (cI, 60, .inl (upS S i tt))), (aB, .inl (cZ, 60, .inl (upS B i tt))), (rk, .inr (0, [.ref aL, .ref aT, .ref aU, .int co, .int pl, .int st, .int jo, .int cn, .int ii, .int fi, .int fe])), (aL, .inl (cI, 4, .inl L)), (aT, .inl (cI, 4, .inl T)), (aU, .inl (cI, 6, .inl U))] → va_S A s.heap H locs → lv_has ls 5 [(4, .int (nI (i + tt))), (3, .int (K i)), (0, .ref kl), (1, .int (nI i)), (2, .int (nI q))] → W p l e _ s m _ below meth c H locs 0 0 _ (F0 m 26 ls [])) => KK (q - i - 0 + 1) 0 _ _ _ (Nat.zero_le _) (by omega) hP hD hS (lv_sub hl [0, 1, 2, 3, 4] rfl)) ?_
  intro nn_26
  induction nn_26 with
  | zero => intro tt H locs ls ht hn9; exact absurd hn9 (Nat.not_lt_zero _)
  | succ nn_26 ih_26 =>
    intro tt H_3 locs ls ht hn_26 hP hD hS hl
    refine lv_iload hx hb dX1_shift_26 (lv_at hl 0 rfl) ?_
    refine lv_iload_n hx hb dX1_shift_28 rfl (lv_at hl 4 rfl) ?_
    refine lv_icmp_ge (tgt := 48) hx hb dX1_shift_29 (by decide) (fun c_29 => ?_) (fun c_29 => ?_)
    · -- 29
      have hge : q ≤ i + tt := by rw [nI_leI (by omega) (by omega)] at c_29; omega
      obtain rfl : q - i = tt := by omega
      refine lv_iload_n hx hb dX1_shift_48 rfl (lv_at hl 3 rfl) ?_
      refine lv_istore (lv' := [(4, .int (nI i)), (3, .int (K i)), (0, .ref kl), (1, .int (nI i)), (2, .int (nI q))]) hx hb dX1_shift_49 hl (by decide) rfl (fun ls hl => ?_)
      refine (fun (KK : ∀ (nn9 : Nat) (tt : Nat) (H : Heap) (locs : List Loc) (ls : Array Slot) (ht : tt ≤ i - q), i - q - tt < nn9 → va_P (dC, dI) vwCl [(kl, .inr (1, [.ref aK, .ref aF, .ref aS, .ref aB, .int (nI n), .ref rk])), (aK, .inl (cI, 60, .inl (dnS (upS K i (q - i)) i tt))), (aF, .inl (cI, 60, .inl (dnS (upS F i (q - i)) i tt))), (aS, .inl (cI, 60, .inl (dnS (upS S i (q - i)) i tt))), (aB, .inl (cZ, 60, .inl (dnS (upS B i (q - i)) i tt))), (rk, .inr (0, [.ref aL, .ref aT, .ref aU, .int co, .int pl, .int st, .int jo, .int cn, .int ii, .int fi, .int fe])), (aL, .inl (cI, 4, .inl L)), (aT, .inl (cI, 4, .inl T)), (aU, .inl (cI, 6, .inl U))] H → va_D A [(kl, .inr (1, [.ref aK, .ref aF, .ref aS, .ref aB, .int (nI n), .ref rk])), (aK, .inl (cI, 60, .inl (dnS (upS K i (q - i)) i tt))), (aF, .inl (cI, 60, .inl (dnS (upS F i (q - i)) i tt))), (aS, .inl (cI, 60, .inl (dnS (upS S i (q - i)) i tt))), (aB, .inl (cZ, 60, .inl (dnS (upS B i (q - i)) i tt))), (rk, .inr (0, [.ref aL, .ref aT, .ref aU, .int co, .int pl, .int st, .int jo, .int cn, .int ii, .int fi, .int fe])), (aL, .inl (cI, 4, .inl L)), (aT, .inl (cI, 4, .inl T)), (aU, .inl (cI, 6, .inl U))] → va_S A s.heap H locs → lv_has ls 5 [(4, .int (nI (i - tt))), (3, .int (K i)), (0, .ref kl), (1, .int (nI i)), (2, .int (nI q))] → W p l e _ s m _ below meth c H locs 0 0 _ (F0 m 51 ls [])) => KK (i - q - 0 + 1) 0 _ _ _ (Nat.zero_le _) (by omega) hP hD hS (lv_sub hl [0, 1, 2, 3, 4] rfl)) ?_
      intro nn_51
      induction nn_51 with
      | zero => intro tt H locs ls ht hn9; exact absurd hn9 (Nat.not_lt_zero _)
      | succ nn_51 ih_51 =>
        intro tt H_4 locs ls ht hn_51 hP hD hS hl
        refine lv_iload hx hb dX1_shift_51 (lv_at hl 0 rfl) ?_
        refine lv_iload_n hx hb dX1_shift_53 rfl (lv_at hl 4 rfl) ?_
        refine lv_icmp_le (tgt := 73) hx hb dX1_shift_54 (by decide) (fun c_54 => ?_) (fun c_54 => ?_)
        · -- 54
          have hge : i - tt ≤ q := by rw [nI_leI (by omega) (by omega)] at c_54; omega
          obtain rfl : i - q = tt := by omega
          refine lv_iload_n hx hb dX1_shift_73 rfl (lv_at hl 1 rfl) ?_
          have hpost : (K i) = K i := by
            rfl
          have hP9 := hP.sub (ws' := [(kl, .inr (1, [.ref aK, .ref aF, .ref aS, .ref aB, .int (nI n), .ref rk])), (aK, .inl (cI, 60, .inl (dnS (upS K i (q - i)) i (i - q)))), (aF, .inl (cI, 60, .inl (dnS (upS F i (q - i)) i (i - q)))), (aS, .inl (cI, 60, .inl (dnS (upS S i (q - i)) i (i - q)))), (aB, .inl (cZ, 60, .inl (dnS (upS B i (q - i)) i (i - q)))), (rk, .inr (0, [.ref aL, .ref aT, .ref aU, .int co, .int pl, .int st, .int jo, .int cn, .int ii, .int fi, .int fe])), (aL, .inl (cI, 4, .inl L)), (aT, .inl (cI, 4, .inl T)), (aU, .inl (cI, 6, .inl U))]) [0, 1, 2, 3, 4, 5, 6, 7, 8] rfl
          have hD9 := hD.sub (ws' := [(kl, .inr (1, [.ref aK, .ref aF, .ref aS, .ref aB, .int (nI n), .ref rk])), (aK, .inl (cI, 60, .inl (dnS (upS K i (q - i)) i (i - q)))), (aF, .inl (cI, 60, .inl (dnS (upS F i (q - i)) i (i - q)))), (aS, .inl (cI, 60, .inl (dnS (upS S i (q - i)) i (i - q)))), (aB, .inl (cZ, 60, .inl (dnS (upS B i (q - i)) i (i - q)))), (rk, .inr (0, [.ref aL, .ref aT, .ref aU, .int co, .int pl, .int st, .int jo, .int cn, .int ii, .int fi, .int fe])), (aL, .inl (cI, 4, .inl L)), (aT, .inl (cI, 4, .inl T)), (aU, .inl (cI, 6, .inl U))]) [0, 1, 2, 3, 4, 5, 6, 7, 8] (by decide) rfl
          exact W.iret (v := K i) hx hb hr (fun t ht hW => ⟨⟨(K i), (), rfl, hpost, by rw [ht]; exact hP9, hD9⟩, hS.F ht⟩) hS.2.2 dX1_shift_74
        · -- 54
          have hlt : q < i - tt := by rw [nI_leI (by omega) (by omega)] at c_54; omega
          refine lv_aload_n hx hb dX1_shift_57 rfl (lv_at hl 2 rfl) ?_
          refine lv_iload hx hb dX1_shift_58 (lv_at hl 0 rfl) ?_
          refine lv_iload hx hb dX1_shift_60 (lv_at hl 0 rfl) ?_
          refine lv_iconst (v := 1) hx hb dX1_shift_62 (by decide) ?_
          refine lv_isub hx hb dX1_shift_63 ?_
          rw [show nI (i - tt) - 1 = nI (i - tt - 1) from pk_sub (b := 1) (by omega)]
          have hPc := hP.sub (ws' := [(kl, .inr (1, [.ref aK, .ref aF, .ref aS, .ref aB, .int (nI n), .ref rk])), (aK, .inl (cI, 60, .inl (dnS (upS K i (q - i)) i tt))), (aF, .inl (cI, 60, .inl (dnS (upS F i (q - i)) i tt))), (aS, .inl (cI, 60, .inl (dnS (upS S i (q - i)) i tt))), (aB, .inl (cZ, 60, .inl (dnS (upS B i (q - i)) i tt))), (rk, .inr (0, [.ref aL, .ref aT, .ref aU, .int co, .int pl, .int st, .int jo, .int cn, .int ii, .int fi, .int fe])), (aL, .inl (cI, 4, .inl L)), (aT, .inl (cI, 4, .inl T)), (aU, .inl (cI, 6, .inl U))]) [0, 1, 2, 3, 4, 5, 6, 7, 8] rfl
          have hDc := hD.sub (ws' := [(kl, .inr (1, [.ref aK, .ref aF, .ref aS, .ref aB, .int (nI n), .ref rk])), (aK, .inl (cI, 60, .inl (dnS (upS K i (q - i)) i tt))), (aF, .inl (cI, 60, .inl (dnS (upS F i (q - i)) i tt))), (aS, .inl (cI, 60, .inl (dnS (upS S i (q - i)) i tt))), (aB, .inl (cZ, 60, .inl (dnS (upS B i (q - i)) i tt))), (rk, .inr (0, [.ref aL, .ref aT, .ref aU, .int co, .int pl, .int st, .int jo, .int cn, .int ii, .int fi, .int fe])), (aL, .inl (cI, 4, .inl L)), (aT, .inl (cI, 4, .inl T)), (aU, .inl (cI, 6, .inl U))]) [0, 1, 2, 3, 4, 5, 6, 7, 8] (by decide) rfl
          have hKc := hK.sub (tys' := [(cI, .int), (cZ, .boolean)]) [0, 1] rfl
          have hFc := va_free (wc := [(kl, .inr (1, [.ref aK, .ref aF, .ref aS, .ref aB, .int (nI n), .ref rk])), (aK, .inl (cI, 60, .inl (dnS (upS K i (q - i)) i tt))), (aF, .inl (cI, 60, .inl (dnS (upS F i (q - i)) i tt))), (aS, .inl (cI, 60, .inl (dnS (upS S i (q - i)) i tt))), (aB, .inl (cZ, 60, .inl (dnS (upS B i (q - i)) i tt))), (rk, .inr (0, [.ref aL, .ref aT, .ref aU, .int co, .int pl, .int st, .int jo, .int cn, .int ii, .int fi, .int fe])), (aL, .inl (cI, 4, .inl L)), (aT, .inl (cI, 4, .inl T)), (aU, .inl (cI, 6, .inl U))]) hD hS hA [0, 1, 2, 3, 4, 5, 6, 7, 8] rfl
          refine va_callv (va_runV (As := [.int (nI (i - tt)), .int (nI (i - tt - 1))]) (rest := []) ⟨hx, hb, hml, hown, hts⟩ (c_X1_swap l dC dI cI cZ kl aK aF aS aB rk aL aT aU H_4.size L T (dnS (upS K i (q - i)) i tt) (dnS (upS F i (q - i)) i tt) (dnS (upS S i (q - i)) i tt) (dnS (upS B i (q - i)) i tt) U n co pl st jo cn ii fi fe (i - tt) (i - tt - 1) (by omega) (by omega) (dnS_01 (upS_01 hX.2.2 _) _)) (cwV 2 hts gX1_shift_X1_swap rfl rfl rfl (by decide +kernel) ⟨Nat.le_of_ble_eq_true rfl, Nat.le_of_ble_eq_true rfl⟩) (pc_V hKc hPc hDc (ci := 1) (C := RX1) (T := TX1) (N := 6) (q0 := 0) rfl rfl) rfl rfl hl.1 rfl (lv_room (Nat.le_of_ble_eq_true rfl)) dX1_shift_64 ⟨Nat.le_of_ble_eq_true rfl, Nat.le_of_ble_eq_true rfl⟩) hS (fun q _ h => hFc q h) hFc (fun u t H_5 locs ht hvm hw hB hz1 hk1 hS => ?_)
          try dsimp only at hw hB
          have hw_5 := hw
          obtain ⟨hP1, hD1⟩ := hB
          rw [ht] at hP1
          obtain ⟨hP, hD⟩ := va_join (wr := []) (w1 := [(kl, .inr (1, [.ref aK, .ref aF, .ref aS, .ref aB, .int (nI n), .ref rk])), (aK, .inl (cI, 60, .inl (swp (dnS (upS K i (q - i)) i tt) (i - tt) (i - tt - 1)))), (aF, .inl (cI, 60, .inl (swp (dnS (upS F i (q - i)) i tt) (i - tt) (i - tt - 1)))), (aS, .inl (cI, 60, .inl (swp (dnS (upS S i (q - i)) i tt) (i - tt) (i - tt - 1)))), (aB, .inl (cZ, 60, .inl (swp (dnS (upS B i (q - i)) i tt) (i - tt) (i - tt - 1)))), (rk, .inr (0, [.ref aL, .ref aT, .ref aU, .int co, .int pl, .int st, .int jo, .int cn, .int ii, .int fi, .int fe])), (aL, .inl (cI, 4, .inl L)), (aT, .inl (cI, 4, .inl T)), (aU, .inl (cI, 6, .inl U))]) hP hD [0, 1, 2, 3, 4, 5, 6, 7, 8] [] rfl rfl (by decide) (by decide) hk1 hFc hP1 hD1
          have hP : va_P (dC, dI) vwCl [(kl, .inr (1, [.ref aK, .ref aF, .ref aS, .ref aB, .int (nI n), .ref rk])), (aK, .inl (cI, 60, .inl (swp (dnS (upS K i (q - i)) i tt) (i - tt) (i - tt - 1)))), (aF, .inl (cI, 60, .inl (swp (dnS (upS F i (q - i)) i tt) (i - tt) (i - tt - 1)))), (aS, .inl (cI, 60, .inl (swp (dnS (upS S i (q - i)) i tt) (i - tt) (i - tt - 1)))), (aB, .inl (cZ, 60, .inl (swp (dnS (upS B i (q - i)) i tt) (i - tt) (i - tt - 1)))), (rk, .inr (0, [.ref aL, .ref aT, .ref aU, .int co, .int pl, .int st, .int jo, .int cn, .int ii, .int fi, .int fe])), (aL, .inl (cI, 4, .inl L)), (aT, .inl (cI, 4, .inl T)), (aU, .inl (cI, 6, .inl U))] H_5 := hP
          have hD : va_D A [(kl, .inr (1, [.ref aK, .ref aF, .ref aS, .ref aB, .int (nI n), .ref rk])), (aK, .inl (cI, 60, .inl (swp (dnS (upS K i (q - i)) i tt) (i - tt) (i - tt - 1)))), (aF, .inl (cI, 60, .inl (swp (dnS (upS F i (q - i)) i tt) (i - tt) (i - tt - 1)))), (aS, .inl (cI, 60, .inl (swp (dnS (upS S i (q - i)) i tt) (i - tt) (i - tt - 1)))), (aB, .inl (cZ, 60, .inl (swp (dnS (upS B i (q - i)) i tt) (i - tt) (i - tt - 1)))), (rk, .inr (0, [.ref aL, .ref aT, .ref aU, .int co, .int pl, .int st, .int jo, .int cn, .int ii, .int fi, .int fe])), (aL, .inl (cI, 4, .inl L)), (aT, .inl (cI, 4, .inl T)), (aU, .inl (cI, 6, .inl U))] := hD
          refine lv_iinc (v := nI (i - tt - 1)) (lv' := [(4, .int (nI (i - tt - 1))), (3, .int (K i)), (0, .ref kl), (1, .int (nI i)), (2, .int (nI q))]) hx hb dX1_shift_67 hl (k := 0) rfl (sb_m1 (by omega)) (by decide) rfl (fun ls hl => ?_)
          refine lv_goto (tgt := 51) hx hb dX1_shift_70 (by decide) ?_
          exact ih_51 (tt + 1) _ _ _ (by omega) (by omega) hP hD hS (lv_sub hl [0, 1, 2, 3, 4] rfl)
    · -- 29
      have hlt : i + tt < q := by rw [nI_leI (by omega) (by omega)] at c_29; omega
      refine lv_aload_n hx hb dX1_shift_32 rfl (lv_at hl 2 rfl) ?_
      refine lv_iload hx hb dX1_shift_33 (lv_at hl 0 rfl) ?_
      refine lv_iload hx hb dX1_shift_35 (lv_at hl 0 rfl) ?_
      refine lv_iconst (v := 1) hx hb dX1_shift_37 (by decide) ?_
      refine lv_iadd hx hb dX1_shift_38 ?_
      rw [nI_1 (i + tt)]
      have hPc := hP.sub (ws' := [(kl, .inr (1, [.ref aK, .ref aF, .ref aS, .ref aB, .int (nI n), .ref rk])), (aK, .inl (cI, 60, .inl (upS K i tt))), (aF, .inl (cI, 60, .inl (upS F i tt))), (aS, .inl (cI, 60, .inl (upS S i tt))), (aB, .inl (cZ, 60, .inl (upS B i tt))), (rk, .inr (0, [.ref aL, .ref aT, .ref aU, .int co, .int pl, .int st, .int jo, .int cn, .int ii, .int fi, .int fe])), (aL, .inl (cI, 4, .inl L)), (aT, .inl (cI, 4, .inl T)), (aU, .inl (cI, 6, .inl U))]) [0, 1, 2, 3, 4, 5, 6, 7, 8] rfl
      have hDc := hD.sub (ws' := [(kl, .inr (1, [.ref aK, .ref aF, .ref aS, .ref aB, .int (nI n), .ref rk])), (aK, .inl (cI, 60, .inl (upS K i tt))), (aF, .inl (cI, 60, .inl (upS F i tt))), (aS, .inl (cI, 60, .inl (upS S i tt))), (aB, .inl (cZ, 60, .inl (upS B i tt))), (rk, .inr (0, [.ref aL, .ref aT, .ref aU, .int co, .int pl, .int st, .int jo, .int cn, .int ii, .int fi, .int fe])), (aL, .inl (cI, 4, .inl L)), (aT, .inl (cI, 4, .inl T)), (aU, .inl (cI, 6, .inl U))]) [0, 1, 2, 3, 4, 5, 6, 7, 8] (by decide) rfl
      have hKc := hK.sub (tys' := [(cI, .int), (cZ, .boolean)]) [0, 1] rfl
      have hFc := va_free (wc := [(kl, .inr (1, [.ref aK, .ref aF, .ref aS, .ref aB, .int (nI n), .ref rk])), (aK, .inl (cI, 60, .inl (upS K i tt))), (aF, .inl (cI, 60, .inl (upS F i tt))), (aS, .inl (cI, 60, .inl (upS S i tt))), (aB, .inl (cZ, 60, .inl (upS B i tt))), (rk, .inr (0, [.ref aL, .ref aT, .ref aU, .int co, .int pl, .int st, .int jo, .int cn, .int ii, .int fi, .int fe])), (aL, .inl (cI, 4, .inl L)), (aT, .inl (cI, 4, .inl T)), (aU, .inl (cI, 6, .inl U))]) hD hS hA [0, 1, 2, 3, 4, 5, 6, 7, 8] rfl
      refine va_callv (va_runV (As := [.int (nI (i + tt)), .int (nI ((i + tt) + 1))]) (rest := []) ⟨hx, hb, hml, hown, hts⟩ (c_X1_swap l dC dI cI cZ kl aK aF aS aB rk aL aT aU H_3.size L T (upS K i tt) (upS F i tt) (upS S i tt) (upS B i tt) U n co pl st jo cn ii fi fe (i + tt) ((i + tt) + 1) (by omega) (by omega) (upS_01 hX.2.2 _)) (cwV 2 hts gX1_shift_X1_swap rfl rfl rfl (by decide +kernel) ⟨Nat.le_of_ble_eq_true rfl, Nat.le_of_ble_eq_true rfl⟩) (pc_V hKc hPc hDc (ci := 1) (C := RX1) (T := TX1) (N := 6) (q0 := 0) rfl rfl) rfl rfl hl.1 rfl (lv_room (Nat.le_of_ble_eq_true rfl)) dX1_shift_39 ⟨Nat.le_of_ble_eq_true rfl, Nat.le_of_ble_eq_true rfl⟩) hS (fun q _ h => hFc q h) hFc (fun u t H_6 locs ht hvm hw hB hz1 hk1 hS => ?_)
      try dsimp only at hw hB
      have hw_6 := hw
      obtain ⟨hP1, hD1⟩ := hB
      rw [ht] at hP1
      obtain ⟨hP, hD⟩ := va_join (wr := []) (w1 := [(kl, .inr (1, [.ref aK, .ref aF, .ref aS, .ref aB, .int (nI n), .ref rk])), (aK, .inl (cI, 60, .inl (swp (upS K i tt) (i + tt) ((i + tt) + 1)))), (aF, .inl (cI, 60, .inl (swp (upS F i tt) (i + tt) ((i + tt) + 1)))), (aS, .inl (cI, 60, .inl (swp (upS S i tt) (i + tt) ((i + tt) + 1)))), (aB, .inl (cZ, 60, .inl (swp (upS B i tt) (i + tt) ((i + tt) + 1)))), (rk, .inr (0, [.ref aL, .ref aT, .ref aU, .int co, .int pl, .int st, .int jo, .int cn, .int ii, .int fi, .int fe])), (aL, .inl (cI, 4, .inl L)), (aT, .inl (cI, 4, .inl T)), (aU, .inl (cI, 6, .inl U))]) hP hD [0, 1, 2, 3, 4, 5, 6, 7, 8] [] rfl rfl (by decide) (by decide) hk1 hFc hP1 hD1
      have hP : va_P (dC, dI) vwCl [(kl, .inr (1, [.ref aK, .ref aF, .ref aS, .ref aB, .int (nI n), .ref rk])), (aK, .inl (cI, 60, .inl (swp (upS K i tt) (i + tt) ((i + tt) + 1)))), (aF, .inl (cI, 60, .inl (swp (upS F i tt) (i + tt) ((i + tt) + 1)))), (aS, .inl (cI, 60, .inl (swp (upS S i tt) (i + tt) ((i + tt) + 1)))), (aB, .inl (cZ, 60, .inl (swp (upS B i tt) (i + tt) ((i + tt) + 1)))), (rk, .inr (0, [.ref aL, .ref aT, .ref aU, .int co, .int pl, .int st, .int jo, .int cn, .int ii, .int fi, .int fe])), (aL, .inl (cI, 4, .inl L)), (aT, .inl (cI, 4, .inl T)), (aU, .inl (cI, 6, .inl U))] H_6 := hP
      have hD : va_D A [(kl, .inr (1, [.ref aK, .ref aF, .ref aS, .ref aB, .int (nI n), .ref rk])), (aK, .inl (cI, 60, .inl (swp (upS K i tt) (i + tt) ((i + tt) + 1)))), (aF, .inl (cI, 60, .inl (swp (upS F i tt) (i + tt) ((i + tt) + 1)))), (aS, .inl (cI, 60, .inl (swp (upS S i tt) (i + tt) ((i + tt) + 1)))), (aB, .inl (cZ, 60, .inl (swp (upS B i tt) (i + tt) ((i + tt) + 1)))), (rk, .inr (0, [.ref aL, .ref aT, .ref aU, .int co, .int pl, .int st, .int jo, .int cn, .int ii, .int fi, .int fe])), (aL, .inl (cI, 4, .inl L)), (aT, .inl (cI, 4, .inl T)), (aU, .inl (cI, 6, .inl U))] := hD
      refine lv_iinc (v := nI ((i + tt) + 1)) (lv' := [(4, .int (nI ((i + tt) + 1))), (3, .int (K i)), (0, .ref kl), (1, .int (nI i)), (2, .int (nI q))]) hx hb dX1_shift_42 hl (k := 0) rfl (nI_1 _) (by decide) rfl (fun ls hl => ?_)
      refine lv_goto (tgt := 26) hx hb dX1_shift_45 (by decide) ?_
      exact ih_26 (tt + 1) _ _ _ (by omega) (by omega) hP hD hS (lv_sub hl [0, 1, 2, 3, 4] rfl)
