theorem cp_step {f ra : Nat → Option Nat} {t v : Nat} (hf : ∀ i, i < t → f i = ra i) (hv : ra t = some v) : ∀ i, i < t + 1 → va_up f t (some v) i = ra i := by
  intro i hi
  unfold va_up
  by_cases c : i = t
  · subst c; rw [if_pos rfl]; exact hv.symm
  · rw [if_neg c]; exact hf i (by omega)
theorem dlA_lo {α : Type} {f : Nat → α} {i j : Nat} (h : j < i) : dlA f i j = f j := if_pos h
theorem dlA_hi {α : Type} {f : Nat → α} {i j : Nat} (h : i ≤ j) : dlA f i j = f (j + 1) := if_neg (by omega)
theorem inA_lo {α : Type} {f : Nat → α} {q j : Nat} {x : α} (h : j < q) : inA f q x j = f j := if_pos h
theorem inA_at {α : Type} {f : Nat → α} {q : Nat} {x : α} : inA f q x q = x := by unfold inA; rw [if_neg (Nat.lt_irrefl q), if_pos rfl]
theorem inA_hi {α : Type} {f : Nat → α} {q j : Nat} {x : α} (h : q ≤ j) (h2 : ¬ j = q) : inA f q x j = f (j - 1) := by unfold inA; rw [if_neg (by omega), if_neg h2]
theorem dl_step {f ra : Nat → Option Nat} {t v i : Nat} (hf : ∀ j, j < t → f j = dlA ra i j) (hv : dlA ra i t = some v) : ∀ j, j < t + 1 → va_up f t (some v) j = dlA ra i j := cp_step hf hv
theorem in_step {f ra : Nat → Option Nat} {t v q a0 : Nat} (hf : ∀ j, j < t → f j = inA ra q (some a0) j) (hv : inA ra q (some a0) t = some v) : ∀ j, j < t + 1 → va_up f t (some v) j = inA ra q (some a0) j := cp_step hf hv
set_option maxHeartbeats 4000000 in
set_option maxRecDepth 100000 in
theorem c_X2_add (l : Launch) (dC : Nat → ClassId) (dI : Nat → Nat → Nat) (cI cR : ClassId) (sm aR : Nat) (sz : Nat)  (aSL : Nat) (aST : Nat) (xc : Int32) (xp : Int32) (xs : Int32) (tv : Value) (xn : Int32) (xi : Int32) (xl : Int32) (n : Nat) (ra : Nat → Option Nat) (RL : List Nat) (row : Nat → Nat → Int32) (k : Int32) (a : Int32) (b : Int32) (K : N2I) (F : N2I) (S : N2I) (B : N2I) (hn : n ≤ 60) (hR : RW n ra RL row K F S B) : Met l yX2_add wsX2_add ({ frames := 0, cells := 2, slots := 65, locals := 0 } : Room) (va_Pc [.ref sm, .int k, .int a, .int b] (pa_  (dC, dI) [(cI, .int), (cR, (.array .int))] ([(sm, .inr (2, [.ref aSL, .ref aST, .ref aR, .int xc, .int xp, .int xs, tv, .int xn, .int xi, .int xl])), (aR, .inl (cR, n, .inr (.inr (.inr (.inr ra)))))] ++ va_pl RL (rowE cI row)) sz)) (va_Qv (fun (u : Nat × (Nat → Option Nat) × List Nat × (Nat → Nat → Int32)) => RW (n + 1) u.2.1 u.2.2.1 u.2.2.2 (upd K n k) (upd F n a) (upd S n b) (upd B n 0)) (fun (u : Nat × (Nat → Option Nat) × List Nat × (Nat → Nat → Int32)) (t : State) => va_P (dC, dI) vwCl ([(sm, .inr (2, [.ref aSL, .ref aST, .ref u.1, .int xc, .int xp, .int xs, tv, .int xn, .int xi, .int xl])), (u.1, .inl (cR, (n + 1), .inr (.inr (.inr (.inr u.2.1)))))] ++ va_pl u.2.2.1 (rowE cI u.2.2.2)) t.heap ∧ va_D (va_A ([(sm, .inr (2, [.ref aSL, .ref aST, .ref aR, .int xc, .int xp, .int xs, tv, .int xn, .int xi, .int xl])), (aR, .inl (cR, n, .inr (.inr (.inr (.inr ra)))))] ++ va_pl RL (rowE cI row)) sz) ([(sm, .inr (2, [.ref aSL, .ref aST, .ref u.1, .int xc, .int xp, .int xs, tv, .int xn, .int xi, .int xl])), (u.1, .inl (cR, (n + 1), .inr (.inr (.inr (.inr u.2.1)))))] ++ va_pl u.2.2.1 (rowE cI u.2.2.2))) (va_A ([(sm, .inr (2, [.ref aSL, .ref aST, .ref aR, .int xc, .int xp, .int xs, tv, .int xn, .int xi, .int xl])), (aR, .inl (cR, n, .inr (.inr (.inr (.inr ra)))))] ++ va_pl RL (rowE cI row)) sz)) 2 65 (va_A ([(sm, .inr (2, [.ref aSL, .ref aST, .ref aR, .int xc, .int xp, .int xs, tv, .int xn, .int xi, .int xl])), (aR, .inl (cR, n, .inr (.inr (.inr (.inr ra)))))] ++ va_pl RL (rowE cI row)) sz) := by
  refine Met.ofW (cc := cX2_add) (maxL := 6) (ret := none) (by decide) rfl ?_
  intro p e s m args below meth c s₁ BB hml hv
  obtain ⟨rfl, hsz, hP, hK, hD0, hN, hov⟩ := hv
  have hx := BB.exec
  have hb := BB.bytes
  have hr := BB.returns
  have hts := atoms_spec (ws := wsX2_add) BB.pre
  have hown : s.vm.findClass RX2 = some m.cls := findClass_of_methodNamed BB.named
  have hlocks := BB.notSynchronized
  subst hsz
  have hD := hD0.self (sz := s.heap.size)
  generalize hAe : va_A ([(sm, .inr (2, [.ref aSL, .ref aST, .ref aR, .int xc, .int xp, .int xs, tv, .int xn, .int xi, .int xl])), (aR, .inl (cR, n, .inr (.inr (.inr (.inr ra)))))] ++ va_pl RL (rowE cI row)) s.heap.size = A at hD ⊢
  have hA : ∀ q : Nat, s.heap.size ≤ q → A q := fun q h => by rw [← hAe]; exact Or.inr h
  have hS : va_S A s.heap s.heap [] := va_S.rf
  have hP : va_P (dC, dI) vwCl ([(sm, .inr (2, [.ref aSL, .ref aST, .ref aR, .int xc, .int xp, .int xs, tv, .int xn, .int xi, .int xl])), (aR, .inl (cR, n, .inr (.inr (.inr (.inr ra)))))] ++ va_pl RL (rowE cI row)) s.heap := hP
  have hl := lv_entry ([.ref sm, .int k, .int a, .int b]) (n := 6) (Nat.le_of_ble_eq_true rfl)
  rw [lg_entry_eq]
  generalize (lg_sl ([.ref sm, .int k, .int a, .int b]) ++ List.replicate (6 - (lg_sl ([.ref sm, .int k, .int a, .int b])).length) Slot.unset).toArray = ls at hl ⊢
  have hl : lv_has ls 6 [(0, .ref sm), (1, .int k), (2, .int a), (3, .int b)] := hl
  have k0 := hts (.fieldLink RX2 17 "KnifeLedgerLaw$Sim" "rows" "[[I") (by decide +kernel)
  have hinX2 : ∀ w ∈ wsX20, w ∈ wsX2_add := by decide +kernel
  have k2 := hts (.classLink RX2 16 "[I") (by decide +kernel)
  have k3 := hts (.arrayClass .int) (by decide +kernel)
  refine lv_aload_n hx hb dX2_add_0 rfl (lv_at hl 0 rfl) ?_
  refine va_get (D := (dC, dI)) (ci := 2) (v := .ref aR) (C := RX2) (T := TX2) (N := 10) hx hb hts hinX2 hown hK hP 0 rfl rfl 2 (by decide) k0 (fun _ h9 => h9) rfl dX2_add_1 ?_
  refine va_alen (v := nI n) hx hb hK hP 1 1 rfl rfl rfl dX2_add_4 ?_
  refine lv_iconst (v := 1) hx hb dX2_add_5 (by decide) ?_
  refine lv_iadd hx hb dX2_add_6 ?_
  rw [nI_1 n]
  refine aa_new (N' := (n + 1)) hx hb hown k2 hov hK hP hD hS hA (nI_pos (by omega)) (nI_clamp (by omega)) (by omega) (by decide) (by show _ ≤ 65; omega) dX2_add_7 (fun q_7 cA_7 H_1 hK hP hD hS => ?_)
  have hK : va_K (dC, dI) vwCl [(cI, .int), (cR, (.array .int)), (cA_7, (.array .int))] s := hK
  have hP := va_P.swap (a := [(sm, .inr (2, [.ref aSL, .ref aST, .ref aR, .int xc, .int xp, .int xs, tv, .int xn, .int xi, .int xl])), (aR, .inl (cR, n, .inr (.inr (.inr (.inr ra)))))]) (b := va_pl RL (rowE cI row)) (c := [(q_7, .inl (cA_7, (n + 1), .inr (.inr (.inr (.inr (fun _ => none))))))]) hP
  have hD := va_D.swap (a := [(sm, .inr (2, [.ref aSL, .ref aST, .ref aR, .int xc, .int xp, .int xs, tv, .int xn, .int xi, .int xl])), (aR, .inl (cR, n, .inr (.inr (.inr (.inr ra)))))]) (b := va_pl RL (rowE cI row)) (c := [(q_7, .inl (cA_7, (n + 1), .inr (.inr (.inr (.inr (fun _ => none))))))]) hD
  have hP : va_P (dC, dI) vwCl ([(sm, .inr (2, [.ref aSL, .ref aST, .ref aR, .int xc, .int xp, .int xs, tv, .int xn, .int xi, .int xl])), (aR, .inl (cR, n, .inr (.inr (.inr (.inr ra))))), (q_7, .inl (cA_7, (n + 1), .inr (.inr (.inr (.inr (fun _ => none))))))] ++ va_pl RL (rowE cI row)) H_1 := hP
  have hD : va_D A ([(sm, .inr (2, [.ref aSL, .ref aST, .ref aR, .int xc, .int xp, .int xs, tv, .int xn, .int xi, .int xl])), (aR, .inl (cR, n, .inr (.inr (.inr (.inr ra))))), (q_7, .inl (cA_7, (n + 1), .inr (.inr (.inr (.inr (fun _ => none))))))] ++ va_pl RL (rowE cI row)) := hD
  obtain rfl : cR = cA_7 := arr_same hK 1 2 rfl rfl
  have hK := hK.sub (tys' := [(cI, .int), (cR, (.array .int))]) [0, 1] rfl
  refine W.widen (k := 1) (n := 61) (by decide) (by omega) ?_
  refine lv_astore (lv' := [(4, .ref q_7), (0, .ref sm), (1, .int k), (2, .int a), (3, .int b)]) hx hb dX2_add_10 hl (by decide) rfl (fun ls hl => ?_)
  refine lv_iconst (v := 0) hx hb dX2_add_12 (by decide) ?_
  refine lv_istore (lv' := [(5, .int 0), (4, .ref q_7), (0, .ref sm), (1, .int k), (2, .int a), (3, .int b)]) hx hb dX2_add_13 hl (by decide) rfl (fun ls hl => ?_)
  refine (fun (KK : ∀ (nn9 : Nat) (t : Nat) (f : Nat → Option Nat) (H : Heap) (locs : List Loc) (ls : Array Slot) (ht : t ≤ n) (hf : ∀ i, i < t → f i = ra i), n - t < nn9 → va_P (dC, dI) vwCl ([(sm, .inr (2, [.ref aSL, .ref aST, .ref aR, .int xc, .int xp, .int xs, tv, .int xn, .int xi, .int xl])), (aR, .inl (cR, n, .inr (.inr (.inr (.inr ra))))), (q_7, .inl (cR, (n + 1), .inr (.inr (.inr (.inr f)))))] ++ va_pl RL (rowE cI row)) H → va_D A ([(sm, .inr (2, [.ref aSL, .ref aST, .ref aR, .int xc, .int xp, .int xs, tv, .int xn, .int xi, .int xl])), (aR, .inl (cR, n, .inr (.inr (.inr (.inr ra))))), (q_7, .inl (cR, (n + 1), .inr (.inr (.inr (.inr f)))))] ++ va_pl RL (rowE cI row)) → va_S A s.heap H locs → lv_has ls 6 [(5, .int (nI t)), (4, .ref q_7), (0, .ref sm), (1, .int k), (2, .int a), (3, .int b)] → W p l e _ s m _ below meth c H locs 1 61 _ (F0 m 15 ls [])) => KK (n - 0 + 1) 0 (fun _ => none) _ _ _ (Nat.zero_le _) (fun i hi => absurd hi (by omega)) (by omega) hP hD hS (lv_sub hl [0, 1, 2, 3, 4, 5] rfl)) ?_
  intro nn_15
  induction nn_15 with
  | zero => intro t f H locs ls ht hf hn9; exact absurd hn9 (Nat.not_lt_zero _)
  | succ nn_15 ih_15 =>
    intro t f H_2 locs ls ht hf hn_15 hP hD hS hl
    refine lv_iload hx hb dX2_add_15 (lv_at hl 0 rfl) ?_
    refine lv_aload_n hx hb dX2_add_17 rfl (lv_at hl 2 rfl) ?_
    refine va_get (D := (dC, dI)) (ci := 2) (v := .ref aR) (C := RX2) (T := TX2) (N := 10) hx hb hts hinX2 hown hK hP 0 rfl rfl 2 (by decide) k0 (fun _ h9 => h9) rfl dX2_add_18 ?_
    refine va_alen (v := nI n) hx hb hK hP 1 1 rfl rfl rfl dX2_add_21 ?_
    refine lv_icmp_ge (tgt := 43) hx hb dX2_add_22 (by decide) (fun c_22 => ?_) (fun c_22 => ?_)
    · -- 22
      have hge : n ≤ t := by rw [nI_leI (by omega) (by omega)] at c_22; omega
      refine lv_aload hx hb dX2_add_43 (lv_at hl 1 rfl) ?_
      refine lv_aload_n hx hb dX2_add_45 rfl (lv_at hl 2 rfl) ?_
      refine va_get (D := (dC, dI)) (ci := 2) (v := .ref aR) (C := RX2) (T := TX2) (N := 10) hx hb hts hinX2 hown hK hP 0 rfl rfl 2 (by decide) k0 (fun _ h9 => h9) rfl dX2_add_46 ?_
      refine va_alen (v := nI n) hx hb hK hP 1 1 rfl rfl rfl dX2_add_49 ?_
      refine lv_iconst (v := 4) hx hb dX2_add_50 (by decide) ?_
      refine va_newa (atype := .int) (ty := .int) (a0 := (4, .inl (fun _ => 0))) hx hb k3 rfl hK hP hD hS hA (fun _ => rfl) (by decide) (by decide) (by decide) (by decide) (by decide) dX2_add_51 (fun q_51 cA_51 H_3 hK hP hD hS => ?_)
      have hK : va_K (dC, dI) vwCl [(cI, .int), (cR, (.array .int)), (cA_51, .int)] s := hK
      have hP := va_P.swap (a := [(sm, .inr (2, [.ref aSL, .ref aST, .ref aR, .int xc, .int xp, .int xs, tv, .int xn, .int xi, .int xl])), (aR, .inl (cR, n, .inr (.inr (.inr (.inr ra))))), (q_7, .inl (cR, (n + 1), .inr (.inr (.inr (.inr f)))))]) (b := va_pl RL (rowE cI row)) (c := [(q_51, .inl (cA_51, 4, .inl (fun _ => 0)))]) hP
      have hD := va_D.swap (a := [(sm, .inr (2, [.ref aSL, .ref aST, .ref aR, .int xc, .int xp, .int xs, tv, .int xn, .int xi, .int xl])), (aR, .inl (cR, n, .inr (.inr (.inr (.inr ra))))), (q_7, .inl (cR, (n + 1), .inr (.inr (.inr (.inr f)))))]) (b := va_pl RL (rowE cI row)) (c := [(q_51, .inl (cA_51, 4, .inl (fun _ => 0)))]) hD
      have hP : va_P (dC, dI) vwCl ([(sm, .inr (2, [.ref aSL, .ref aST, .ref aR, .int xc, .int xp, .int xs, tv, .int xn, .int xi, .int xl])), (aR, .inl (cR, n, .inr (.inr (.inr (.inr ra))))), (q_7, .inl (cR, (n + 1), .inr (.inr (.inr (.inr f))))), (q_51, .inl (cA_51, 4, .inl (fun _ => 0)))] ++ va_pl RL (rowE cI row)) H_3 := hP
      have hD : va_D A ([(sm, .inr (2, [.ref aSL, .ref aST, .ref aR, .int xc, .int xp, .int xs, tv, .int xn, .int xi, .int xl])), (aR, .inl (cR, n, .inr (.inr (.inr (.inr ra))))), (q_7, .inl (cR, (n + 1), .inr (.inr (.inr (.inr f))))), (q_51, .inl (cA_51, 4, .inl (fun _ => 0)))] ++ va_pl RL (rowE cI row)) := hD
      obtain rfl : cI = cA_51 := arr_same hK 0 2 rfl rfl
      have hK := hK.sub (tys' := [(cI, .int), (cR, (.array .int))]) [0, 1] rfl
      refine W.widen (k := 2) (n := 65) (by decide) (by decide) ?_
      refine lv_dup hx hb dX2_add_53 rfl ?_
      refine lv_iconst (v := 0) hx hb dX2_add_54 (by decide) ?_
      refine lv_iload_n hx hb dX2_add_55 rfl (lv_at hl 3 rfl) ?_
      refine va_iast hx hb hK hP hD hS 3 0 rfl rfl (vp_in_nI (n := 0) (by omega) (by omega)) dX2_add_56 (fun H_4 locs hP hD hS => ?_)
      have hP : va_P (dC, dI) vwCl ([(sm, .inr (2, [.ref aSL, .ref aST, .ref aR, .int xc, .int xp, .int xs, tv, .int xn, .int xi, .int xl])), (aR, .inl (cR, n, .inr (.inr (.inr (.inr ra))))), (q_7, .inl (cR, (n + 1), .inr (.inr (.inr (.inr f))))), (q_51, .inl (cI, 4, .inl (upd (fun _ => 0) (0) k)))] ++ va_pl RL (rowE cI row)) H_4 := hP
      have hD : va_D A ([(sm, .inr (2, [.ref aSL, .ref aST, .ref aR, .int xc, .int xp, .int xs, tv, .int xn, .int xi, .int xl])), (aR, .inl (cR, n, .inr (.inr (.inr (.inr ra))))), (q_7, .inl (cR, (n + 1), .inr (.inr (.inr (.inr f))))), (q_51, .inl (cI, 4, .inl (upd (fun _ => 0) (0) k)))] ++ va_pl RL (rowE cI row)) := hD
      refine lv_dup hx hb dX2_add_57 rfl ?_
      refine lv_iconst (v := 1) hx hb dX2_add_58 (by decide) ?_
      refine lv_iload_n hx hb dX2_add_59 rfl (lv_at hl 4 rfl) ?_
      refine va_iast hx hb hK hP hD hS 3 0 rfl rfl (vp_in_nI (n := 1) (by omega) (by omega)) dX2_add_60 (fun H_5 locs hP hD hS => ?_)
      have hP : va_P (dC, dI) vwCl ([(sm, .inr (2, [.ref aSL, .ref aST, .ref aR, .int xc, .int xp, .int xs, tv, .int xn, .int xi, .int xl])), (aR, .inl (cR, n, .inr (.inr (.inr (.inr ra))))), (q_7, .inl (cR, (n + 1), .inr (.inr (.inr (.inr f))))), (q_51, .inl (cI, 4, .inl (upd (upd (fun _ => 0) (0) k) (1) a)))] ++ va_pl RL (rowE cI row)) H_5 := hP
      have hD : va_D A ([(sm, .inr (2, [.ref aSL, .ref aST, .ref aR, .int xc, .int xp, .int xs, tv, .int xn, .int xi, .int xl])), (aR, .inl (cR, n, .inr (.inr (.inr (.inr ra))))), (q_7, .inl (cR, (n + 1), .inr (.inr (.inr (.inr f))))), (q_51, .inl (cI, 4, .inl (upd (upd (fun _ => 0) (0) k) (1) a)))] ++ va_pl RL (rowE cI row)) := hD
      refine lv_dup hx hb dX2_add_61 rfl ?_
      refine lv_iconst (v := 2) hx hb dX2_add_62 (by decide) ?_
      refine lv_iload_n hx hb dX2_add_63 rfl (lv_at hl 5 rfl) ?_
      refine va_iast hx hb hK hP hD hS 3 0 rfl rfl (vp_in_nI (n := 2) (by omega) (by omega)) dX2_add_64 (fun H_6 locs hP hD hS => ?_)
      have hP : va_P (dC, dI) vwCl ([(sm, .inr (2, [.ref aSL, .ref aST, .ref aR, .int xc, .int xp, .int xs, tv, .int xn, .int xi, .int xl])), (aR, .inl (cR, n, .inr (.inr (.inr (.inr ra))))), (q_7, .inl (cR, (n + 1), .inr (.inr (.inr (.inr f))))), (q_51, .inl (cI, 4, .inl (upd (upd (upd (fun _ => 0) (0) k) (1) a) (2) b)))] ++ va_pl RL (rowE cI row)) H_6 := hP
      have hD : va_D A ([(sm, .inr (2, [.ref aSL, .ref aST, .ref aR, .int xc, .int xp, .int xs, tv, .int xn, .int xi, .int xl])), (aR, .inl (cR, n, .inr (.inr (.inr (.inr ra))))), (q_7, .inl (cR, (n + 1), .inr (.inr (.inr (.inr f))))), (q_51, .inl (cI, 4, .inl (upd (upd (upd (fun _ => 0) (0) k) (1) a) (2) b)))] ++ va_pl RL (rowE cI row)) := hD
      refine lv_dup hx hb dX2_add_65 rfl ?_
      refine lv_iconst (v := 3) hx hb dX2_add_66 (by decide) ?_
      refine lv_iconst (v := 0) hx hb dX2_add_67 (by decide) ?_
      refine va_iast hx hb hK hP hD hS 3 0 rfl rfl (vp_in_nI (n := 3) (by omega) (by omega)) dX2_add_68 (fun H_7 locs hP hD hS => ?_)
      have hP : va_P (dC, dI) vwCl ([(sm, .inr (2, [.ref aSL, .ref aST, .ref aR, .int xc, .int xp, .int xs, tv, .int xn, .int xi, .int xl])), (aR, .inl (cR, n, .inr (.inr (.inr (.inr ra))))), (q_7, .inl (cR, (n + 1), .inr (.inr (.inr (.inr f))))), (q_51, .inl (cI, 4, .inl (upd (upd (upd (upd (fun _ => 0) (0) k) (1) a) (2) b) (3) 0)))] ++ va_pl RL (rowE cI row)) H_7 := hP
      have hD : va_D A ([(sm, .inr (2, [.ref aSL, .ref aST, .ref aR, .int xc, .int xp, .int xs, tv, .int xn, .int xi, .int xl])), (aR, .inl (cR, n, .inr (.inr (.inr (.inr ra))))), (q_7, .inl (cR, (n + 1), .inr (.inr (.inr (.inr f))))), (q_51, .inl (cI, 4, .inl (upd (upd (upd (upd (fun _ => 0) (0) k) (1) a) (2) b) (3) 0)))] ++ va_pl RL (rowE cI row)) := hD
      refine aa_ast hx hb hov hK hP hD hS 2 1 0 3 rfl rfl rfl rfl (vp_in_nI (by omega) (by omega)) dX2_add_69 (fun H_8 locs hP hD hS => ?_)
      have hP : va_P (dC, dI) vwCl ([(sm, .inr (2, [.ref aSL, .ref aST, .ref aR, .int xc, .int xp, .int xs, tv, .int xn, .int xi, .int xl])), (aR, .inl (cR, n, .inr (.inr (.inr (.inr ra))))), (q_7, .inl (cR, (n + 1), .inr (.inr (.inr (.inr (va_up f ((nI n)).toNatClampNeg (some q_51))))))), (q_51, .inl (cI, 4, .inl (upd (upd (upd (upd (fun _ => 0) (0) k) (1) a) (2) b) (3) 0)))] ++ va_pl RL (rowE cI row)) H_8 := hP
      have hD : va_D A ([(sm, .inr (2, [.ref aSL, .ref aST, .ref aR, .int xc, .int xp, .int xs, tv, .int xn, .int xi, .int xl])), (aR, .inl (cR, n, .inr (.inr (.inr (.inr ra))))), (q_7, .inl (cR, (n + 1), .inr (.inr (.inr (.inr (va_up f ((nI n)).toNatClampNeg (some q_51))))))), (q_51, .inl (cI, 4, .inl (upd (upd (upd (upd (fun _ => 0) (0) k) (1) a) (2) b) (3) 0)))] ++ va_pl RL (rowE cI row)) := hD
      rw [nI_clamp (by omega)] at hP hD
      have hP : va_P (dC, dI) vwCl ([(sm, .inr (2, [.ref aSL, .ref aST, .ref aR, .int xc, .int xp, .int xs, tv, .int xn, .int xi, .int xl])), (aR, .inl (cR, n, .inr (.inr (.inr (.inr ra))))), (q_7, .inl (cR, (n + 1), .inr (.inr (.inr (.inr (va_up f n (some q_51))))))), (q_51, .inl (cI, 4, .inl (upd (upd (upd (upd (fun _ => 0) (0) k) (1) a) (2) b) (3) 0)))] ++ va_pl RL (rowE cI row)) H_8 := hP
      have hD : va_D A ([(sm, .inr (2, [.ref aSL, .ref aST, .ref aR, .int xc, .int xp, .int xs, tv, .int xn, .int xi, .int xl])), (aR, .inl (cR, n, .inr (.inr (.inr (.inr ra))))), (q_7, .inl (cR, (n + 1), .inr (.inr (.inr (.inr (va_up f n (some q_51))))))), (q_51, .inl (cI, 4, .inl (upd (upd (upd (upd (fun _ => 0) (0) k) (1) a) (2) b) (3) 0)))] ++ va_pl RL (rowE cI row)) := hD
      refine lv_aload_n hx hb dX2_add_70 rfl (lv_at hl 2 rfl) ?_
      refine lv_aload hx hb dX2_add_71 (lv_at hl 1 rfl) ?_
      refine va_put (D := (dC, dI)) (ci := 2) (v := .ref q_7) (ty := .array (.array .int)) (C := RX2) (T := TX2) (N := 10) hx hb hts hinX2 tyX2 tyX2_ok nmX2 hown hK hP hD hS 0 rfl rfl 2 (by decide) k0 (fun _ h9 => h9) rfl (by decide +kernel) rfl rfl (Nat.le_of_ble_eq_true rfl) dX2_add_73 (fun H_9 locs hP hD hS => ?_)
      have hP : va_P (dC, dI) vwCl ([(sm, .inr (2, [.ref aSL, .ref aST, .ref q_7, .int xc, .int xp, .int xs, tv, .int xn, .int xi, .int xl])), (aR, .inl (cR, n, .inr (.inr (.inr (.inr ra))))), (q_7, .inl (cR, (n + 1), .inr (.inr (.inr (.inr (va_up f n (some q_51))))))), (q_51, .inl (cI, 4, .inl (upd (upd (upd (upd (fun _ => 0) (0) k) (1) a) (2) b) (3) 0)))] ++ va_pl RL (rowE cI row)) H_9 := hP
      have hD : va_D A ([(sm, .inr (2, [.ref aSL, .ref aST, .ref q_7, .int xc, .int xp, .int xs, tv, .int xn, .int xi, .int xl])), (aR, .inl (cR, n, .inr (.inr (.inr (.inr ra))))), (q_7, .inl (cR, (n + 1), .inr (.inr (.inr (.inr (va_up f n (some q_51))))))), (q_51, .inl (cI, 4, .inl (upd (upd (upd (upd (fun _ => 0) (0) k) (1) a) (2) b) (3) 0)))] ++ va_pl RL (rowE cI row)) := hD
      obtain ⟨hnew_q_51, hP, hD⟩ := pool_in (X := [(sm, .inr (2, [.ref aSL, .ref aST, .ref q_7, .int xc, .int xp, .int xs, tv, .int xn, .int xi, .int xl])), (aR, .inl (cR, n, .inr (.inr (.inr (.inr ra))))), (q_7, .inl (cR, (n + 1), .inr (.inr (.inr (.inr (va_up f n (some q_51)))))))]) (RL := RL) (cI := cI) (row := row) (q := q_51) (g := upd (upd (upd (upd (fun _ => 0) (0) k) (1) a) (2) b) (3) 0) hP hD
      have hP : va_P (dC, dI) vwCl ([(sm, .inr (2, [.ref aSL, .ref aST, .ref q_7, .int xc, .int xp, .int xs, tv, .int xn, .int xi, .int xl])), (aR, .inl (cR, n, .inr (.inr (.inr (.inr ra))))), (q_7, .inl (cR, (n + 1), .inr (.inr (.inr (.inr (va_up f n (some q_51)))))))] ++ va_pl (RL ++ [q_51]) (rowE cI (va_up row q_51 (upd (upd (upd (upd (fun _ => 0) (0) k) (1) a) (2) b) (3) 0)))) H_9 := hP
      have hD : va_D A ([(sm, .inr (2, [.ref aSL, .ref aST, .ref q_7, .int xc, .int xp, .int xs, tv, .int xn, .int xi, .int xl])), (aR, .inl (cR, n, .inr (.inr (.inr (.inr ra))))), (q_7, .inl (cR, (n + 1), .inr (.inr (.inr (.inr (va_up f n (some q_51)))))))] ++ va_pl (RL ++ [q_51]) (rowE cI (va_up row q_51 (upd (upd (upd (upd (fun _ => 0) (0) k) (1) a) (2) b) (3) 0)))) := hD
      have hpost : RW (n + 1) (va_up f n (some q_51)) (RL ++ [q_51]) (va_up row q_51 (upd (upd (upd (upd (fun _ => 0) (0) k) (1) a) (2) b) (3) 0)) (upd K n k) (upd F n a) (upd S n b) (upd B n 0) := by
        exact RW_add hR hnew_q_51 rfl rfl rfl rfl (fun i hi => hf i (by omega))
      have hP9 := hP.part (X := [(sm, .inr (2, [.ref aSL, .ref aST, .ref q_7, .int xc, .int xp, .int xs, tv, .int xn, .int xi, .int xl])), (aR, .inl (cR, n, .inr (.inr (.inr (.inr ra))))), (q_7, .inl (cR, (n + 1), .inr (.inr (.inr (.inr (va_up f n (some q_51)))))))]) (cx := [(sm, .inr (2, [.ref aSL, .ref aST, .ref q_7, .int xc, .int xp, .int xs, tv, .int xn, .int xi, .int xl])), (q_7, .inl (cR, (n + 1), .inr (.inr (.inr (.inr (va_up f n (some q_51)))))))]) [0, 2] rfl
      have hD9 := hD.part (X := [(sm, .inr (2, [.ref aSL, .ref aST, .ref q_7, .int xc, .int xp, .int xs, tv, .int xn, .int xi, .int xl])), (aR, .inl (cR, n, .inr (.inr (.inr (.inr ra))))), (q_7, .inl (cR, (n + 1), .inr (.inr (.inr (.inr (va_up f n (some q_51)))))))]) (cx := [(sm, .inr (2, [.ref aSL, .ref aST, .ref q_7, .int xc, .int xp, .int xs, tv, .int xn, .int xi, .int xl])), (q_7, .inl (cR, (n + 1), .inr (.inr (.inr (.inr (va_up f n (some q_51)))))))]) [0, 2] (by decide) rfl
      exact W.vret hx hb hr (fun t ht hW => ⟨⟨(q_7, va_up f n (some q_51), RL ++ [q_51], va_up row q_51 (upd (upd (upd (upd (fun _ => 0) (0) k) (1) a) (2) b) (3) 0)), rfl, hpost, by rw [ht]; exact hP9, hD9⟩, hS.F ht⟩) hS.2.2 dX2_add_76
    · -- 22
      have hlt : t < n := by rw [nI_leI (by omega) (by omega)] at c_22; omega
      refine lv_aload hx hb dX2_add_25 (lv_at hl 1 rfl) ?_
      refine lv_iload hx hb dX2_add_27 (lv_at hl 0 rfl) ?_
      refine lv_aload_n hx hb dX2_add_29 rfl (lv_at hl 2 rfl) ?_
      refine va_get (D := (dC, dI)) (ci := 2) (v := .ref aR) (C := RX2) (T := TX2) (N := 10) hx hb hts hinX2 hown hK hP 0 rfl rfl 2 (by decide) k0 (fun _ h9 => h9) rfl dX2_add_30 ?_
      refine lv_iload hx hb dX2_add_33 (lv_at hl 0 rfl) ?_
      obtain ⟨v_10, hv_v_10, hm_v_10, -, -, -, -⟩ := RW_get hR (show t < n by omega)
      refine aa_ald hx hb hK hP 1 1 rfl rfl (vp_in_nI (by omega) (by omega)) (by rw [nI_clamp (n := t) (by omega)]; exact hv_v_10) dX2_add_35 ?_
      obtain ⟨kx_11, hkx_11⟩ := va_pl_get (X := [(sm, .inr (2, [.ref aSL, .ref aST, .ref aR, .int xc, .int xp, .int xs, tv, .int xn, .int xi, .int xl])), (aR, .inl (cR, n, .inr (.inr (.inr (.inr ra))))), (q_7, .inl (cR, (n + 1), .inr (.inr (.inr (.inr f)))))]) (f := rowE cI row) hm_v_10
      refine aa_ast hx hb hov hK hP hD hS 2 1 0 kx_11 rfl rfl rfl hkx_11 (vp_in_nI (by omega) (by omega)) dX2_add_36 (fun H_12 locs hP hD hS => ?_)
      have hP : va_P (dC, dI) vwCl ([(sm, .inr (2, [.ref aSL, .ref aST, .ref aR, .int xc, .int xp, .int xs, tv, .int xn, .int xi, .int xl])), (aR, .inl (cR, n, .inr (.inr (.inr (.inr ra))))), (q_7, .inl (cR, (n + 1), .inr (.inr (.inr (.inr (va_up f ((nI t)).toNatClampNeg (some v_10)))))))] ++ va_pl RL (rowE cI row)) H_12 := hP
      have hD : va_D A ([(sm, .inr (2, [.ref aSL, .ref aST, .ref aR, .int xc, .int xp, .int xs, tv, .int xn, .int xi, .int xl])), (aR, .inl (cR, n, .inr (.inr (.inr (.inr ra))))), (q_7, .inl (cR, (n + 1), .inr (.inr (.inr (.inr (va_up f ((nI t)).toNatClampNeg (some v_10)))))))] ++ va_pl RL (rowE cI row)) := hD
      rw [nI_clamp (by omega)] at hP hD
      have hP : va_P (dC, dI) vwCl ([(sm, .inr (2, [.ref aSL, .ref aST, .ref aR, .int xc, .int xp, .int xs, tv, .int xn, .int xi, .int xl])), (aR, .inl (cR, n, .inr (.inr (.inr (.inr ra))))), (q_7, .inl (cR, (n + 1), .inr (.inr (.inr (.inr (va_up f t (some v_10)))))))] ++ va_pl RL (rowE cI row)) H_12 := hP
      have hD : va_D A ([(sm, .inr (2, [.ref aSL, .ref aST, .ref aR, .int xc, .int xp, .int xs, tv, .int xn, .int xi, .int xl])), (aR, .inl (cR, n, .inr (.inr (.inr (.inr ra))))), (q_7, .inl (cR, (n + 1), .inr (.inr (.inr (.inr (va_up f t (some v_10)))))))] ++ va_pl RL (rowE cI row)) := hD
      refine lv_iinc (v := nI (t + 1)) (lv' := [(5, .int (nI (t + 1))), (4, .ref q_7), (0, .ref sm), (1, .int k), (2, .int a), (3, .int b)]) hx hb dX2_add_37 hl (k := 0) rfl (nI_1 _) (by decide) rfl (fun ls hl => ?_)
      refine lv_goto (tgt := 15) hx hb dX2_add_40 (by decide) ?_
      exact ih_15 (t + 1) (va_up f t (some v_10)) _ _ _ (by omega) (cp_step hf hv_v_10) (by omega) hP hD hS (lv_sub hl [0, 1, 2, 3, 4, 5] rfl)

set_option maxHeartbeats 4000000 in
set_option maxRecDepth 100000 in
theorem c_X2_take (l : Launch) (dC : Nat → ClassId) (dI : Nat → Nat → Nat) (cI cR : ClassId) (sm aR : Nat) (sz : Nat)  (aSL : Nat) (aST : Nat) (xc : Int32) (xp : Int32) (xs : Int32) (tv : Value) (xn : Int32) (xi : Int32) (xl : Int32) (n : Nat) (ra : Nat → Option Nat) (RL : List Nat) (row : Nat → Nat → Int32) (i : Nat) (K : N2I) (F : N2I) (S : N2I) (B : N2I) (hn : n ≤ 60) (hR : RW n ra RL row K F S B) (hi : i < n) : Met l yX2_take wsX2_take ({ frames := 0, cells := 1, slots := 60, locals := 0 } : Room) (va_Pc [.ref sm, .int (nI i)] (pa_  (dC, dI) [(cI, .int), (cR, (.array .int))] ([(sm, .inr (2, [.ref aSL, .ref aST, .ref aR, .int xc, .int xp, .int xs, tv, .int xn, .int xi, .int xl])), (aR, .inl (cR, n, .inr (.inr (.inr (.inr ra)))))] ++ va_pl RL (rowE cI row)) sz)) (va_Qv (fun (u : Nat × (Nat → Option Nat)) => RW (n - 1) u.2 RL row (dlA K i) (dlA F i) (dlA S i) (dlA B i) ∧ ∀ j, j < n - 1 → u.2 j = dlA ra i j) (fun (u : Nat × (Nat → Option Nat)) (t : State) => va_P (dC, dI) vwCl ([(sm, .inr (2, [.ref aSL, .ref aST, .ref u.1, .int xc, .int xp, .int xs, tv, .int xn, .int xi, .int xl])), (u.1, .inl (cR, (n - 1), .inr (.inr (.inr (.inr u.2)))))] ++ va_pl RL (rowE cI row)) t.heap ∧ va_D (va_A ([(sm, .inr (2, [.ref aSL, .ref aST, .ref aR, .int xc, .int xp, .int xs, tv, .int xn, .int xi, .int xl])), (aR, .inl (cR, n, .inr (.inr (.inr (.inr ra)))))] ++ va_pl RL (rowE cI row)) sz) ([(sm, .inr (2, [.ref aSL, .ref aST, .ref u.1, .int xc, .int xp, .int xs, tv, .int xn, .int xi, .int xl])), (u.1, .inl (cR, (n - 1), .inr (.inr (.inr (.inr u.2)))))] ++ va_pl RL (rowE cI row))) (va_A ([(sm, .inr (2, [.ref aSL, .ref aST, .ref aR, .int xc, .int xp, .int xs, tv, .int xn, .int xi, .int xl])), (aR, .inl (cR, n, .inr (.inr (.inr (.inr ra)))))] ++ va_pl RL (rowE cI row)) sz)) 1 60 (va_A ([(sm, .inr (2, [.ref aSL, .ref aST, .ref aR, .int xc, .int xp, .int xs, tv, .int xn, .int xi, .int xl])), (aR, .inl (cR, n, .inr (.inr (.inr (.inr ra)))))] ++ va_pl RL (rowE cI row)) sz) := by
  refine Met.ofW (cc := cX2_take) (maxL := 4) (ret := none) (by decide) rfl ?_
  intro p e s m args below meth c s₁ BB hml hv
  obtain ⟨rfl, hsz, hP, hK, hD0, hN, hov⟩ := hv
  have hx := BB.exec
  have hb := BB.bytes
  have hr := BB.returns
  have hts := atoms_spec (ws := wsX2_take) BB.pre
  have hown : s.vm.findClass RX2 = some m.cls := findClass_of_methodNamed BB.named
  have hlocks := BB.notSynchronized
  subst hsz
  have hD := hD0.self (sz := s.heap.size)
  generalize hAe : va_A ([(sm, .inr (2, [.ref aSL, .ref aST, .ref aR, .int xc, .int xp, .int xs, tv, .int xn, .int xi, .int xl])), (aR, .inl (cR, n, .inr (.inr (.inr (.inr ra)))))] ++ va_pl RL (rowE cI row)) s.heap.size = A at hD ⊢
  have hA : ∀ q : Nat, s.heap.size ≤ q → A q := fun q h => by rw [← hAe]; exact Or.inr h
  have hS : va_S A s.heap s.heap [] := va_S.rf
  have hP : va_P (dC, dI) vwCl ([(sm, .inr (2, [.ref aSL, .ref aST, .ref aR, .int xc, .int xp, .int xs, tv, .int xn, .int xi, .int xl])), (aR, .inl (cR, n, .inr (.inr (.inr (.inr ra)))))] ++ va_pl RL (rowE cI row)) s.heap := hP
  have hl := lv_entry ([.ref sm, .int (nI i)]) (n := 4) (Nat.le_of_ble_eq_true rfl)
  rw [lg_entry_eq]
  generalize (lg_sl ([.ref sm, .int (nI i)]) ++ List.replicate (4 - (lg_sl ([.ref sm, .int (nI i)])).length) Slot.unset).toArray = ls at hl ⊢
  have hl : lv_has ls 4 [(0, .ref sm), (1, .int (nI i))] := hl
  have k0 := hts (.fieldLink RX2 17 "KnifeLedgerLaw$Sim" "rows" "[[I") (by decide +kernel)
  have hinX2 : ∀ w ∈ wsX20, w ∈ wsX2_take := by decide +kernel
  have k2 := hts (.classLink RX2 16 "[I") (by decide +kernel)
  refine lv_aload_n hx hb dX2_take_0 rfl (lv_at hl 0 rfl) ?_
  refine va_get (D := (dC, dI)) (ci := 2) (v := .ref aR) (C := RX2) (T := TX2) (N := 10) hx hb hts hinX2 hown hK hP 0 rfl rfl 2 (by decide) k0 (fun _ h9 => h9) rfl dX2_take_1 ?_
  refine va_alen (v := nI n) hx hb hK hP 1 1 rfl rfl rfl dX2_take_4 ?_
  refine lv_iconst (v := 1) hx hb dX2_take_5 (by decide) ?_
  refine lv_isub hx hb dX2_take_6 ?_
  rw [show nI n - 1 = nI (n - 1) from pk_sub (b := 1) (by omega)]
  refine aa_new (N' := (n - 1)) hx hb hown k2 hov hK hP hD hS hA (nI_pos (by omega)) (nI_clamp (by omega)) (by omega) (by decide) (by show _ ≤ 60; omega) dX2_take_7 (fun q_7 cA_7 H_1 hK hP hD hS => ?_)
  have hK : va_K (dC, dI) vwCl [(cI, .int), (cR, (.array .int)), (cA_7, (.array .int))] s := hK
  have hP := va_P.swap (a := [(sm, .inr (2, [.ref aSL, .ref aST, .ref aR, .int xc, .int xp, .int xs, tv, .int xn, .int xi, .int xl])), (aR, .inl (cR, n, .inr (.inr (.inr (.inr ra)))))]) (b := va_pl RL (rowE cI row)) (c := [(q_7, .inl (cA_7, (n - 1), .inr (.inr (.inr (.inr (fun _ => none))))))]) hP
  have hD := va_D.swap (a := [(sm, .inr (2, [.ref aSL, .ref aST, .ref aR, .int xc, .int xp, .int xs, tv, .int xn, .int xi, .int xl])), (aR, .inl (cR, n, .inr (.inr (.inr (.inr ra)))))]) (b := va_pl RL (rowE cI row)) (c := [(q_7, .inl (cA_7, (n - 1), .inr (.inr (.inr (.inr (fun _ => none))))))]) hD
  have hP : va_P (dC, dI) vwCl ([(sm, .inr (2, [.ref aSL, .ref aST, .ref aR, .int xc, .int xp, .int xs, tv, .int xn, .int xi, .int xl])), (aR, .inl (cR, n, .inr (.inr (.inr (.inr ra))))), (q_7, .inl (cA_7, (n - 1), .inr (.inr (.inr (.inr (fun _ => none))))))] ++ va_pl RL (rowE cI row)) H_1 := hP
  have hD : va_D A ([(sm, .inr (2, [.ref aSL, .ref aST, .ref aR, .int xc, .int xp, .int xs, tv, .int xn, .int xi, .int xl])), (aR, .inl (cR, n, .inr (.inr (.inr (.inr ra))))), (q_7, .inl (cA_7, (n - 1), .inr (.inr (.inr (.inr (fun _ => none))))))] ++ va_pl RL (rowE cI row)) := hD
  obtain rfl : cR = cA_7 := arr_same hK 1 2 rfl rfl
  have hK := hK.sub (tys' := [(cI, .int), (cR, (.array .int))]) [0, 1] rfl
  refine W.widen (k := 1) (n := 60) (by decide) (by omega) ?_
  refine lv_astore_n (lv' := [(2, .ref q_7), (0, .ref sm), (1, .int (nI i))]) hx hb dX2_take_10 rfl hl (by decide) rfl (fun ls hl => ?_)
  refine lv_iconst (v := 0) hx hb dX2_take_11 (by decide) ?_
  refine lv_istore_n (lv' := [(3, .int 0), (2, .ref q_7), (0, .ref sm), (1, .int (nI i))]) hx hb dX2_take_12 rfl hl (by decide) rfl (fun ls hl => ?_)
  refine (fun (KK : ∀ (nn9 : Nat) (t : Nat) (f : Nat → Option Nat) (H : Heap) (locs : List Loc) (ls : Array Slot) (ht : t ≤ n - 1) (hf : ∀ j, j < t → f j = dlA ra i j), n - 1 - t < nn9 → va_P (dC, dI) vwCl ([(sm, .inr (2, [.ref aSL, .ref aST, .ref aR, .int xc, .int xp, .int xs, tv, .int xn, .int xi, .int xl])), (aR, .inl (cR, n, .inr (.inr (.inr (.inr ra))))), (q_7, .inl (cR, (n - 1), .inr (.inr (.inr (.inr f)))))] ++ va_pl RL (rowE cI row)) H → va_D A ([(sm, .inr (2, [.ref aSL, .ref aST, .ref aR, .int xc, .int xp, .int xs, tv, .int xn, .int xi, .int xl])), (aR, .inl (cR, n, .inr (.inr (.inr (.inr ra))))), (q_7, .inl (cR, (n - 1), .inr (.inr (.inr (.inr f)))))] ++ va_pl RL (rowE cI row)) → va_S A s.heap H locs → lv_has ls 4 [(3, .int (nI t)), (2, .ref q_7), (0, .ref sm), (1, .int (nI i))] → W p l e _ s m _ below meth c H locs 1 60 _ (F0 m 13 ls [])) => KK (n - 1 - 0 + 1) 0 (fun _ => none) _ _ _ (Nat.zero_le _) (fun i hi => absurd hi (by omega)) (by omega) hP hD hS (lv_sub hl [0, 1, 2, 3] rfl)) ?_
  intro nn_13
  induction nn_13 with
  | zero => intro t f H locs ls ht hf hn9; exact absurd hn9 (Nat.not_lt_zero _)
  | succ nn_13 ih_13 =>
    intro t f H_2 locs ls ht hf hn_13 hP hD hS hl
    refine lv_iload_n hx hb dX2_take_13 rfl (lv_at hl 0 rfl) ?_
    refine lv_aload_n hx hb dX2_take_14 rfl (lv_at hl 1 rfl) ?_
    refine va_alen (v := nI (n - 1)) hx hb hK hP 2 1 rfl rfl rfl dX2_take_15 ?_
    refine lv_icmp_ge (tgt := 45) hx hb dX2_take_16 (by decide) (fun c_16 => ?_) (fun c_16 => ?_)
    · -- 16
      have hge : n - 1 ≤ t := by rw [nI_leI (by omega) (by omega)] at c_16; omega
      refine lv_aload_n hx hb dX2_take_45 rfl (lv_at hl 2 rfl) ?_
      refine lv_aload_n hx hb dX2_take_46 rfl (lv_at hl 1 rfl) ?_
      refine va_put (D := (dC, dI)) (ci := 2) (v := .ref q_7) (ty := .array (.array .int)) (C := RX2) (T := TX2) (N := 10) hx hb hts hinX2 tyX2 tyX2_ok nmX2 hown hK hP hD hS 0 rfl rfl 2 (by decide) k0 (fun _ h9 => h9) rfl (by decide +kernel) rfl rfl (Nat.le_of_ble_eq_true rfl) dX2_take_47 (fun H_3 locs hP hD hS => ?_)
      have hP : va_P (dC, dI) vwCl ([(sm, .inr (2, [.ref aSL, .ref aST, .ref q_7, .int xc, .int xp, .int xs, tv, .int xn, .int xi, .int xl])), (aR, .inl (cR, n, .inr (.inr (.inr (.inr ra))))), (q_7, .inl (cR, (n - 1), .inr (.inr (.inr (.inr f)))))] ++ va_pl RL (rowE cI row)) H_3 := hP
      have hD : va_D A ([(sm, .inr (2, [.ref aSL, .ref aST, .ref q_7, .int xc, .int xp, .int xs, tv, .int xn, .int xi, .int xl])), (aR, .inl (cR, n, .inr (.inr (.inr (.inr ra))))), (q_7, .inl (cR, (n - 1), .inr (.inr (.inr (.inr f)))))] ++ va_pl RL (rowE cI row)) := hD
      have hpost : RW (n - 1) f RL row (dlA K i) (dlA F i) (dlA S i) (dlA B i) ∧ ∀ j, j < n - 1 → f j = dlA ra i j := by
        exact ⟨RW_take hR hi (fun j hj => hf j (by omega)), fun j hj => hf j (by omega)⟩
      have hP9 := hP.part (X := [(sm, .inr (2, [.ref aSL, .ref aST, .ref q_7, .int xc, .int xp, .int xs, tv, .int xn, .int xi, .int xl])), (aR, .inl (cR, n, .inr (.inr (.inr (.inr ra))))), (q_7, .inl (cR, (n - 1), .inr (.inr (.inr (.inr f)))))]) (cx := [(sm, .inr (2, [.ref aSL, .ref aST, .ref q_7, .int xc, .int xp, .int xs, tv, .int xn, .int xi, .int xl])), (q_7, .inl (cR, (n - 1), .inr (.inr (.inr (.inr f)))))]) [0, 2] rfl
      have hD9 := hD.part (X := [(sm, .inr (2, [.ref aSL, .ref aST, .ref q_7, .int xc, .int xp, .int xs, tv, .int xn, .int xi, .int xl])), (aR, .inl (cR, n, .inr (.inr (.inr (.inr ra))))), (q_7, .inl (cR, (n - 1), .inr (.inr (.inr (.inr f)))))]) (cx := [(sm, .inr (2, [.ref aSL, .ref aST, .ref q_7, .int xc, .int xp, .int xs, tv, .int xn, .int xi, .int xl])), (q_7, .inl (cR, (n - 1), .inr (.inr (.inr (.inr f)))))]) [0, 2] (by decide) rfl
      exact W.vret hx hb hr (fun t ht hW => ⟨⟨(q_7, f), rfl, hpost, by rw [ht]; exact hP9, hD9⟩, hS.F ht⟩) hS.2.2 dX2_take_50
    · -- 16
      have hlt : t < n - 1 := by rw [nI_leI (by omega) (by omega)] at c_16; omega
      refine lv_aload_n hx hb dX2_take_19 rfl (lv_at hl 1 rfl) ?_
      refine lv_iload_n hx hb dX2_take_20 rfl (lv_at hl 0 rfl) ?_
      refine lv_aload_n hx hb dX2_take_21 rfl (lv_at hl 2 rfl) ?_
      refine va_get (D := (dC, dI)) (ci := 2) (v := .ref aR) (C := RX2) (T := TX2) (N := 10) hx hb hts hinX2 hown hK hP 0 rfl rfl 2 (by decide) k0 (fun _ h9 => h9) rfl dX2_take_22 ?_
      refine lv_iload_n hx hb dX2_take_25 rfl (lv_at hl 0 rfl) ?_
      refine lv_iload_n hx hb dX2_take_26 rfl (lv_at hl 3 rfl) ?_
      refine lv_icmp_ge (tgt := 34) hx hb dX2_take_27 (by decide) (fun c_27 => ?_) (fun c_27 => ?_)
      · -- 27
        refine lv_iload_n hx hb dX2_take_34 rfl (lv_at hl 0 rfl) ?_
        refine lv_iconst (v := 1) hx hb dX2_take_35 (by decide) ?_
        refine lv_iadd hx hb dX2_take_36 ?_
        rw [nI_1 t]
        obtain ⟨v_4, hv_v_4, hm_v_4, -, -, -, -⟩ := RW_get hR (show (t + 1) < n by omega)
        refine aa_ald hx hb hK hP 1 1 rfl rfl (vp_in_nI (by omega) (by omega)) (by rw [nI_clamp (n := (t + 1)) (by omega)]; exact hv_v_4) dX2_take_37 ?_
        obtain ⟨kx_5, hkx_5⟩ := va_pl_get (X := [(sm, .inr (2, [.ref aSL, .ref aST, .ref aR, .int xc, .int xp, .int xs, tv, .int xn, .int xi, .int xl])), (aR, .inl (cR, n, .inr (.inr (.inr (.inr ra))))), (q_7, .inl (cR, (n - 1), .inr (.inr (.inr (.inr f)))))]) (f := rowE cI row) hm_v_4
        refine aa_ast hx hb hov hK hP hD hS 2 1 0 kx_5 rfl rfl rfl hkx_5 (vp_in_nI (by omega) (by omega)) dX2_take_38 (fun H_6 locs hP hD hS => ?_)
        have hP : va_P (dC, dI) vwCl ([(sm, .inr (2, [.ref aSL, .ref aST, .ref aR, .int xc, .int xp, .int xs, tv, .int xn, .int xi, .int xl])), (aR, .inl (cR, n, .inr (.inr (.inr (.inr ra))))), (q_7, .inl (cR, (n - 1), .inr (.inr (.inr (.inr (va_up f ((nI t)).toNatClampNeg (some v_4)))))))] ++ va_pl RL (rowE cI row)) H_6 := hP
        have hD : va_D A ([(sm, .inr (2, [.ref aSL, .ref aST, .ref aR, .int xc, .int xp, .int xs, tv, .int xn, .int xi, .int xl])), (aR, .inl (cR, n, .inr (.inr (.inr (.inr ra))))), (q_7, .inl (cR, (n - 1), .inr (.inr (.inr (.inr (va_up f ((nI t)).toNatClampNeg (some v_4)))))))] ++ va_pl RL (rowE cI row)) := hD
        rw [nI_clamp (by omega)] at hP hD
        have hP : va_P (dC, dI) vwCl ([(sm, .inr (2, [.ref aSL, .ref aST, .ref aR, .int xc, .int xp, .int xs, tv, .int xn, .int xi, .int xl])), (aR, .inl (cR, n, .inr (.inr (.inr (.inr ra))))), (q_7, .inl (cR, (n - 1), .inr (.inr (.inr (.inr (va_up f t (some v_4)))))))] ++ va_pl RL (rowE cI row)) H_6 := hP
        have hD : va_D A ([(sm, .inr (2, [.ref aSL, .ref aST, .ref aR, .int xc, .int xp, .int xs, tv, .int xn, .int xi, .int xl])), (aR, .inl (cR, n, .inr (.inr (.inr (.inr ra))))), (q_7, .inl (cR, (n - 1), .inr (.inr (.inr (.inr (va_up f t (some v_4)))))))] ++ va_pl RL (rowE cI row)) := hD
        refine lv_iinc (v := nI (t + 1)) (lv' := [(3, .int (nI (t + 1))), (2, .ref q_7), (0, .ref sm), (1, .int (nI i))]) hx hb dX2_take_39 hl (k := 0) rfl (nI_1 _) (by decide) rfl (fun ls hl => ?_)
        refine lv_goto (tgt := 13) hx hb dX2_take_42 (by decide) ?_
        exact ih_13 (t + 1) (va_up f t (some v_4)) _ _ _ (by omega) (dl_step hf (by rw [dlA_hi (by rw [nI_leI (by omega) (by omega)] at c_27; omega)]; exact hv_v_4)) (by omega) hP hD hS (lv_sub hl [0, 1, 2, 3] rfl)
      · -- 27
        refine lv_iload_n hx hb dX2_take_30 rfl (lv_at hl 0 rfl) ?_
        refine lv_goto (tgt := 37) hx hb dX2_take_31 (by decide) ?_
        obtain ⟨v_7, hv_v_7, hm_v_7, -, -, -, -⟩ := RW_get hR (show t < n by omega)
        refine aa_ald hx hb hK hP 1 1 rfl rfl (vp_in_nI (by omega) (by omega)) (by rw [nI_clamp (n := t) (by omega)]; exact hv_v_7) dX2_take_37 ?_
        obtain ⟨kx_8, hkx_8⟩ := va_pl_get (X := [(sm, .inr (2, [.ref aSL, .ref aST, .ref aR, .int xc, .int xp, .int xs, tv, .int xn, .int xi, .int xl])), (aR, .inl (cR, n, .inr (.inr (.inr (.inr ra))))), (q_7, .inl (cR, (n - 1), .inr (.inr (.inr (.inr f)))))]) (f := rowE cI row) hm_v_7
        refine aa_ast hx hb hov hK hP hD hS 2 1 0 kx_8 rfl rfl rfl hkx_8 (vp_in_nI (by omega) (by omega)) dX2_take_38 (fun H_9 locs hP hD hS => ?_)
        have hP : va_P (dC, dI) vwCl ([(sm, .inr (2, [.ref aSL, .ref aST, .ref aR, .int xc, .int xp, .int xs, tv, .int xn, .int xi, .int xl])), (aR, .inl (cR, n, .inr (.inr (.inr (.inr ra))))), (q_7, .inl (cR, (n - 1), .inr (.inr (.inr (.inr (va_up f ((nI t)).toNatClampNeg (some v_7)))))))] ++ va_pl RL (rowE cI row)) H_9 := hP
        have hD : va_D A ([(sm, .inr (2, [.ref aSL, .ref aST, .ref aR, .int xc, .int xp, .int xs, tv, .int xn, .int xi, .int xl])), (aR, .inl (cR, n, .inr (.inr (.inr (.inr ra))))), (q_7, .inl (cR, (n - 1), .inr (.inr (.inr (.inr (va_up f ((nI t)).toNatClampNeg (some v_7)))))))] ++ va_pl RL (rowE cI row)) := hD
        rw [nI_clamp (by omega)] at hP hD
        have hP : va_P (dC, dI) vwCl ([(sm, .inr (2, [.ref aSL, .ref aST, .ref aR, .int xc, .int xp, .int xs, tv, .int xn, .int xi, .int xl])), (aR, .inl (cR, n, .inr (.inr (.inr (.inr ra))))), (q_7, .inl (cR, (n - 1), .inr (.inr (.inr (.inr (va_up f t (some v_7)))))))] ++ va_pl RL (rowE cI row)) H_9 := hP
        have hD : va_D A ([(sm, .inr (2, [.ref aSL, .ref aST, .ref aR, .int xc, .int xp, .int xs, tv, .int xn, .int xi, .int xl])), (aR, .inl (cR, n, .inr (.inr (.inr (.inr ra))))), (q_7, .inl (cR, (n - 1), .inr (.inr (.inr (.inr (va_up f t (some v_7)))))))] ++ va_pl RL (rowE cI row)) := hD
        refine lv_iinc (v := nI (t + 1)) (lv' := [(3, .int (nI (t + 1))), (2, .ref q_7), (0, .ref sm), (1, .int (nI i))]) hx hb dX2_take_39 hl (k := 0) rfl (nI_1 _) (by decide) rfl (fun ls hl => ?_)
        refine lv_goto (tgt := 13) hx hb dX2_take_42 (by decide) ?_
        exact ih_13 (t + 1) (va_up f t (some v_7)) _ _ _ (by omega) (dl_step hf (by rw [dlA_lo (by rw [nI_leI (by omega) (by omega)] at c_27; omega)]; exact hv_v_7)) (by omega) hP hD hS (lv_sub hl [0, 1, 2, 3] rfl)

set_option maxHeartbeats 4000000 in
set_option maxRecDepth 100000 in
theorem c_X2_put (l : Launch) (dC : Nat → ClassId) (dI : Nat → Nat → Nat) (cI cR : ClassId) (sm aR : Nat) (sz : Nat)  (aSL : Nat) (aST : Nat) (a0 : Nat) (xc : Int32) (xp : Int32) (xs : Int32) (tv : Value) (xn : Int32) (xi : Int32) (xl : Int32) (n : Nat) (ra : Nat → Option Nat) (RL : List Nat) (row : Nat → Nat → Int32) (q : Nat) (kk : Int32) (aa : Int32) (bb : Int32) (zz : Int32) (K : N2I) (F : N2I) (S : N2I) (B : N2I) (hn : n ≤ 60) (hR : RW n ra RL row K F S B) (hq : q ≤ n) (ha0 : a0 ∈ RL) (he0 : row a0 0 = kk) (he1 : row a0 1 = aa) (he2 : row a0 2 = bb) (he3 : row a0 3 = zz) (hne : ∀ j, j < n → ¬ ra j = some a0) : Met l yX2_put wsX2_put ({ frames := 0, cells := 1, slots := 61, locals := 0 } : Room) (va_Pc [.ref sm, .int (nI q), .ref a0] (pa_  (dC, dI) [(cI, .int), (cR, (.array .int))] ([(sm, .inr (2, [.ref aSL, .ref aST, .ref aR, .int xc, .int xp, .int xs, tv, .int xn, .int xi, .int xl])), (aR, .inl (cR, n, .inr (.inr (.inr (.inr ra)))))] ++ va_pl RL (rowE cI row)) sz)) (va_Qv (fun (u : Nat × (Nat → Option Nat)) => RW (n + 1) u.2 RL row (inA K q kk) (inA F q aa) (inA S q bb) (inA B q zz)) (fun (u : Nat × (Nat → Option Nat)) (t : State) => va_P (dC, dI) vwCl ([(sm, .inr (2, [.ref aSL, .ref aST, .ref u.1, .int xc, .int xp, .int xs, tv, .int xn, .int xi, .int xl])), (u.1, .inl (cR, (n + 1), .inr (.inr (.inr (.inr u.2)))))] ++ va_pl RL (rowE cI row)) t.heap ∧ va_D (va_A ([(sm, .inr (2, [.ref aSL, .ref aST, .ref aR, .int xc, .int xp, .int xs, tv, .int xn, .int xi, .int xl])), (aR, .inl (cR, n, .inr (.inr (.inr (.inr ra)))))] ++ va_pl RL (rowE cI row)) sz) ([(sm, .inr (2, [.ref aSL, .ref aST, .ref u.1, .int xc, .int xp, .int xs, tv, .int xn, .int xi, .int xl])), (u.1, .inl (cR, (n + 1), .inr (.inr (.inr (.inr u.2)))))] ++ va_pl RL (rowE cI row))) (va_A ([(sm, .inr (2, [.ref aSL, .ref aST, .ref aR, .int xc, .int xp, .int xs, tv, .int xn, .int xi, .int xl])), (aR, .inl (cR, n, .inr (.inr (.inr (.inr ra)))))] ++ va_pl RL (rowE cI row)) sz)) 1 61 (va_A ([(sm, .inr (2, [.ref aSL, .ref aST, .ref aR, .int xc, .int xp, .int xs, tv, .int xn, .int xi, .int xl])), (aR, .inl (cR, n, .inr (.inr (.inr (.inr ra)))))] ++ va_pl RL (rowE cI row)) sz) := by
  refine Met.ofW (cc := cX2_put) (maxL := 5) (ret := none) (by decide) rfl ?_
  intro p e s m args below meth c s₁ BB hml hv
  obtain ⟨rfl, hsz, hP, hK, hD0, hN, hov⟩ := hv
  have hx := BB.exec
  have hb := BB.bytes
  have hr := BB.returns
  have hts := atoms_spec (ws := wsX2_put) BB.pre
  have hown : s.vm.findClass RX2 = some m.cls := findClass_of_methodNamed BB.named
  have hlocks := BB.notSynchronized
  subst hsz
  have hD := hD0.self (sz := s.heap.size)
  generalize hAe : va_A ([(sm, .inr (2, [.ref aSL, .ref aST, .ref aR, .int xc, .int xp, .int xs, tv, .int xn, .int xi, .int xl])), (aR, .inl (cR, n, .inr (.inr (.inr (.inr ra)))))] ++ va_pl RL (rowE cI row)) s.heap.size = A at hD ⊢
  have hA : ∀ q : Nat, s.heap.size ≤ q → A q := fun q h => by rw [← hAe]; exact Or.inr h
  have hS : va_S A s.heap s.heap [] := va_S.rf
  have hP : va_P (dC, dI) vwCl ([(sm, .inr (2, [.ref aSL, .ref aST, .ref aR, .int xc, .int xp, .int xs, tv, .int xn, .int xi, .int xl])), (aR, .inl (cR, n, .inr (.inr (.inr (.inr ra)))))] ++ va_pl RL (rowE cI row)) s.heap := hP
  have hl := lv_entry ([.ref sm, .int (nI q), .ref a0]) (n := 5) (Nat.le_of_ble_eq_true rfl)
  rw [lg_entry_eq]
  generalize (lg_sl ([.ref sm, .int (nI q), .ref a0]) ++ List.replicate (5 - (lg_sl ([.ref sm, .int (nI q), .ref a0])).length) Slot.unset).toArray = ls at hl ⊢
  have hl : lv_has ls 5 [(0, .ref sm), (1, .int (nI q)), (2, .ref a0)] := hl
  have k0 := hts (.fieldLink RX2 17 "KnifeLedgerLaw$Sim" "rows" "[[I") (by decide +kernel)
  have hinX2 : ∀ w ∈ wsX20, w ∈ wsX2_put := by decide +kernel
  have k2 := hts (.classLink RX2 16 "[I") (by decide +kernel)
  refine lv_aload_n hx hb dX2_put_0 rfl (lv_at hl 0 rfl) ?_
  refine va_get (D := (dC, dI)) (ci := 2) (v := .ref aR) (C := RX2) (T := TX2) (N := 10) hx hb hts hinX2 hown hK hP 0 rfl rfl 2 (by decide) k0 (fun _ h9 => h9) rfl dX2_put_1 ?_
  refine va_alen (v := nI n) hx hb hK hP 1 1 rfl rfl rfl dX2_put_4 ?_
  refine lv_iconst (v := 1) hx hb dX2_put_5 (by decide) ?_
  refine lv_iadd hx hb dX2_put_6 ?_
  rw [nI_1 n]
  refine aa_new (N' := (n + 1)) hx hb hown k2 hov hK hP hD hS hA (nI_pos (by omega)) (nI_clamp (by omega)) (by omega) (by decide) (by show _ ≤ 61; omega) dX2_put_7 (fun q_7 cA_7 H_1 hK hP hD hS => ?_)
  have hK : va_K (dC, dI) vwCl [(cI, .int), (cR, (.array .int)), (cA_7, (.array .int))] s := hK
  have hP := va_P.swap (a := [(sm, .inr (2, [.ref aSL, .ref aST, .ref aR, .int xc, .int xp, .int xs, tv, .int xn, .int xi, .int xl])), (aR, .inl (cR, n, .inr (.inr (.inr (.inr ra)))))]) (b := va_pl RL (rowE cI row)) (c := [(q_7, .inl (cA_7, (n + 1), .inr (.inr (.inr (.inr (fun _ => none))))))]) hP
  have hD := va_D.swap (a := [(sm, .inr (2, [.ref aSL, .ref aST, .ref aR, .int xc, .int xp, .int xs, tv, .int xn, .int xi, .int xl])), (aR, .inl (cR, n, .inr (.inr (.inr (.inr ra)))))]) (b := va_pl RL (rowE cI row)) (c := [(q_7, .inl (cA_7, (n + 1), .inr (.inr (.inr (.inr (fun _ => none))))))]) hD
  have hP : va_P (dC, dI) vwCl ([(sm, .inr (2, [.ref aSL, .ref aST, .ref aR, .int xc, .int xp, .int xs, tv, .int xn, .int xi, .int xl])), (aR, .inl (cR, n, .inr (.inr (.inr (.inr ra))))), (q_7, .inl (cA_7, (n + 1), .inr (.inr (.inr (.inr (fun _ => none))))))] ++ va_pl RL (rowE cI row)) H_1 := hP
  have hD : va_D A ([(sm, .inr (2, [.ref aSL, .ref aST, .ref aR, .int xc, .int xp, .int xs, tv, .int xn, .int xi, .int xl])), (aR, .inl (cR, n, .inr (.inr (.inr (.inr ra))))), (q_7, .inl (cA_7, (n + 1), .inr (.inr (.inr (.inr (fun _ => none))))))] ++ va_pl RL (rowE cI row)) := hD
  obtain rfl : cR = cA_7 := arr_same hK 1 2 rfl rfl
  have hK := hK.sub (tys' := [(cI, .int), (cR, (.array .int))]) [0, 1] rfl
  refine W.widen (k := 1) (n := 61) (by decide) (by omega) ?_
  refine lv_astore_n (lv' := [(3, .ref q_7), (0, .ref sm), (1, .int (nI q)), (2, .ref a0)]) hx hb dX2_put_10 rfl hl (by decide) rfl (fun ls hl => ?_)
  refine lv_iconst (v := 0) hx hb dX2_put_11 (by decide) ?_
  refine lv_istore (lv' := [(4, .int 0), (3, .ref q_7), (0, .ref sm), (1, .int (nI q)), (2, .ref a0)]) hx hb dX2_put_12 hl (by decide) rfl (fun ls hl => ?_)
  refine (fun (KK : ∀ (nn9 : Nat) (t : Nat) (f : Nat → Option Nat) (H : Heap) (locs : List Loc) (ls : Array Slot) (ht : t ≤ n + 1) (hf : ∀ j, j < t → f j = inA ra q (some a0) j), n + 1 - t < nn9 → va_P (dC, dI) vwCl ([(sm, .inr (2, [.ref aSL, .ref aST, .ref aR, .int xc, .int xp, .int xs, tv, .int xn, .int xi, .int xl])), (aR, .inl (cR, n, .inr (.inr (.inr (.inr ra))))), (q_7, .inl (cR, (n + 1), .inr (.inr (.inr (.inr f)))))] ++ va_pl RL (rowE cI row)) H → va_D A ([(sm, .inr (2, [.ref aSL, .ref aST, .ref aR, .int xc, .int xp, .int xs, tv, .int xn, .int xi, .int xl])), (aR, .inl (cR, n, .inr (.inr (.inr (.inr ra))))), (q_7, .inl (cR, (n + 1), .inr (.inr (.inr (.inr f)))))] ++ va_pl RL (rowE cI row)) → va_S A s.heap H locs → lv_has ls 5 [(4, .int (nI t)), (3, .ref q_7), (0, .ref sm), (1, .int (nI q)), (2, .ref a0)] → W p l e _ s m _ below meth c H locs 1 61 _ (F0 m 14 ls [])) => KK (n + 1 - 0 + 1) 0 (fun _ => none) _ _ _ (Nat.zero_le _) (fun i hi => absurd hi (by omega)) (by omega) hP hD hS (lv_sub hl [0, 1, 2, 3, 4] rfl)) ?_
  intro nn_14
  induction nn_14 with
  | zero => intro t f H locs ls ht hf hn9; exact absurd hn9 (Nat.not_lt_zero _)
  | succ nn_14 ih_14 =>
    intro t f H_2 locs ls ht hf hn_14 hP hD hS hl
    refine lv_iload hx hb dX2_put_14 (lv_at hl 0 rfl) ?_
    refine lv_aload_n hx hb dX2_put_16 rfl (lv_at hl 1 rfl) ?_
    refine va_alen (v := nI (n + 1)) hx hb hK hP 2 1 rfl rfl rfl dX2_put_17 ?_
    refine lv_icmp_ge (tgt := 66) hx hb dX2_put_18 (by decide) (fun c_18 => ?_) (fun c_18 => ?_)
    · -- 18
      have hge : n + 1 ≤ t := by rw [nI_leI (by omega) (by omega)] at c_18; omega
      refine lv_aload_n hx hb dX2_put_66 rfl (lv_at hl 2 rfl) ?_
      refine lv_aload_n hx hb dX2_put_67 rfl (lv_at hl 1 rfl) ?_
      refine va_put (D := (dC, dI)) (ci := 2) (v := .ref q_7) (ty := .array (.array .int)) (C := RX2) (T := TX2) (N := 10) hx hb hts hinX2 tyX2 tyX2_ok nmX2 hown hK hP hD hS 0 rfl rfl 2 (by decide) k0 (fun _ h9 => h9) rfl (by decide +kernel) rfl rfl (Nat.le_of_ble_eq_true rfl) dX2_put_68 (fun H_3 locs hP hD hS => ?_)
      have hP : va_P (dC, dI) vwCl ([(sm, .inr (2, [.ref aSL, .ref aST, .ref q_7, .int xc, .int xp, .int xs, tv, .int xn, .int xi, .int xl])), (aR, .inl (cR, n, .inr (.inr (.inr (.inr ra))))), (q_7, .inl (cR, (n + 1), .inr (.inr (.inr (.inr f)))))] ++ va_pl RL (rowE cI row)) H_3 := hP
      have hD : va_D A ([(sm, .inr (2, [.ref aSL, .ref aST, .ref q_7, .int xc, .int xp, .int xs, tv, .int xn, .int xi, .int xl])), (aR, .inl (cR, n, .inr (.inr (.inr (.inr ra))))), (q_7, .inl (cR, (n + 1), .inr (.inr (.inr (.inr f)))))] ++ va_pl RL (rowE cI row)) := hD
      have hpost : RW (n + 1) f RL row (inA K q kk) (inA F q aa) (inA S q bb) (inA B q zz) := by
        exact RW_ins hR hq ha0 he0 he1 he2 he3 hne (fun j hj => hf j (by omega))
      have hP9 := hP.part (X := [(sm, .inr (2, [.ref aSL, .ref aST, .ref q_7, .int xc, .int xp, .int xs, tv, .int xn, .int xi, .int xl])), (aR, .inl (cR, n, .inr (.inr (.inr (.inr ra))))), (q_7, .inl (cR, (n + 1), .inr (.inr (.inr (.inr f)))))]) (cx := [(sm, .inr (2, [.ref aSL, .ref aST, .ref q_7, .int xc, .int xp, .int xs, tv, .int xn, .int xi, .int xl])), (q_7, .inl (cR, (n + 1), .inr (.inr (.inr (.inr f)))))]) [0, 2] rfl
      have hD9 := hD.part (X := [(sm, .inr (2, [.ref aSL, .ref aST, .ref q_7, .int xc, .int xp, .int xs, tv, .int xn, .int xi, .int xl])), (aR, .inl (cR, n, .inr (.inr (.inr (.inr ra))))), (q_7, .inl (cR, (n + 1), .inr (.inr (.inr (.inr f)))))]) (cx := [(sm, .inr (2, [.ref aSL, .ref aST, .ref q_7, .int xc, .int xp, .int xs, tv, .int xn, .int xi, .int xl])), (q_7, .inl (cR, (n + 1), .inr (.inr (.inr (.inr f)))))]) [0, 2] (by decide) rfl
      exact W.vret hx hb hr (fun t ht hW => ⟨⟨(q_7, f), rfl, hpost, by rw [ht]; exact hP9, hD9⟩, hS.F ht⟩) hS.2.2 dX2_put_71
    · -- 18
      have hlt : t < n + 1 := by rw [nI_leI (by omega) (by omega)] at c_18; omega
      refine lv_aload_n hx hb dX2_put_21 rfl (lv_at hl 1 rfl) ?_
      refine lv_iload hx hb dX2_put_22 (lv_at hl 0 rfl) ?_
      refine lv_iload hx hb dX2_put_24 (lv_at hl 0 rfl) ?_
      refine lv_iload_n hx hb dX2_put_26 rfl (lv_at hl 3 rfl) ?_
      refine lv_icmp_ge (tgt := 40) hx hb dX2_put_27 (by decide) (fun c_27 => ?_) (fun c_27 => ?_)
      · -- 27
        refine lv_iload hx hb dX2_put_40 (lv_at hl 0 rfl) ?_
        refine lv_iload_n hx hb dX2_put_42 rfl (lv_at hl 3 rfl) ?_
        refine lv_icmp_ne (tgt := 50) hx hb dX2_put_43 (by decide) (fun c_43 => ?_) (fun c_43 => ?_)
        · -- 43
          refine lv_aload_n hx hb dX2_put_50 rfl (lv_at hl 2 rfl) ?_
          refine va_get (D := (dC, dI)) (ci := 2) (v := .ref aR) (C := RX2) (T := TX2) (N := 10) hx hb hts hinX2 hown hK hP 0 rfl rfl 2 (by decide) k0 (fun _ h9 => h9) rfl dX2_put_51 ?_
          refine lv_iload hx hb dX2_put_54 (lv_at hl 0 rfl) ?_
          refine lv_iconst (v := 1) hx hb dX2_put_56 (by decide) ?_
          refine lv_isub hx hb dX2_put_57 ?_
          have hq9 : q < t := by
            have h1 : q ≤ t := by rw [nI_leI (by omega) (by omega)] at c_27; omega
            have h2 : ¬ t = q := fun e => c_43 (by rw [e])
            omega
          rw [show nI t - 1 = nI (t - 1) from pk_sub (b := 1) (by omega)]
          obtain ⟨v_4, hv_v_4, hm_v_4, -, -, -, -⟩ := RW_get hR (show (t - 1) < n by omega)
          refine aa_ald hx hb hK hP 1 1 rfl rfl (vp_in_nI (by omega) (by omega)) (by rw [nI_clamp (n := (t - 1)) (by omega)]; exact hv_v_4) dX2_put_58 ?_
          obtain ⟨kx_5, hkx_5⟩ := va_pl_get (X := [(sm, .inr (2, [.ref aSL, .ref aST, .ref aR, .int xc, .int xp, .int xs, tv, .int xn, .int xi, .int xl])), (aR, .inl (cR, n, .inr (.inr (.inr (.inr ra))))), (q_7, .inl (cR, (n + 1), .inr (.inr (.inr (.inr f)))))]) (f := rowE cI row) hm_v_4
          refine aa_ast hx hb hov hK hP hD hS 2 1 0 kx_5 rfl rfl rfl hkx_5 (vp_in_nI (by omega) (by omega)) dX2_put_59 (fun H_6 locs hP hD hS => ?_)
          have hP : va_P (dC, dI) vwCl ([(sm, .inr (2, [.ref aSL, .ref aST, .ref aR, .int xc, .int xp, .int xs, tv, .int xn, .int xi, .int xl])), (aR, .inl (cR, n, .inr (.inr (.inr (.inr ra))))), (q_7, .inl (cR, (n + 1), .inr (.inr (.inr (.inr (va_up f ((nI t)).toNatClampNeg (some v_4)))))))] ++ va_pl RL (rowE cI row)) H_6 := hP
          have hD : va_D A ([(sm, .inr (2, [.ref aSL, .ref aST, .ref aR, .int xc, .int xp, .int xs, tv, .int xn, .int xi, .int xl])), (aR, .inl (cR, n, .inr (.inr (.inr (.inr ra))))), (q_7, .inl (cR, (n + 1), .inr (.inr (.inr (.inr (va_up f ((nI t)).toNatClampNeg (some v_4)))))))] ++ va_pl RL (rowE cI row)) := hD
          rw [nI_clamp (by omega)] at hP hD
          have hP : va_P (dC, dI) vwCl ([(sm, .inr (2, [.ref aSL, .ref aST, .ref aR, .int xc, .int xp, .int xs, tv, .int xn, .int xi, .int xl])), (aR, .inl (cR, n, .inr (.inr (.inr (.inr ra))))), (q_7, .inl (cR, (n + 1), .inr (.inr (.inr (.inr (va_up f t (some v_4)))))))] ++ va_pl RL (rowE cI row)) H_6 := hP
          have hD : va_D A ([(sm, .inr (2, [.ref aSL, .ref aST, .ref aR, .int xc, .int xp, .int xs, tv, .int xn, .int xi, .int xl])), (aR, .inl (cR, n, .inr (.inr (.inr (.inr ra))))), (q_7, .inl (cR, (n + 1), .inr (.inr (.inr (.inr (va_up f t (some v_4)))))))] ++ va_pl RL (rowE cI row)) := hD
          refine lv_iinc (v := nI (t + 1)) (lv' := [(4, .int (nI (t + 1))), (3, .ref q_7), (0, .ref sm), (1, .int (nI q)), (2, .ref a0)]) hx hb dX2_put_60 hl (k := 0) rfl (nI_1 _) (by decide) rfl (fun ls hl => ?_)
          refine lv_goto (tgt := 14) hx hb dX2_put_63 (by decide) ?_
          exact ih_14 (t + 1) (va_up f t (some v_4)) _ _ _ (by omega) (in_step hf (by rw [inA_hi (by rw [nI_leI (by omega) (by omega)] at c_27; omega) (fun h9 => c_43 (by rw [h9]))]; exact hv_v_4)) (by omega) hP hD hS (lv_sub hl [0, 1, 2, 3, 4] rfl)
        · -- 43
          refine lv_aload_n hx hb dX2_put_46 rfl (lv_at hl 4 rfl) ?_
          refine lv_goto (tgt := 59) hx hb dX2_put_47 (by decide) ?_
          obtain ⟨kx_7, hkx_7⟩ := va_pl_get (X := [(sm, .inr (2, [.ref aSL, .ref aST, .ref aR, .int xc, .int xp, .int xs, tv, .int xn, .int xi, .int xl])), (aR, .inl (cR, n, .inr (.inr (.inr (.inr ra))))), (q_7, .inl (cR, (n + 1), .inr (.inr (.inr (.inr f)))))]) (f := rowE cI row) ha0
          refine aa_ast hx hb hov hK hP hD hS 2 1 0 kx_7 rfl rfl rfl hkx_7 (vp_in_nI (by omega) (by omega)) dX2_put_59 (fun H_8 locs hP hD hS => ?_)
          have hP : va_P (dC, dI) vwCl ([(sm, .inr (2, [.ref aSL, .ref aST, .ref aR, .int xc, .int xp, .int xs, tv, .int xn, .int xi, .int xl])), (aR, .inl (cR, n, .inr (.inr (.inr (.inr ra))))), (q_7, .inl (cR, (n + 1), .inr (.inr (.inr (.inr (va_up f ((nI t)).toNatClampNeg (some a0)))))))] ++ va_pl RL (rowE cI row)) H_8 := hP
          have hD : va_D A ([(sm, .inr (2, [.ref aSL, .ref aST, .ref aR, .int xc, .int xp, .int xs, tv, .int xn, .int xi, .int xl])), (aR, .inl (cR, n, .inr (.inr (.inr (.inr ra))))), (q_7, .inl (cR, (n + 1), .inr (.inr (.inr (.inr (va_up f ((nI t)).toNatClampNeg (some a0)))))))] ++ va_pl RL (rowE cI row)) := hD
          rw [nI_clamp (by omega)] at hP hD
          have hP : va_P (dC, dI) vwCl ([(sm, .inr (2, [.ref aSL, .ref aST, .ref aR, .int xc, .int xp, .int xs, tv, .int xn, .int xi, .int xl])), (aR, .inl (cR, n, .inr (.inr (.inr (.inr ra))))), (q_7, .inl (cR, (n + 1), .inr (.inr (.inr (.inr (va_up f t (some a0)))))))] ++ va_pl RL (rowE cI row)) H_8 := hP
          have hD : va_D A ([(sm, .inr (2, [.ref aSL, .ref aST, .ref aR, .int xc, .int xp, .int xs, tv, .int xn, .int xi, .int xl])), (aR, .inl (cR, n, .inr (.inr (.inr (.inr ra))))), (q_7, .inl (cR, (n + 1), .inr (.inr (.inr (.inr (va_up f t (some a0)))))))] ++ va_pl RL (rowE cI row)) := hD
          refine lv_iinc (v := nI (t + 1)) (lv' := [(4, .int (nI (t + 1))), (3, .ref q_7), (0, .ref sm), (1, .int (nI q)), (2, .ref a0)]) hx hb dX2_put_60 hl (k := 0) rfl (nI_1 _) (by decide) rfl (fun ls hl => ?_)
          refine lv_goto (tgt := 14) hx hb dX2_put_63 (by decide) ?_
          exact ih_14 (t + 1) (va_up f t (some a0)) _ _ _ (by omega) (in_step hf (by rw [(nI_eq (by omega) (by omega)).mp c_43, inA_at])) (by omega) hP hD hS (lv_sub hl [0, 1, 2, 3, 4] rfl)
      · -- 27
        have hlq : t < q := by rw [nI_leI (by omega) (by omega)] at c_27; omega
        refine lv_aload_n hx hb dX2_put_30 rfl (lv_at hl 2 rfl) ?_
        refine va_get (D := (dC, dI)) (ci := 2) (v := .ref aR) (C := RX2) (T := TX2) (N := 10) hx hb hts hinX2 hown hK hP 0 rfl rfl 2 (by decide) k0 (fun _ h9 => h9) rfl dX2_put_31 ?_
        refine lv_iload hx hb dX2_put_34 (lv_at hl 0 rfl) ?_
        obtain ⟨v_9, hv_v_9, hm_v_9, -, -, -, -⟩ := RW_get hR (show t < n by omega)
        refine aa_ald hx hb hK hP 1 1 rfl rfl (vp_in_nI (by omega) (by omega)) (by rw [nI_clamp (n := t) (by omega)]; exact hv_v_9) dX2_put_36 ?_
        refine lv_goto (tgt := 59) hx hb dX2_put_37 (by decide) ?_
        obtain ⟨kx_10, hkx_10⟩ := va_pl_get (X := [(sm, .inr (2, [.ref aSL, .ref aST, .ref aR, .int xc, .int xp, .int xs, tv, .int xn, .int xi, .int xl])), (aR, .inl (cR, n, .inr (.inr (.inr (.inr ra))))), (q_7, .inl (cR, (n + 1), .inr (.inr (.inr (.inr f)))))]) (f := rowE cI row) hm_v_9
        refine aa_ast hx hb hov hK hP hD hS 2 1 0 kx_10 rfl rfl rfl hkx_10 (vp_in_nI (by omega) (by omega)) dX2_put_59 (fun H_11 locs hP hD hS => ?_)
        have hP : va_P (dC, dI) vwCl ([(sm, .inr (2, [.ref aSL, .ref aST, .ref aR, .int xc, .int xp, .int xs, tv, .int xn, .int xi, .int xl])), (aR, .inl (cR, n, .inr (.inr (.inr (.inr ra))))), (q_7, .inl (cR, (n + 1), .inr (.inr (.inr (.inr (va_up f ((nI t)).toNatClampNeg (some v_9)))))))] ++ va_pl RL (rowE cI row)) H_11 := hP
        have hD : va_D A ([(sm, .inr (2, [.ref aSL, .ref aST, .ref aR, .int xc, .int xp, .int xs, tv, .int xn, .int xi, .int xl])), (aR, .inl (cR, n, .inr (.inr (.inr (.inr ra))))), (q_7, .inl (cR, (n + 1), .inr (.inr (.inr (.inr (va_up f ((nI t)).toNatClampNeg (some v_9)))))))] ++ va_pl RL (rowE cI row)) := hD
        rw [nI_clamp (by omega)] at hP hD
        have hP : va_P (dC, dI) vwCl ([(sm, .inr (2, [.ref aSL, .ref aST, .ref aR, .int xc, .int xp, .int xs, tv, .int xn, .int xi, .int xl])), (aR, .inl (cR, n, .inr (.inr (.inr (.inr ra))))), (q_7, .inl (cR, (n + 1), .inr (.inr (.inr (.inr (va_up f t (some v_9)))))))] ++ va_pl RL (rowE cI row)) H_11 := hP
        have hD : va_D A ([(sm, .inr (2, [.ref aSL, .ref aST, .ref aR, .int xc, .int xp, .int xs, tv, .int xn, .int xi, .int xl])), (aR, .inl (cR, n, .inr (.inr (.inr (.inr ra))))), (q_7, .inl (cR, (n + 1), .inr (.inr (.inr (.inr (va_up f t (some v_9)))))))] ++ va_pl RL (rowE cI row)) := hD
        refine lv_iinc (v := nI (t + 1)) (lv' := [(4, .int (nI (t + 1))), (3, .ref q_7), (0, .ref sm), (1, .int (nI q)), (2, .ref a0)]) hx hb dX2_put_60 hl (k := 0) rfl (nI_1 _) (by decide) rfl (fun ls hl => ?_)
        refine lv_goto (tgt := 14) hx hb dX2_put_63 (by decide) ?_
        exact ih_14 (t + 1) (va_up f t (some v_9)) _ _ _ (by omega) (in_step hf (by rw [inA_lo (by rw [nI_leI (by omega) (by omega)] at c_27; omega)]; exact hv_v_9)) (by omega) hP hD hS (lv_sub hl [0, 1, 2, 3, 4] rfl)

set_option maxHeartbeats 4000000 in
set_option maxRecDepth 100000 in
theorem c_X2_init (l : Launch) (dC : Nat → ClassId) (dI : Nat → Nat → Nat) (cI : ClassId) (sm : Nat) (sz : Nat)  : Met l yX2_init wsX2_init ({ frames := 1, cells := 3, slots := 8, locals := 20 } : Room) (va_Pc [.ref sm] (pa_  (dC, dI) [(cI, .int)] [(sm, .inr (2, [.null, .null, .null, .int 0, .int 0, .int 0, .null, .int 0, .int 0, .int 0]))] sz)) (va_Qv (fun (u : Nat × Nat × Nat × ClassId) => True) (fun (u : Nat × Nat × Nat × ClassId) (t : State) => va_P (dC, dI) vwCl [(sm, .inr (2, [.ref u.1, .ref u.2.1, .ref u.2.2.1, .int 0, .int 0, .int 0, .null, .int 0, .int 0, .int 0])), (u.1, .inl (cI, 4, .inl (fun _ => 0))), (u.2.1, .inl (cI, 4, .inl (fun _ => 0))), (u.2.2.1, .inl (u.2.2.2, 0, .inr (.inr (.inr (.inr (fun _ => none))))))] t.heap ∧ va_D (va_A [(sm, .inr (2, [.null, .null, .null, .int 0, .int 0, .int 0, .null, .int 0, .int 0, .int 0]))] sz) [(sm, .inr (2, [.ref u.1, .ref u.2.1, .ref u.2.2.1, .int 0, .int 0, .int 0, .null, .int 0, .int 0, .int 0])), (u.1, .inl (cI, 4, .inl (fun _ => 0))), (u.2.1, .inl (cI, 4, .inl (fun _ => 0))), (u.2.2.1, .inl (u.2.2.2, 0, .inr (.inr (.inr (.inr (fun _ => none))))))] ∧ va_K (dC, dI) vwCl [(u.2.2.2, (.array .int))] t) (va_A [(sm, .inr (2, [.null, .null, .null, .int 0, .int 0, .int 0, .null, .int 0, .int 0, .int 0]))] sz)) 3 8 (va_A [(sm, .inr (2, [.null, .null, .null, .int 0, .int 0, .int 0, .null, .int 0, .int 0, .int 0]))] sz) := by
  refine Met.ofW (cc := cX2_init) (maxL := 1) (ret := none) (by decide) rfl ?_
  intro p e s m args below meth c s₁ BB hml hv
  obtain ⟨rfl, hsz, hP, hK, hD0, hN, hov⟩ := hv
  have hx := BB.exec
  have hb := BB.bytes
  have hr := BB.returns
  have hts := atoms_spec (ws := wsX2_init) BB.pre
  have hown : s.vm.findClass RX2 = some m.cls := findClass_of_methodNamed BB.named
  have hlocks := BB.notSynchronized
  have hin9 : meth.name = "<init>" := (name_of_methodNamed BB.named BB.method).1
  subst hsz
  have hD := hD0.self (sz := s.heap.size)
  generalize hAe : va_A [(sm, .inr (2, [.null, .null, .null, .int 0, .int 0, .int 0, .null, .int 0, .int 0, .int 0]))] s.heap.size = A at hD ⊢
  have hA : ∀ q : Nat, s.heap.size ≤ q → A q := fun q h => by rw [← hAe]; exact Or.inr h
  have hS : va_S A s.heap s.heap [] := va_S.rf
  have hP : va_P (dC, dI) vwCl [(sm, .inr (2, [.null, .null, .null, .int 0, .int 0, .int 0, .null, .int 0, .int 0, .int 0]))] s.heap := hP
  have hl := lv_entry ([.ref sm]) (n := 1) (Nat.le_of_ble_eq_true rfl)
  rw [lg_entry_eq]
  generalize (lg_sl ([.ref sm]) ++ List.replicate (1 - (lg_sl ([.ref sm])).length) Slot.unset).toArray = ls at hl ⊢
  have hl : lv_has ls 1 [(0, .ref sm)] := hl
  have k0 := hts (.methodLink RX2 1 objectInit) (by decide +kernel)
  have k1 := hts (.instanceMethod objectInit) (by decide +kernel)
  have k2 := hts (.code objectInit ⟨#[0xb1]⟩ 1 none) (by decide +kernel)
  have k3 := hts (.arrayClass .int) (by decide +kernel)
  have k4 := hts (.fieldLink RX2 7 "KnifeLedgerLaw$Sim" "light" "[I") (by decide +kernel)
  have hinX2 : ∀ w ∈ wsX20, w ∈ wsX2_init := by decide +kernel
  have k6 := hts (.fieldLink RX2 13 "KnifeLedgerLaw$Sim" "tremble" "[I") (by decide +kernel)
  have k7 := hts (.classLink RX2 16 "[I") (by decide +kernel)
  have k8 := hts (.fieldLink RX2 17 "KnifeLedgerLaw$Sim" "rows" "[[I") (by decide +kernel)
  refine lv_aload_n hx hb dX2_init_0 rfl (lv_at hl 0 rfl) ?_
  refine W.objInit hx hb hown k0 k1 k2 rfl (by rw [hml]; exact hl.1) rfl dX2_init_1 (Nat.le_of_ble_eq_true rfl) (Nat.le_of_ble_eq_true rfl) ?_
  refine W.eq (g2 := F0 m 4 ls []) rfl ?_
  refine lv_aload_n hx hb dX2_init_4 rfl (lv_at hl 0 rfl) ?_
  refine lv_iconst (v := 4) hx hb dX2_init_5 (by decide) ?_
  refine va_newa (atype := .int) (ty := .int) (a0 := (4, .inl (fun _ => 0))) hx hb k3 rfl hK hP hD hS hA (fun _ => rfl) (by decide) (by decide) (by decide) (by decide) (by decide) dX2_init_6 (fun q_6 cA_6 H_1 hK hP hD hS => ?_)
  have hK : va_K (dC, dI) vwCl [(cI, .int), (cA_6, .int)] s := hK
  have hP : va_P (dC, dI) vwCl [(sm, .inr (2, [.null, .null, .null, .int 0, .int 0, .int 0, .null, .int 0, .int 0, .int 0])), (q_6, .inl (cA_6, 4, .inl (fun _ => 0)))] H_1 := hP
  have hD : va_D A [(sm, .inr (2, [.null, .null, .null, .int 0, .int 0, .int 0, .null, .int 0, .int 0, .int 0])), (q_6, .inl (cA_6, 4, .inl (fun _ => 0)))] := hD
  obtain rfl : cI = cA_6 := arr_same hK 0 1 rfl rfl
  have hK := hK.sub (tys' := [(cI, .int)]) [0] rfl
  refine W.widen (k := 1) (n := 4) (by decide) (by decide) ?_
  refine va_put (D := (dC, dI)) (ci := 2) (v := .ref q_6) (ty := .array .int) (C := RX2) (T := TX2) (N := 10) hx hb hts hinX2 tyX2 tyX2_ok nmX2 hown hK hP hD hS 0 rfl rfl 0 (by decide) k4 (fun _ h9 => h9) rfl (by decide +kernel) rfl rfl (Nat.le_of_ble_eq_true rfl) dX2_init_8 (fun H_2 locs hP hD hS => ?_)
  have hP : va_P (dC, dI) vwCl [(sm, .inr (2, [.ref q_6, .null, .null, .int 0, .int 0, .int 0, .null, .int 0, .int 0, .int 0])), (q_6, .inl (cI, 4, .inl (fun _ => 0)))] H_2 := hP
  have hD : va_D A [(sm, .inr (2, [.ref q_6, .null, .null, .int 0, .int 0, .int 0, .null, .int 0, .int 0, .int 0])), (q_6, .inl (cI, 4, .inl (fun _ => 0)))] := hD
  refine lv_aload_n hx hb dX2_init_11 rfl (lv_at hl 0 rfl) ?_
  refine lv_iconst (v := 4) hx hb dX2_init_12 (by decide) ?_
  refine va_newa (atype := .int) (ty := .int) (a0 := (4, .inl (fun _ => 0))) hx hb k3 rfl hK hP hD hS hA (fun _ => rfl) (by decide) (by decide) (by decide) (by decide) (by decide) dX2_init_13 (fun q_13 cA_13 H_3 hK hP hD hS => ?_)
  have hK : va_K (dC, dI) vwCl [(cI, .int), (cA_13, .int)] s := hK
  have hP : va_P (dC, dI) vwCl [(sm, .inr (2, [.ref q_6, .null, .null, .int 0, .int 0, .int 0, .null, .int 0, .int 0, .int 0])), (q_6, .inl (cI, 4, .inl (fun _ => 0))), (q_13, .inl (cA_13, 4, .inl (fun _ => 0)))] H_3 := hP
  have hD : va_D A [(sm, .inr (2, [.ref q_6, .null, .null, .int 0, .int 0, .int 0, .null, .int 0, .int 0, .int 0])), (q_6, .inl (cI, 4, .inl (fun _ => 0))), (q_13, .inl (cA_13, 4, .inl (fun _ => 0)))] := hD
  obtain rfl : cI = cA_13 := arr_same hK 0 1 rfl rfl
  have hK := hK.sub (tys' := [(cI, .int)]) [0] rfl
  refine W.widen (k := 2) (n := 8) (by decide) (by decide) ?_
  refine va_put (D := (dC, dI)) (ci := 2) (v := .ref q_13) (ty := .array .int) (C := RX2) (T := TX2) (N := 10) hx hb hts hinX2 tyX2 tyX2_ok nmX2 hown hK hP hD hS 0 rfl rfl 1 (by decide) k6 (fun _ h9 => h9) rfl (by decide +kernel) rfl rfl (Nat.le_of_ble_eq_true rfl) dX2_init_15 (fun H_4 locs hP hD hS => ?_)
  have hP : va_P (dC, dI) vwCl [(sm, .inr (2, [.ref q_6, .ref q_13, .null, .int 0, .int 0, .int 0, .null, .int 0, .int 0, .int 0])), (q_6, .inl (cI, 4, .inl (fun _ => 0))), (q_13, .inl (cI, 4, .inl (fun _ => 0)))] H_4 := hP
  have hD : va_D A [(sm, .inr (2, [.ref q_6, .ref q_13, .null, .int 0, .int 0, .int 0, .null, .int 0, .int 0, .int 0])), (q_6, .inl (cI, 4, .inl (fun _ => 0))), (q_13, .inl (cI, 4, .inl (fun _ => 0)))] := hD
  refine lv_aload_n hx hb dX2_init_18 rfl (lv_at hl 0 rfl) ?_
  refine lv_iconst (v := 0) hx hb dX2_init_19 (by decide) ?_
  refine aa_new (N' := 0) hx hb hown k7 hov hK hP hD hS hA (by decide) (by decide) (by decide) (by decide) (by decide) dX2_init_20 (fun q_20 cA_20 H_5 hK hP hD hS => ?_)
  have hK : va_K (dC, dI) vwCl [(cI, .int), (cA_20, (.array .int))] s := hK
  have hP : va_P (dC, dI) vwCl [(sm, .inr (2, [.ref q_6, .ref q_13, .null, .int 0, .int 0, .int 0, .null, .int 0, .int 0, .int 0])), (q_6, .inl (cI, 4, .inl (fun _ => 0))), (q_13, .inl (cI, 4, .inl (fun _ => 0))), (q_20, .inl (cA_20, 0, .inr (.inr (.inr (.inr (fun _ => none))))))] H_5 := hP
  have hD : va_D A [(sm, .inr (2, [.ref q_6, .ref q_13, .null, .int 0, .int 0, .int 0, .null, .int 0, .int 0, .int 0])), (q_6, .inl (cI, 4, .inl (fun _ => 0))), (q_13, .inl (cI, 4, .inl (fun _ => 0))), (q_20, .inl (cA_20, 0, .inr (.inr (.inr (.inr (fun _ => none))))))] := hD
  refine W.widen (k := 3) (n := 8) (by decide) (by decide) ?_
  refine va_put (D := (dC, dI)) (ci := 2) (v := .ref q_20) (ty := .array (.array .int)) (C := RX2) (T := TX2) (N := 10) hx hb hts hinX2 tyX2 tyX2_ok nmX2 hown hK hP hD hS 0 rfl rfl 2 (by decide) k8 (fun _ h9 => h9) rfl (by decide +kernel) rfl rfl (Nat.le_of_ble_eq_true rfl) dX2_init_23 (fun H_6 locs hP hD hS => ?_)
  have hP : va_P (dC, dI) vwCl [(sm, .inr (2, [.ref q_6, .ref q_13, .ref q_20, .int 0, .int 0, .int 0, .null, .int 0, .int 0, .int 0])), (q_6, .inl (cI, 4, .inl (fun _ => 0))), (q_13, .inl (cI, 4, .inl (fun _ => 0))), (q_20, .inl (cA_20, 0, .inr (.inr (.inr (.inr (fun _ => none))))))] H_6 := hP
  have hD : va_D A [(sm, .inr (2, [.ref q_6, .ref q_13, .ref q_20, .int 0, .int 0, .int 0, .null, .int 0, .int 0, .int 0])), (q_6, .inl (cI, 4, .inl (fun _ => 0))), (q_13, .inl (cI, 4, .inl (fun _ => 0))), (q_20, .inl (cA_20, 0, .inr (.inr (.inr (.inr (fun _ => none))))))] := hD
  have hpost : True := by
    trivial
  have hP9 := hP.sub (ws' := [(sm, .inr (2, [.ref q_6, .ref q_13, .ref q_20, .int 0, .int 0, .int 0, .null, .int 0, .int 0, .int 0])), (q_6, .inl (cI, 4, .inl (fun _ => 0))), (q_13, .inl (cI, 4, .inl (fun _ => 0))), (q_20, .inl (cA_20, 0, .inr (.inr (.inr (.inr (fun _ => none))))))]) [0, 1, 2, 3] rfl
  have hD9 := hD.sub (ws' := [(sm, .inr (2, [.ref q_6, .ref q_13, .ref q_20, .int 0, .int 0, .int 0, .null, .int 0, .int 0, .int 0])), (q_6, .inl (cI, 4, .inl (fun _ => 0))), (q_13, .inl (cI, 4, .inl (fun _ => 0))), (q_20, .inl (cA_20, 0, .inr (.inr (.inr (.inr (fun _ => none))))))]) [0, 1, 2, 3] (by decide) rfl
  have hK9 := hK.sub (tys' := [(cA_20, (.array .int))]) [1] rfl
  exact W.vret hx hb hr (fun t ht hW => ⟨⟨(q_6, q_13, q_20, cA_20), rfl, hpost, by rw [ht]; exact hP9, hD9, va_K.moved hW.alike hK9⟩, hS.F ht⟩) hS.2.2 dX2_init_26
