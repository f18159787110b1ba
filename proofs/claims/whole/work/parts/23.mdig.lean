set_option maxHeartbeats 4000000 in
set_option maxRecDepth 100000 in
theorem c_X2_digest (l : Launch) (dC : Nat → ClassId) (dI : Nat → Nat → Nat) (cI cZ : ClassId) (mo bK bF bS bB bL bT bU : Nat) (sz : Nat) (L : N2I) (T : N2I) (K : N2I) (F : N2I) (S : N2I) (B : N2I) (U : N2I) (n : Nat) (tw : Int32) (co : Int32) (pl : Int32) (st : Int32) (jo : Int32) (cn : Int32) (ii : Int32) (fi : Int32) (fe : Int32) (hX : okX K F S B n) : Met l yX2_digest wsX2_digest ({ frames := 6, cells := 0, slots := 0, locals := 129 } : Room) (va_Pc [.ref mo] (pc_ (dC, dI) [(cI, .int), (cZ, .boolean)] [(mo, .inr (2, [.int tw, .ref bL, .ref bT, .int (nI n), .ref bK, .ref bF, .ref bS, .ref bB, .int co, .int pl, .int st, .int jo, .int cn, .int ii, .int fi, .int fe, .ref bU])), (bK, .inl (cI, 60, .inl K)), (bF, .inl (cI, 60, .inl F)), (bS, .inl (cI, 60, .inl S)), (bB, .inl (cZ, 60, .inl B)), (bL, .inl (cI, 4, .inl L)), (bT, .inl (cI, 4, .inl T)), (bU, .inl (cI, 6, .inl U))] sz)) (va_Ql (fun (r : Int64) (u : Int32 × Int32 × Int32 × Int32 × Int32 × Int32 × Int32 × Int32 × N2I) => r = aDig L T K F S B n) (fun (u : Int32 × Int32 × Int32 × Int32 × Int32 × Int32 × Int32 × Int32 × N2I) (t : State) => va_P (dC, dI) vwCl [(mo, .inr (2, [.int 0, .ref bL, .ref bT, .int (nI n), .ref bK, .ref bF, .ref bS, .ref bB, .int u.1, .int u.2.1, .int u.2.2.1, .int u.2.2.2.1, .int u.2.2.2.2.1, .int u.2.2.2.2.2.1, .int u.2.2.2.2.2.2.1, .int u.2.2.2.2.2.2.2.1, .ref bU])), (bK, .inl (cI, 60, .inl K)), (bF, .inl (cI, 60, .inl F)), (bS, .inl (cI, 60, .inl S)), (bB, .inl (cZ, 60, .inl B)), (bL, .inl (cI, 4, .inl L)), (bT, .inl (cI, 4, .inl T)), (bU, .inl (cI, 6, .inl u.2.2.2.2.2.2.2.2))] t.heap ∧ va_D (va_A [(mo, .inr (2, [.int tw, .ref bL, .ref bT, .int (nI n), .ref bK, .ref bF, .ref bS, .ref bB, .int co, .int pl, .int st, .int jo, .int cn, .int ii, .int fi, .int fe, .ref bU])), (bK, .inl (cI, 60, .inl K)), (bF, .inl (cI, 60, .inl F)), (bS, .inl (cI, 60, .inl S)), (bB, .inl (cZ, 60, .inl B)), (bL, .inl (cI, 4, .inl L)), (bT, .inl (cI, 4, .inl T)), (bU, .inl (cI, 6, .inl U))] sz) [(mo, .inr (2, [.int 0, .ref bL, .ref bT, .int (nI n), .ref bK, .ref bF, .ref bS, .ref bB, .int u.1, .int u.2.1, .int u.2.2.1, .int u.2.2.2.1, .int u.2.2.2.2.1, .int u.2.2.2.2.2.1, .int u.2.2.2.2.2.2.1, .int u.2.2.2.2.2.2.2.1, .ref bU])), (bK, .inl (cI, 60, .inl K)), (bF, .inl (cI, 60, .inl F)), (bS, .inl (cI, 60, .inl S)), (bB, .inl (cZ, 60, .inl B)), (bL, .inl (cI, 4, .inl L)), (bT, .inl (cI, 4, .inl T)), (bU, .inl (cI, 6, .inl u.2.2.2.2.2.2.2.2))]) (va_A [(mo, .inr (2, [.int tw, .ref bL, .ref bT, .int (nI n), .ref bK, .ref bF, .ref bS, .ref bB, .int co, .int pl, .int st, .int jo, .int cn, .int ii, .int fi, .int fe, .ref bU])), (bK, .inl (cI, 60, .inl K)), (bF, .inl (cI, 60, .inl F)), (bS, .inl (cI, 60, .inl S)), (bB, .inl (cZ, 60, .inl B)), (bL, .inl (cI, 4, .inl L)), (bT, .inl (cI, 4, .inl T)), (bU, .inl (cI, 6, .inl U))] sz)) 0 0 (va_A [(mo, .inr (2, [.int tw, .ref bL, .ref bT, .int (nI n), .ref bK, .ref bF, .ref bS, .ref bB, .int co, .int pl, .int st, .int jo, .int cn, .int ii, .int fi, .int fe, .ref bU])), (bK, .inl (cI, 60, .inl K)), (bF, .inl (cI, 60, .inl F)), (bS, .inl (cI, 60, .inl S)), (bB, .inl (cZ, 60, .inl B)), (bL, .inl (cI, 4, .inl L)), (bT, .inl (cI, 4, .inl T)), (bU, .inl (cI, 6, .inl U))] sz) := by
  refine Met.ofW (cc := cX2_digest) (maxL := 5) (ret := (some .long)) (by decide) rfl ?_
  intro p e s m args below meth c s₁ BB hml hv
  obtain ⟨rfl, hsz, hP, hK, hD0⟩ := hv
  have hx := BB.exec
  have hb := BB.bytes
  have hr := BB.returns
  have hts := atoms_spec (ws := wsX2_digest) BB.pre
  have hown : s.vm.findClass RX2 = some m.cls := findClass_of_methodNamed BB.named
  have hlocks := BB.notSynchronized
  subst hsz
  have hD := hD0.self (sz := s.heap.size)
  generalize hAe : va_A [(mo, .inr (2, [.int tw, .ref bL, .ref bT, .int (nI n), .ref bK, .ref bF, .ref bS, .ref bB, .int co, .int pl, .int st, .int jo, .int cn, .int ii, .int fi, .int fe, .ref bU])), (bK, .inl (cI, 60, .inl K)), (bF, .inl (cI, 60, .inl F)), (bS, .inl (cI, 60, .inl S)), (bB, .inl (cZ, 60, .inl B)), (bL, .inl (cI, 4, .inl L)), (bT, .inl (cI, 4, .inl T)), (bU, .inl (cI, 6, .inl U))] s.heap.size = A at hD ⊢
  have hA : ∀ q : Nat, s.heap.size ≤ q → A q := fun q h => by rw [← hAe]; exact Or.inr h
  have hS : va_S A s.heap s.heap [] := va_S.rf
  have hP : va_P (dC, dI) vwCl [(mo, .inr (2, [.int tw, .ref bL, .ref bT, .int (nI n), .ref bK, .ref bF, .ref bS, .ref bB, .int co, .int pl, .int st, .int jo, .int cn, .int ii, .int fi, .int fe, .ref bU])), (bK, .inl (cI, 60, .inl K)), (bF, .inl (cI, 60, .inl F)), (bS, .inl (cI, 60, .inl S)), (bB, .inl (cZ, 60, .inl B)), (bL, .inl (cI, 4, .inl L)), (bT, .inl (cI, 4, .inl T)), (bU, .inl (cI, 6, .inl U))] s.heap := hP
  have hl := lv_entry ([.ref mo]) (n := 5) (Nat.le_of_ble_eq_true rfl)
  rw [lg_entry_eq]
  generalize (lg_sl ([.ref mo]) ++ List.replicate (5 - (lg_sl ([.ref mo])).length) Slot.unset).toArray = ls at hl ⊢
  have hl : lv_has ls 5 [(0, .ref mo)] := hl
  have k0 := hts (.fieldLink RX2 32 "KnifeLedgerModel" "thrown" "I") (by decide +kernel)
  have hinX2 : ∀ w ∈ wsX20, w ∈ wsX2_digest := by decide +kernel
  have k2 := hts (.constantLong RX2 130 (1229)) (by decide +kernel)
  have k3 := hts (.fieldLink RX2 36 "KnifeLedgerModel" "entries" "I") (by decide +kernel)
  have k4 := hts (.constantLong RX2 132 (31)) (by decide +kernel)
  have k5 := hts (.fieldLink RX2 60 "KnifeLedgerModel" "joined" "I") (by decide +kernel)
  have k6 := hts (.fieldLink RX2 29 "KnifeLedgerModel" "trusts" "[I") (by decide +kernel)
  have k7 := hts (.fieldLink RX2 70 "KnifeLedgerModel" "coins" "I") (by decide +kernel)
  have k8 := hts (.fieldLink RX2 9 "KnifeLedgerModel" "light" "[I") (by decide +kernel)
  have k9 := hts (.fieldLink RX2 13 "KnifeLedgerModel" "tremble" "[I") (by decide +kernel)
  have hn6 : n ≤ 60 := hX.1
  refine lv_aload_n hx hb dX2_digest_0 rfl (lv_at hl 0 rfl) ?_
  refine lv_iconst (v := 0) hx hb dX2_digest_1 (by decide) ?_
  refine va_put (D := (dC, dI)) (ci := 2) (v := .int 0) (ty := .int) (C := RX2) (T := TX2) (N := 17) hx hb hts hinX2 tyX2 tyX2_ok nmX2 hown hK hP hD hS 0 rfl rfl 0 (by decide) k0 (fun _ h9 => h9) rfl (by decide +kernel) rfl rfl (Nat.le_of_ble_eq_true rfl) dX2_digest_2 (fun H_1 locs hP hD hS => ?_)
  have hP : va_P (dC, dI) vwCl [(mo, .inr (2, [.int 0, .ref bL, .ref bT, .int (nI n), .ref bK, .ref bF, .ref bS, .ref bB, .int co, .int pl, .int st, .int jo, .int cn, .int ii, .int fi, .int fe, .ref bU])), (bK, .inl (cI, 60, .inl K)), (bF, .inl (cI, 60, .inl F)), (bS, .inl (cI, 60, .inl S)), (bB, .inl (cZ, 60, .inl B)), (bL, .inl (cI, 4, .inl L)), (bT, .inl (cI, 4, .inl T)), (bU, .inl (cI, 6, .inl U))] H_1 := hP
  have hD : va_D A [(mo, .inr (2, [.int 0, .ref bL, .ref bT, .int (nI n), .ref bK, .ref bF, .ref bS, .ref bB, .int co, .int pl, .int st, .int jo, .int cn, .int ii, .int fi, .int fe, .ref bU])), (bK, .inl (cI, 60, .inl K)), (bF, .inl (cI, 60, .inl F)), (bS, .inl (cI, 60, .inl S)), (bB, .inl (cZ, 60, .inl B)), (bL, .inl (cI, 4, .inl L)), (bT, .inl (cI, 4, .inl T)), (bU, .inl (cI, 6, .inl U))] := hD
  refine lv_ldc2 (v := 1229) hx hb hown k2 dX2_digest_5 ?_
  refine lv_lstore_n (lv' := [(1, .long 1229), (0, .ref mo)]) hx hb dX2_digest_8 rfl hl (by decide) rfl (fun ls hl => ?_)
  refine lv_iconst (v := 0) hx hb dX2_digest_9 (by decide) ?_
  refine lv_istore_n (lv' := [(3, .int 0), (1, .long 1229), (0, .ref mo)]) hx hb dX2_digest_10 rfl hl (by decide) rfl (fun ls hl => ?_)
  refine (fun (KK : ∀ (nn9 : Nat) (z1 : Nat) (co2 : Int32) (pl2 : Int32) (st2 : Int32) (jo2 : Int32) (cn2 : Int32) (ii2 : Int32) (fi2 : Int32) (fe2 : Int32) (U2 : N2I) (H : Heap) (locs : List Loc) (ls : Array Slot) (hz1 : z1 ≤ 6), 6 - z1 < nn9 → va_P (dC, dI) vwCl [(mo, .inr (2, [.int 0, .ref bL, .ref bT, .int (nI n), .ref bK, .ref bF, .ref bS, .ref bB, .int co2, .int pl2, .int st2, .int jo2, .int cn2, .int ii2, .int fi2, .int fe2, .ref bU])), (bK, .inl (cI, 60, .inl K)), (bF, .inl (cI, 60, .inl F)), (bS, .inl (cI, 60, .inl S)), (bB, .inl (cZ, 60, .inl B)), (bL, .inl (cI, 4, .inl L)), (bT, .inl (cI, 4, .inl T)), (bU, .inl (cI, 6, .inl U2))] H → va_D A [(mo, .inr (2, [.int 0, .ref bL, .ref bT, .int (nI n), .ref bK, .ref bF, .ref bS, .ref bB, .int co2, .int pl2, .int st2, .int jo2, .int cn2, .int ii2, .int fi2, .int fe2, .ref bU])), (bK, .inl (cI, 60, .inl K)), (bF, .inl (cI, 60, .inl F)), (bS, .inl (cI, 60, .inl S)), (bB, .inl (cZ, 60, .inl B)), (bL, .inl (cI, 4, .inl L)), (bT, .inl (cI, 4, .inl T)), (bU, .inl (cI, 6, .inl U2))] → va_S A s.heap H locs → lv_has ls 5 [(1, .long (dg1 n (cRec L T K F S B n) z1)), (3, .int (nI z1)), (0, .ref mo)] → W p l e _ s m _ below meth c H locs 0 0 _ (F0 m 11 ls [])) => KK (6 - 0 + 1) 0 co pl st jo cn ii fi fe U _ _ _ (Nat.zero_le _) (by omega) hP hD hS (lv_sub hl [1, 0, 2] rfl)) ?_
  intro nn_11
  induction nn_11 with
  | zero => intro z1 co2 pl2 st2 jo2 cn2 ii2 fi2 fe2 U2 H locs ls hz1 hn9; exact absurd hn9 (Nat.not_lt_zero _)
  | succ nn_11 ih_11 =>
    intro z1 co2 pl2 st2 jo2 cn2 ii2 fi2 fe2 U2 H_2 locs ls hz1 hn_11 hP hD hS hl
    refine lv_iload_n hx hb dX2_digest_11 rfl (lv_at hl 1 rfl) ?_
    refine lv_bipush (v := 6) hx hb dX2_digest_12 (by decide) ?_
    refine lv_icmp_ge (tgt := 36) hx hb dX2_digest_14 (by decide) (fun c_14 => ?_) (fun c_14 => ?_)
    · -- 14
      have hge_z1 : 6 ≤ z1 := by rw [show (6 : Int32) = nI 6 from rfl, nI_leI (by omega) (by omega)] at c_14; omega
      obtain rfl : 6 = z1 := by omega
      refine lv_iconst (v := 0) hx hb dX2_digest_36 (by decide) ?_
      refine lv_istore_n (lv' := [(3, .int 0), (1, .long (dg1 n (cRec L T K F S B n) 6)), (0, .ref mo)]) hx hb dX2_digest_37 rfl hl (by decide) rfl (fun ls hl => ?_)
      refine (fun (KK : ∀ (nn9 : Nat) (z2 : Nat) (H : Heap) (locs : List Loc) (ls : Array Slot) (hz2 : z2 ≤ 4), 4 - z2 < nn9 → va_P (dC, dI) vwCl [(mo, .inr (2, [.int 0, .ref bL, .ref bT, .int (nI n), .ref bK, .ref bF, .ref bS, .ref bB, .int co2, .int pl2, .int st2, .int jo2, .int cn2, .int ii2, .int fi2, .int fe2, .ref bU])), (bK, .inl (cI, 60, .inl K)), (bF, .inl (cI, 60, .inl F)), (bS, .inl (cI, 60, .inl S)), (bB, .inl (cZ, 60, .inl B)), (bL, .inl (cI, 4, .inl L)), (bT, .inl (cI, 4, .inl T)), (bU, .inl (cI, 6, .inl U2))] H → va_D A [(mo, .inr (2, [.int 0, .ref bL, .ref bT, .int (nI n), .ref bK, .ref bF, .ref bS, .ref bB, .int co2, .int pl2, .int st2, .int jo2, .int cn2, .int ii2, .int fi2, .int fe2, .ref bU])), (bK, .inl (cI, 60, .inl K)), (bF, .inl (cI, 60, .inl F)), (bS, .inl (cI, 60, .inl S)), (bB, .inl (cZ, 60, .inl B)), (bL, .inl (cI, 4, .inl L)), (bT, .inl (cI, 4, .inl T)), (bU, .inl (cI, 6, .inl U2))] → va_S A s.heap H locs → lv_has ls 5 [(1, .long (dg2 L T (dg1 n (cRec L T K F S B n) 6) z2)), (3, .int (nI z2)), (0, .ref mo)] → W p l e _ s m _ below meth c H locs 0 0 _ (F0 m 38 ls [])) => KK (4 - 0 + 1) 0 _ _ _ (Nat.zero_le _) (by omega) hP hD hS (lv_sub hl [1, 0, 2] rfl)) ?_
      intro nn_38
      induction nn_38 with
      | zero => intro z2 H locs ls hz2 hn9; exact absurd hn9 (Nat.not_lt_zero _)
      | succ nn_38 ih_38 =>
        intro z2 H_3 locs ls hz2 hn_38 hP hD hS hl
        refine lv_iload_n hx hb dX2_digest_38 rfl (lv_at hl 1 rfl) ?_
        refine lv_iconst (v := 4) hx hb dX2_digest_39 (by decide) ?_
        refine lv_icmp_ge (tgt := 75) hx hb dX2_digest_40 (by decide) (fun c_40 => ?_) (fun c_40 => ?_)
        · -- 40
          have hge_z2 : 4 ≤ z2 := by rw [show (4 : Int32) = nI 4 from rfl, nI_leI (by omega) (by omega)] at c_40; omega
          obtain rfl : 4 = z2 := by omega
          refine lv_iconst (v := 0) hx hb dX2_digest_75 (by decide) ?_
          refine lv_istore_n (lv' := [(3, .int 0), (1, .long (dg2 L T (dg1 n (cRec L T K F S B n) 6) 4)), (0, .ref mo)]) hx hb dX2_digest_76 rfl hl (by decide) rfl (fun ls hl => ?_)
          refine (fun (KK : ∀ (nn9 : Nat) (z3 : Nat) (co3 : Int32) (pl3 : Int32) (st3 : Int32) (jo3 : Int32) (cn3 : Int32) (ii3 : Int32) (fi3 : Int32) (fe3 : Int32) (U3 : N2I) (H : Heap) (locs : List Loc) (ls : Array Slot) (hz3 : z3 ≤ n), n - z3 < nn9 → va_P (dC, dI) vwCl [(mo, .inr (2, [.int 0, .ref bL, .ref bT, .int (nI n), .ref bK, .ref bF, .ref bS, .ref bB, .int co3, .int pl3, .int st3, .int jo3, .int cn3, .int ii3, .int fi3, .int fe3, .ref bU])), (bK, .inl (cI, 60, .inl K)), (bF, .inl (cI, 60, .inl F)), (bS, .inl (cI, 60, .inl S)), (bB, .inl (cZ, 60, .inl B)), (bL, .inl (cI, 4, .inl L)), (bT, .inl (cI, 4, .inl T)), (bU, .inl (cI, 6, .inl U3))] H → va_D A [(mo, .inr (2, [.int 0, .ref bL, .ref bT, .int (nI n), .ref bK, .ref bF, .ref bS, .ref bB, .int co3, .int pl3, .int st3, .int jo3, .int cn3, .int ii3, .int fi3, .int fe3, .ref bU])), (bK, .inl (cI, 60, .inl K)), (bF, .inl (cI, 60, .inl F)), (bS, .inl (cI, 60, .inl S)), (bB, .inl (cZ, 60, .inl B)), (bL, .inl (cI, 4, .inl L)), (bT, .inl (cI, 4, .inl T)), (bU, .inl (cI, 6, .inl U3))] → va_S A s.heap H locs → lv_has ls 5 [(1, .long (dg3 L T K F S B (dg2 L T (dg1 n (cRec L T K F S B n) 6) 4) z3)), (3, .int (nI z3)), (0, .ref mo)] → W p l e _ s m _ below meth c H locs 0 0 _ (F0 m 77 ls [])) => KK (n - 0 + 1) 0 co2 pl2 st2 jo2 cn2 ii2 fi2 fe2 U2 _ _ _ (Nat.zero_le _) (by omega) hP hD hS (lv_sub hl [1, 0, 2] rfl)) ?_
          intro nn_77
          induction nn_77 with
          | zero => intro z3 co3 pl3 st3 jo3 cn3 ii3 fi3 fe3 U3 H locs ls hz3 hn9; exact absurd hn9 (Nat.not_lt_zero _)
          | succ nn_77 ih_77 =>
            intro z3 co3 pl3 st3 jo3 cn3 ii3 fi3 fe3 U3 H_4 locs ls hz3 hn_77 hP hD hS hl
            refine lv_iload_n hx hb dX2_digest_77 rfl (lv_at hl 1 rfl) ?_
            refine lv_aload_n hx hb dX2_digest_78 rfl (lv_at hl 2 rfl) ?_
            refine va_get (D := (dC, dI)) (ci := 2) (v := .int (nI n)) (C := RX2) (T := TX2) (N := 17) hx hb hts hinX2 hown hK hP 0 rfl rfl 3 (by decide) k3 (fun _ h9 => h9) rfl dX2_digest_79 ?_
            refine lv_icmp_ge (tgt := 133) hx hb dX2_digest_82 (by decide) (fun c_82 => ?_) (fun c_82 => ?_)
            · -- 82
              have hge_z3 : n ≤ z3 := by rw [nI_leI (by omega) (by omega)] at c_82; omega
              obtain rfl : n = z3 := by omega
              refine lv_aload_n hx hb dX2_digest_133 rfl (lv_at hl 2 rfl) ?_
              refine lv_aload_n hx hb dX2_digest_134 rfl (lv_at hl 2 rfl) ?_
              refine va_get (D := (dC, dI)) (ci := 2) (v := .int (nI n)) (C := RX2) (T := TX2) (N := 17) hx hb hts hinX2 hown hK hP 0 rfl rfl 3 (by decide) k3 (fun _ h9 => h9) rfl dX2_digest_135 ?_
              have hPc := hP.sub (ws' := [(mo, .inr (2, [.int 0, .ref bL, .ref bT, .int (nI n), .ref bK, .ref bF, .ref bS, .ref bB, .int co3, .int pl3, .int st3, .int jo3, .int cn3, .int ii3, .int fi3, .int fe3, .ref bU])), (bK, .inl (cI, 60, .inl K)), (bF, .inl (cI, 60, .inl F)), (bS, .inl (cI, 60, .inl S)), (bB, .inl (cZ, 60, .inl B)), (bL, .inl (cI, 4, .inl L)), (bT, .inl (cI, 4, .inl T)), (bU, .inl (cI, 6, .inl U3))]) [0, 1, 2, 3, 4, 5, 6, 7] rfl
              have hDc := hD.sub (ws' := [(mo, .inr (2, [.int 0, .ref bL, .ref bT, .int (nI n), .ref bK, .ref bF, .ref bS, .ref bB, .int co3, .int pl3, .int st3, .int jo3, .int cn3, .int ii3, .int fi3, .int fe3, .ref bU])), (bK, .inl (cI, 60, .inl K)), (bF, .inl (cI, 60, .inl F)), (bS, .inl (cI, 60, .inl S)), (bB, .inl (cZ, 60, .inl B)), (bL, .inl (cI, 4, .inl L)), (bT, .inl (cI, 4, .inl T)), (bU, .inl (cI, 6, .inl U3))]) [0, 1, 2, 3, 4, 5, 6, 7] (by decide) rfl
              have hKc := hK.sub (tys' := [(cI, .int), (cZ, .boolean)]) [0, 1] rfl
              have hFc := va_free (wc := [(mo, .inr (2, [.int 0, .ref bL, .ref bT, .int (nI n), .ref bK, .ref bF, .ref bS, .ref bB, .int co3, .int pl3, .int st3, .int jo3, .int cn3, .int ii3, .int fi3, .int fe3, .ref bU])), (bK, .inl (cI, 60, .inl K)), (bF, .inl (cI, 60, .inl F)), (bS, .inl (cI, 60, .inl S)), (bB, .inl (cZ, 60, .inl B)), (bL, .inl (cI, 4, .inl L)), (bT, .inl (cI, 4, .inl T)), (bU, .inl (cI, 6, .inl U3))]) hD hS hA [0, 1, 2, 3, 4, 5, 6, 7] rfl
              refine va_calli (va_runV (As := [.int (nI n)]) (rest := []) ⟨hx, hb, hml, hown, hts⟩ (c_X2_reckon l dC dI cI cZ mo bK bF bS bB bL bT bU H_4.size L T K F S B U3 n 0 co3 pl3 st3 jo3 cn3 ii3 fi3 fe3 n (hX) (Nat.le_refl n)) (cwV 1 hts gX2_digest_X2_reckon rfl rfl rfl (by decide +kernel) ⟨Nat.le_of_ble_eq_true rfl, Nat.le_of_ble_eq_true rfl⟩) (pc_V hKc hPc hDc (ci := 2) (C := RX2) (T := TX2) (N := 17) (q0 := 0) rfl rfl) rfl rfl hl.1 rfl (lv_room (Nat.le_of_ble_eq_true rfl)) dX2_digest_138 ⟨Nat.le_of_ble_eq_true rfl, Nat.le_of_ble_eq_true rfl⟩) hS (fun q _ h => hFc q h) hFc (fun r_5 u t H_5 locs ht hvm hw hB hz1 hk1 hS => ?_)
              obtain ⟨co1_5, pl1_5, st1_5, jo1_5, cn1_5, ii1_5, fi1_5, fe1_5, U1_5⟩ := u
              try dsimp only at hw hB
              have hw_5 := hw
              obtain ⟨hw0_5, hw1_5⟩ := hw_5
              replace hw1_5 := hw1_5.symm
              subst hw1_5
              obtain ⟨hP1, hD1⟩ := hB
              rw [ht] at hP1
              obtain ⟨hP, hD⟩ := va_join (wr := []) (w1 := [(mo, .inr (2, [.int 0, .ref bL, .ref bT, .int (nI n), .ref bK, .ref bF, .ref bS, .ref bB, .int co1_5, .int pl1_5, .int st1_5, .int jo1_5, .int cn1_5, .int ii1_5, .int fi1_5, .int fe1_5, .ref bU])), (bK, .inl (cI, 60, .inl K)), (bF, .inl (cI, 60, .inl F)), (bS, .inl (cI, 60, .inl S)), (bB, .inl (cZ, 60, .inl B)), (bL, .inl (cI, 4, .inl L)), (bT, .inl (cI, 4, .inl T)), (bU, .inl (cI, 6, .inl U1_5))]) hP hD [0, 1, 2, 3, 4, 5, 6, 7] [] rfl rfl (by decide) (by decide) hk1 hFc hP1 hD1
              have hP : va_P (dC, dI) vwCl [(mo, .inr (2, [.int 0, .ref bL, .ref bT, .int (nI n), .ref bK, .ref bF, .ref bS, .ref bB, .int co1_5, .int pl1_5, .int st1_5, .int jo1_5, .int cn1_5, .int ii1_5, .int fi1_5, .int fe1_5, .ref bU])), (bK, .inl (cI, 60, .inl K)), (bF, .inl (cI, 60, .inl F)), (bS, .inl (cI, 60, .inl S)), (bB, .inl (cZ, 60, .inl B)), (bL, .inl (cI, 4, .inl L)), (bT, .inl (cI, 4, .inl T)), (bU, .inl (cI, 6, .inl U1_5))] H_5 := hP
              have hD : va_D A [(mo, .inr (2, [.int 0, .ref bL, .ref bT, .int (nI n), .ref bK, .ref bF, .ref bS, .ref bB, .int co1_5, .int pl1_5, .int st1_5, .int jo1_5, .int cn1_5, .int ii1_5, .int fi1_5, .int fe1_5, .ref bU])), (bK, .inl (cI, 60, .inl K)), (bF, .inl (cI, 60, .inl F)), (bS, .inl (cI, 60, .inl S)), (bB, .inl (cZ, 60, .inl B)), (bL, .inl (cI, 4, .inl L)), (bT, .inl (cI, 4, .inl T)), (bU, .inl (cI, 6, .inl U1_5))] := hD
              refine lv_pop hx hb dX2_digest_141 rfl ?_
              refine lv_iconst (v := 0) hx hb dX2_digest_142 (by decide) ?_
              refine lv_istore_n (lv' := [(3, .int 0), (1, .long (dg3 L T K F S B (dg2 L T (dg1 n (cRec L T K F S B n) 6) 4) n)), (0, .ref mo)]) hx hb dX2_digest_143 rfl hl (by decide) rfl (fun ls hl => ?_)
              refine (fun (KK : ∀ (nn9 : Nat) (z5 : Nat) (H : Heap) (locs : List Loc) (ls : Array Slot) (hz5 : z5 ≤ 6), 6 - z5 < nn9 → va_P (dC, dI) vwCl [(mo, .inr (2, [.int 0, .ref bL, .ref bT, .int (nI n), .ref bK, .ref bF, .ref bS, .ref bB, .int co1_5, .int pl1_5, .int st1_5, .int jo1_5, .int cn1_5, .int ii1_5, .int fi1_5, .int fe1_5, .ref bU])), (bK, .inl (cI, 60, .inl K)), (bF, .inl (cI, 60, .inl F)), (bS, .inl (cI, 60, .inl S)), (bB, .inl (cZ, 60, .inl B)), (bL, .inl (cI, 4, .inl L)), (bT, .inl (cI, 4, .inl T)), (bU, .inl (cI, 6, .inl U1_5))] H → va_D A [(mo, .inr (2, [.int 0, .ref bL, .ref bT, .int (nI n), .ref bK, .ref bF, .ref bS, .ref bB, .int co1_5, .int pl1_5, .int st1_5, .int jo1_5, .int cn1_5, .int ii1_5, .int fi1_5, .int fe1_5, .ref bU])), (bK, .inl (cI, 60, .inl K)), (bF, .inl (cI, 60, .inl F)), (bS, .inl (cI, 60, .inl S)), (bB, .inl (cZ, 60, .inl B)), (bL, .inl (cI, 4, .inl L)), (bT, .inl (cI, 4, .inl T)), (bU, .inl (cI, 6, .inl U1_5))] → va_S A s.heap H locs → lv_has ls 5 [(1, .long (dg4 (cRec L T K F S B n) (dg3 L T K F S B (dg2 L T (dg1 n (cRec L T K F S B n) 6) 4) n) z5)), (3, .int (nI z5)), (0, .ref mo)] → W p l e _ s m _ below meth c H locs 0 0 _ (F0 m 144 ls [])) => KK (6 - 0 + 1) 0 _ _ _ (Nat.zero_le _) (by omega) hP hD hS (lv_sub hl [1, 0, 2] rfl)) ?_
              intro nn_144
              induction nn_144 with
              | zero => intro z5 H locs ls hz5 hn9; exact absurd hn9 (Nat.not_lt_zero _)
              | succ nn_144 ih_144 =>
                intro z5 H_6 locs ls hz5 hn_144 hP hD hS hl
                refine lv_iload_n hx hb dX2_digest_144 rfl (lv_at hl 1 rfl) ?_
                refine lv_bipush (v := 6) hx hb dX2_digest_145 (by decide) ?_
                refine lv_icmp_ge (tgt := 182) hx hb dX2_digest_147 (by decide) (fun c_147 => ?_) (fun c_147 => ?_)
                · -- 147
                  have hge_z5 : 6 ≤ z5 := by rw [show (6 : Int32) = nI 6 from rfl, nI_leI (by omega) (by omega)] at c_147; omega
                  obtain rfl : 6 = z5 := by omega
                  refine lv_lload_n hx hb dX2_digest_182 rfl (lv_at hl 0 rfl) ?_
                  have hpost : (dg4 (cRec L T K F S B n) (dg3 L T K F S B (dg2 L T (dg1 n (cRec L T K F S B n) 6) 4) n) 6) = aDig L T K F S B n := by
                    rfl
                  have hP9 := hP.sub (ws' := [(mo, .inr (2, [.int 0, .ref bL, .ref bT, .int (nI n), .ref bK, .ref bF, .ref bS, .ref bB, .int co1_5, .int pl1_5, .int st1_5, .int jo1_5, .int cn1_5, .int ii1_5, .int fi1_5, .int fe1_5, .ref bU])), (bK, .inl (cI, 60, .inl K)), (bF, .inl (cI, 60, .inl F)), (bS, .inl (cI, 60, .inl S)), (bB, .inl (cZ, 60, .inl B)), (bL, .inl (cI, 4, .inl L)), (bT, .inl (cI, 4, .inl T)), (bU, .inl (cI, 6, .inl U1_5))]) [0, 1, 2, 3, 4, 5, 6, 7] rfl
                  have hD9 := hD.sub (ws' := [(mo, .inr (2, [.int 0, .ref bL, .ref bT, .int (nI n), .ref bK, .ref bF, .ref bS, .ref bB, .int co1_5, .int pl1_5, .int st1_5, .int jo1_5, .int cn1_5, .int ii1_5, .int fi1_5, .int fe1_5, .ref bU])), (bK, .inl (cI, 60, .inl K)), (bF, .inl (cI, 60, .inl F)), (bS, .inl (cI, 60, .inl S)), (bB, .inl (cZ, 60, .inl B)), (bL, .inl (cI, 4, .inl L)), (bT, .inl (cI, 4, .inl T)), (bU, .inl (cI, 6, .inl U1_5))]) [0, 1, 2, 3, 4, 5, 6, 7] (by decide) rfl
                  exact W.lret (v := dg4 (cRec L T K F S B n) (dg3 L T K F S B (dg2 L T (dg1 n (cRec L T K F S B n) 6) 4) n) 6) hx hb hr (fun t ht hW => ⟨⟨(dg4 (cRec L T K F S B n) (dg3 L T K F S B (dg2 L T (dg1 n (cRec L T K F S B n) 6) 4) n) 6), (co1_5, pl1_5, st1_5, jo1_5, cn1_5, ii1_5, fi1_5, fe1_5, U1_5), rfl, hpost, by rw [ht]; exact hP9, hD9⟩, hS.F ht⟩) hS.2.2 dX2_digest_183
                · -- 147
                  have hlt_z5 : z5 < 6 := by rw [show (6 : Int32) = nI 6 from rfl, nI_leI (by omega) (by omega)] at c_147; omega
                  refine lv_lload_n hx hb dX2_digest_150 rfl (lv_at hl 0 rfl) ?_
                  refine lv_ldc2 (v := 31) hx hb hown k4 dX2_digest_151 ?_
                  refine lv_lmul hx hb dX2_digest_154 ?_
                  refine lv_iload_n hx hb dX2_digest_155 rfl (lv_at hl 1 rfl) ?_
                  refine lv_aload_n hx hb dX2_digest_156 rfl (lv_at hl 2 rfl) ?_
                  refine va_get (D := (dC, dI)) (ci := 2) (v := .int jo1_5) (C := RX2) (T := TX2) (N := 17) hx hb hts hinX2 hown hK hP 0 rfl rfl 11 (by decide) k5 (fun _ h9 => h9) rfl dX2_digest_157 ?_
                  refine lv_icmp_ge (tgt := 172) hx hb dX2_digest_160 (by decide) (fun c_160 => ?_) (fun c_160 => ?_)
                  · -- 160
                    refine lv_iconst (v := (-1)) hx hb dX2_digest_172 (by decide) ?_
                    refine lv_i2l (v := (-1 : Int32).toInt64) hx hb dX2_digest_173 rfl ?_
                    refine lv_ladd hx hb dX2_digest_174 ?_
                    refine lv_lstore_n (lv' := [(1, .long (((dg4 (cRec L T K F S B n) (dg3 L T K F S B (dg2 L T (dg1 n (cRec L T K F S B n) 6) 4) n) z5) * 31) + ((-1 : Int32).toInt64))), (3, .int (nI z5)), (0, .ref mo)]) hx hb dX2_digest_175 rfl hl (by decide) rfl (fun ls hl => ?_)
                    refine lv_iinc (v := nI (z5 + 1)) (lv' := [(3, .int (nI (z5 + 1))), (1, .long (((dg4 (cRec L T K F S B n) (dg3 L T K F S B (dg2 L T (dg1 n (cRec L T K F S B n) 6) 4) n) z5) * 31) + ((-1 : Int32).toInt64))), (0, .ref mo)]) hx hb dX2_digest_176 hl (k := 1) rfl (nI_1 _) (by decide) rfl (fun ls hl => ?_)
                    refine lv_goto (tgt := 144) hx hb dX2_digest_179 (by decide) ?_
                    have e9 : ((dg4 (cRec L T K F S B n) (dg3 L T K F S B (dg2 L T (dg1 n (cRec L T K F S B n) 6) 4) n) z5) * 31) + ((-1 : Int32).toInt64) = dg4 (cRec L T K F S B n) (dg3 L T K F S B (dg2 L T (dg1 n (cRec L T K F S B n) 6) 4) n) (z5 + 1) := by
                      show _ = dg (dg4 (cRec L T K F S B n) (dg3 L T K F S B (dg2 L T (dg1 n (cRec L T K F S B n) 6) 4) n) z5) (aTrust (nI z5) (cRec L T K F S B n))
                      rw [← ans_of (aTrust_sim (vp_in_nI hlt_z5 (by omega))) hX (Nat.le_refl n) hw0_5]
                      unfold aTrust mJd dg
                      dsimp only
                      rw [if_pos c_160, if_pos rfl]
                    rw [e9] at hl
                    exact ih_144 (z5 + 1) _ _ _ (by omega) (by omega) hP hD hS (lv_sub hl [1, 0, 2] rfl)
                  · -- 160
                    refine lv_aload_n hx hb dX2_digest_163 rfl (lv_at hl 2 rfl) ?_
                    refine va_get (D := (dC, dI)) (ci := 2) (v := .ref bU) (C := RX2) (T := TX2) (N := 17) hx hb hts hinX2 hown hK hP 0 rfl rfl 16 (by decide) k6 (fun _ h9 => h9) rfl dX2_digest_164 ?_
                    refine lv_iload_n hx hb dX2_digest_167 rfl (lv_at hl 1 rfl) ?_
                    refine va_iald hx hb hK hP 7 0 rfl rfl (vp_in_nI (by omega) (by omega)) dX2_digest_168 ?_
                    rw [nI_clamp (n := z5) (by omega)]
                    refine lv_goto (tgt := 173) hx hb dX2_digest_169 (by decide) ?_
                    refine lv_i2l (v := (U1_5 z5).toInt64) hx hb dX2_digest_173 rfl ?_
                    refine lv_ladd hx hb dX2_digest_174 ?_
                    refine lv_lstore_n (lv' := [(1, .long (((dg4 (cRec L T K F S B n) (dg3 L T K F S B (dg2 L T (dg1 n (cRec L T K F S B n) 6) 4) n) z5) * 31) + ((U1_5 z5).toInt64))), (3, .int (nI z5)), (0, .ref mo)]) hx hb dX2_digest_175 rfl hl (by decide) rfl (fun ls hl => ?_)
                    refine lv_iinc (v := nI (z5 + 1)) (lv' := [(3, .int (nI (z5 + 1))), (1, .long (((dg4 (cRec L T K F S B n) (dg3 L T K F S B (dg2 L T (dg1 n (cRec L T K F S B n) 6) 4) n) z5) * 31) + ((U1_5 z5).toInt64))), (0, .ref mo)]) hx hb dX2_digest_176 hl (k := 1) rfl (nI_1 _) (by decide) rfl (fun ls hl => ?_)
                    refine lv_goto (tgt := 144) hx hb dX2_digest_179 (by decide) ?_
                    have e9 : ((dg4 (cRec L T K F S B n) (dg3 L T K F S B (dg2 L T (dg1 n (cRec L T K F S B n) 6) 4) n) z5) * 31) + ((U1_5 z5).toInt64) = dg4 (cRec L T K F S B n) (dg3 L T K F S B (dg2 L T (dg1 n (cRec L T K F S B n) 6) 4) n) (z5 + 1) := by
                      show _ = dg (dg4 (cRec L T K F S B n) (dg3 L T K F S B (dg2 L T (dg1 n (cRec L T K F S B n) 6) 4) n) z5) (aTrust (nI z5) (cRec L T K F S B n))
                      rw [← ans_of (aTrust_sim (vp_in_nI hlt_z5 (by omega))) hX (Nat.le_refl n) hw0_5]
                      unfold aTrust mJd dg
                      dsimp only
                      rw [if_neg c_160, if_neg one_ne, nI_clamp (n := z5) (by omega)]
                    rw [e9] at hl
                    exact ih_144 (z5 + 1) _ _ _ (by omega) (by omega) hP hD hS (lv_sub hl [1, 0, 2] rfl)
            · -- 82
              have hlt_z3 : z3 < n := by rw [nI_leI (by omega) (by omega)] at c_82; omega
              refine lv_iconst (v := 0) hx hb dX2_digest_85 (by decide) ?_
              refine lv_istore (lv' := [(4, .int 0), (1, .long (dg3 L T K F S B (dg2 L T (dg1 n (cRec L T K F S B n) 6) 4) z3)), (3, .int (nI z3)), (0, .ref mo)]) hx hb dX2_digest_86 hl (by decide) rfl (fun ls hl => ?_)
              refine (fun (KK : ∀ (nn9 : Nat) (z4 : Nat) (co4 : Int32) (pl4 : Int32) (st4 : Int32) (jo4 : Int32) (cn4 : Int32) (ii4 : Int32) (fi4 : Int32) (fe4 : Int32) (U4 : N2I) (H : Heap) (locs : List Loc) (ls : Array Slot) (hz4 : z4 ≤ 5) (hco : z4 = 5 → co4 = (cRec L T K F S B (z3 + 1)).1), 5 - z4 < nn9 → va_P (dC, dI) vwCl [(mo, .inr (2, [.int 0, .ref bL, .ref bT, .int (nI n), .ref bK, .ref bF, .ref bS, .ref bB, .int co4, .int pl4, .int st4, .int jo4, .int cn4, .int ii4, .int fi4, .int fe4, .ref bU])), (bK, .inl (cI, 60, .inl K)), (bF, .inl (cI, 60, .inl F)), (bS, .inl (cI, 60, .inl S)), (bB, .inl (cZ, 60, .inl B)), (bL, .inl (cI, 4, .inl L)), (bT, .inl (cI, 4, .inl T)), (bU, .inl (cI, 6, .inl U4))] H → va_D A [(mo, .inr (2, [.int 0, .ref bL, .ref bT, .int (nI n), .ref bK, .ref bF, .ref bS, .ref bB, .int co4, .int pl4, .int st4, .int jo4, .int cn4, .int ii4, .int fi4, .int fe4, .ref bU])), (bK, .inl (cI, 60, .inl K)), (bF, .inl (cI, 60, .inl F)), (bS, .inl (cI, 60, .inl S)), (bB, .inl (cZ, 60, .inl B)), (bL, .inl (cI, 4, .inl L)), (bT, .inl (cI, 4, .inl T)), (bU, .inl (cI, 6, .inl U4))] → va_S A s.heap H locs → lv_has ls 5 [(1, .long (dg3i L T K F S B z3 (dg3 L T K F S B (dg2 L T (dg1 n (cRec L T K F S B n) 6) 4) z3) z4)), (4, .int (nI z4)), (3, .int (nI z3)), (0, .ref mo)] → W p l e _ s m _ below meth c H locs 0 0 _ (F0 m 88 ls [])) => KK (5 - 0 + 1) 0 co3 pl3 st3 jo3 cn3 ii3 fi3 fe3 U3 _ _ _ (Nat.zero_le _) (fun h9 => absurd h9 (by decide)) (by omega) hP hD hS (lv_sub hl [1, 0, 2, 3] rfl)) ?_
              intro nn_88
              induction nn_88 with
              | zero => intro z4 co4 pl4 st4 jo4 cn4 ii4 fi4 fe4 U4 H locs ls hz4 hco hn9; exact absurd hn9 (Nat.not_lt_zero _)
              | succ nn_88 ih_88 =>
                intro z4 co4 pl4 st4 jo4 cn4 ii4 fi4 fe4 U4 H_7 locs ls hz4 hco hn_88 hP hD hS hl
                refine lv_iload hx hb dX2_digest_88 (lv_at hl 1 rfl) ?_
                refine lv_iconst (v := 5) hx hb dX2_digest_90 (by decide) ?_
                refine lv_icmp_ge (tgt := 115) hx hb dX2_digest_91 (by decide) (fun c_91 => ?_) (fun c_91 => ?_)
                · -- 91
                  have hge_z4 : 5 ≤ z4 := by rw [show (5 : Int32) = nI 5 from rfl, nI_leI (by omega) (by omega)] at c_91; omega
                  obtain rfl : 5 = z4 := by omega
                  have hco9 : aBehind 0 (cRec L T K F S B (z3 + 1)) = co4 := by rw [aBehind_0]; exact (hco rfl).symm
                  subst hco9
                  refine lv_lload_n hx hb dX2_digest_115 rfl (lv_at hl 0 rfl) ?_
                  refine lv_ldc2 (v := 31) hx hb hown k4 dX2_digest_116 ?_
                  refine lv_lmul hx hb dX2_digest_119 ?_
                  refine lv_aload_n hx hb dX2_digest_120 rfl (lv_at hl 3 rfl) ?_
                  refine va_get (D := (dC, dI)) (ci := 2) (v := .int (aBehind 0 (cRec L T K F S B (z3 + 1)))) (C := RX2) (T := TX2) (N := 17) hx hb hts hinX2 hown hK hP 0 rfl rfl 8 (by decide) k7 (fun _ h9 => h9) rfl dX2_digest_121 ?_
                  refine lv_i2l (v := (aBehind 0 (cRec L T K F S B (z3 + 1))).toInt64) hx hb dX2_digest_124 rfl ?_
                  refine lv_ladd hx hb dX2_digest_125 ?_
                  refine lv_lstore_n (lv' := [(1, .long (((dg3i L T K F S B z3 (dg3 L T K F S B (dg2 L T (dg1 n (cRec L T K F S B n) 6) 4) z3) 5) * 31) + ((aBehind 0 (cRec L T K F S B (z3 + 1))).toInt64))), (4, .int (nI 5)), (3, .int (nI z3)), (0, .ref mo)]) hx hb dX2_digest_126 rfl hl (by decide) rfl (fun ls hl => ?_)
                  refine lv_iinc (v := nI (z3 + 1)) (lv' := [(3, .int (nI (z3 + 1))), (1, .long (((dg3i L T K F S B z3 (dg3 L T K F S B (dg2 L T (dg1 n (cRec L T K F S B n) 6) 4) z3) 5) * 31) + ((aBehind 0 (cRec L T K F S B (z3 + 1))).toInt64))), (4, .int (nI 5)), (0, .ref mo)]) hx hb dX2_digest_127 hl (k := 2) rfl (nI_1 _) (by decide) rfl (fun ls hl => ?_)
                  refine lv_goto (tgt := 77) hx hb dX2_digest_130 (by decide) ?_
                  exact ih_77 (z3 + 1) (aBehind 0 (cRec L T K F S B (z3 + 1))) pl4 st4 jo4 cn4 ii4 fi4 fe4 U4 _ _ _ (by omega) (by omega) hP hD hS (lv_sub hl [1, 0, 3] rfl)
                · -- 91
                  have hlt_z4 : z4 < 5 := by rw [show (5 : Int32) = nI 5 from rfl, nI_leI (by omega) (by omega)] at c_91; omega
                  refine lv_lload_n hx hb dX2_digest_94 rfl (lv_at hl 0 rfl) ?_
                  refine lv_ldc2 (v := 31) hx hb hown k4 dX2_digest_95 ?_
                  refine lv_lmul hx hb dX2_digest_98 ?_
                  refine lv_aload_n hx hb dX2_digest_99 rfl (lv_at hl 3 rfl) ?_
                  refine lv_iload_n hx hb dX2_digest_100 rfl (lv_at hl 2 rfl) ?_
                  refine lv_iload hx hb dX2_digest_101 (lv_at hl 1 rfl) ?_
                  have hPc := hP.sub (ws' := [(mo, .inr (2, [.int 0, .ref bL, .ref bT, .int (nI n), .ref bK, .ref bF, .ref bS, .ref bB, .int co4, .int pl4, .int st4, .int jo4, .int cn4, .int ii4, .int fi4, .int fe4, .ref bU])), (bK, .inl (cI, 60, .inl K)), (bF, .inl (cI, 60, .inl F)), (bS, .inl (cI, 60, .inl S)), (bB, .inl (cZ, 60, .inl B)), (bL, .inl (cI, 4, .inl L)), (bT, .inl (cI, 4, .inl T)), (bU, .inl (cI, 6, .inl U4))]) [0, 1, 2, 3, 4, 5, 6, 7] rfl
                  have hDc := hD.sub (ws' := [(mo, .inr (2, [.int 0, .ref bL, .ref bT, .int (nI n), .ref bK, .ref bF, .ref bS, .ref bB, .int co4, .int pl4, .int st4, .int jo4, .int cn4, .int ii4, .int fi4, .int fe4, .ref bU])), (bK, .inl (cI, 60, .inl K)), (bF, .inl (cI, 60, .inl F)), (bS, .inl (cI, 60, .inl S)), (bB, .inl (cZ, 60, .inl B)), (bL, .inl (cI, 4, .inl L)), (bT, .inl (cI, 4, .inl T)), (bU, .inl (cI, 6, .inl U4))]) [0, 1, 2, 3, 4, 5, 6, 7] (by decide) rfl
                  have hKc := hK.sub (tys' := [(cI, .int), (cZ, .boolean)]) [0, 1] rfl
                  have hFc := va_free (wc := [(mo, .inr (2, [.int 0, .ref bL, .ref bT, .int (nI n), .ref bK, .ref bF, .ref bS, .ref bB, .int co4, .int pl4, .int st4, .int jo4, .int cn4, .int ii4, .int fi4, .int fe4, .ref bU])), (bK, .inl (cI, 60, .inl K)), (bF, .inl (cI, 60, .inl F)), (bS, .inl (cI, 60, .inl S)), (bB, .inl (cZ, 60, .inl B)), (bL, .inl (cI, 4, .inl L)), (bT, .inl (cI, 4, .inl T)), (bU, .inl (cI, 6, .inl U4))]) hD hS hA [0, 1, 2, 3, 4, 5, 6, 7] rfl
                  refine va_calli (va_runV (As := [.int (nI z3), .int (nI z4)]) (rest := [.long ((dg3i L T K F S B z3 (dg3 L T K F S B (dg2 L T (dg1 n (cRec L T K F S B n) 6) 4) z3) z4) * 31)]) ⟨hx, hb, hml, hown, hts⟩ (c_X2_entryTold l dC dI cI cZ mo bK bF bS bB bL bT bU H_7.size L T K F S B U4 n 0 co4 pl4 st4 jo4 cn4 ii4 fi4 fe4 z3 (nI z4) (hX) (hlt_z3)) (cwV 2 hts gX2_digest_X2_entryTold rfl rfl rfl (by decide +kernel) ⟨Nat.le_of_ble_eq_true rfl, Nat.le_of_ble_eq_true rfl⟩) (pc_V hKc hPc hDc (ci := 2) (C := RX2) (T := TX2) (N := 17) (q0 := 0) rfl rfl) rfl rfl hl.1 rfl (lv_room (Nat.le_of_ble_eq_true rfl)) dX2_digest_103 ⟨Nat.le_of_ble_eq_true rfl, Nat.le_of_ble_eq_true rfl⟩) hS (fun q _ h => hFc q h) hFc (fun r_8 u t H_8 locs ht hvm hw hB hz1 hk1 hS => ?_)
                  obtain ⟨co1_8, pl1_8, st1_8, jo1_8, cn1_8, ii1_8, fi1_8, fe1_8, U1_8⟩ := u
                  try dsimp only at hw hB
                  have hw_8 := hw
                  obtain ⟨hw0_8, hw1_8⟩ := hw_8
                  replace hw0_8 := hw0_8.symm
                  subst hw0_8
                  obtain ⟨hP1, hD1⟩ := hB
                  rw [ht] at hP1
                  obtain ⟨hP, hD⟩ := va_join (wr := []) (w1 := [(mo, .inr (2, [.int 0, .ref bL, .ref bT, .int (nI n), .ref bK, .ref bF, .ref bS, .ref bB, .int co1_8, .int pl1_8, .int st1_8, .int jo1_8, .int cn1_8, .int ii1_8, .int fi1_8, .int fe1_8, .ref bU])), (bK, .inl (cI, 60, .inl K)), (bF, .inl (cI, 60, .inl F)), (bS, .inl (cI, 60, .inl S)), (bB, .inl (cZ, 60, .inl B)), (bL, .inl (cI, 4, .inl L)), (bT, .inl (cI, 4, .inl T)), (bU, .inl (cI, 6, .inl U1_8))]) hP hD [0, 1, 2, 3, 4, 5, 6, 7] [] rfl rfl (by decide) (by decide) hk1 hFc hP1 hD1
                  have hP : va_P (dC, dI) vwCl [(mo, .inr (2, [.int 0, .ref bL, .ref bT, .int (nI n), .ref bK, .ref bF, .ref bS, .ref bB, .int co1_8, .int pl1_8, .int st1_8, .int jo1_8, .int cn1_8, .int ii1_8, .int fi1_8, .int fe1_8, .ref bU])), (bK, .inl (cI, 60, .inl K)), (bF, .inl (cI, 60, .inl F)), (bS, .inl (cI, 60, .inl S)), (bB, .inl (cZ, 60, .inl B)), (bL, .inl (cI, 4, .inl L)), (bT, .inl (cI, 4, .inl T)), (bU, .inl (cI, 6, .inl U1_8))] H_8 := hP
                  have hD : va_D A [(mo, .inr (2, [.int 0, .ref bL, .ref bT, .int (nI n), .ref bK, .ref bF, .ref bS, .ref bB, .int co1_8, .int pl1_8, .int st1_8, .int jo1_8, .int cn1_8, .int ii1_8, .int fi1_8, .int fe1_8, .ref bU])), (bK, .inl (cI, 60, .inl K)), (bF, .inl (cI, 60, .inl F)), (bS, .inl (cI, 60, .inl S)), (bB, .inl (cZ, 60, .inl B)), (bL, .inl (cI, 4, .inl L)), (bT, .inl (cI, 4, .inl T)), (bU, .inl (cI, 6, .inl U1_8))] := hD
                  refine lv_i2l (v := (aEnt L T K F S B z3 (nI z4)).toInt64) hx hb dX2_digest_106 rfl ?_
                  refine lv_ladd hx hb dX2_digest_107 ?_
                  refine lv_lstore_n (lv' := [(1, .long (((dg3i L T K F S B z3 (dg3 L T K F S B (dg2 L T (dg1 n (cRec L T K F S B n) 6) 4) z3) z4) * 31) + ((aEnt L T K F S B z3 (nI z4)).toInt64))), (4, .int (nI z4)), (3, .int (nI z3)), (0, .ref mo)]) hx hb dX2_digest_108 rfl hl (by decide) rfl (fun ls hl => ?_)
                  refine lv_iinc (v := nI (z4 + 1)) (lv' := [(4, .int (nI (z4 + 1))), (1, .long (((dg3i L T K F S B z3 (dg3 L T K F S B (dg2 L T (dg1 n (cRec L T K F S B n) 6) 4) z3) z4) * 31) + ((aEnt L T K F S B z3 (nI z4)).toInt64))), (3, .int (nI z3)), (0, .ref mo)]) hx hb dX2_digest_109 hl (k := 1) rfl (nI_1 _) (by decide) rfl (fun ls hl => ?_)
                  refine lv_goto (tgt := 88) hx hb dX2_digest_112 (by decide) ?_
                  exact ih_88 (z4 + 1) co1_8 pl1_8 st1_8 jo1_8 cn1_8 ii1_8 fi1_8 fe1_8 U1_8 _ _ _ (by omega) (fun h9 => hw1_8 (by rw [show z4 = 4 by omega]; rfl)) (by omega) hP hD hS (lv_sub hl [1, 0, 2, 3] rfl)
        · -- 40
          have hlt_z2 : z2 < 4 := by rw [show (4 : Int32) = nI 4 from rfl, nI_leI (by omega) (by omega)] at c_40; omega
          refine lv_lload_n hx hb dX2_digest_43 rfl (lv_at hl 0 rfl) ?_
          refine lv_ldc2 (v := 31) hx hb hown k4 dX2_digest_44 ?_
          refine lv_lmul hx hb dX2_digest_47 ?_
          refine lv_aload_n hx hb dX2_digest_48 rfl (lv_at hl 2 rfl) ?_
          refine va_get (D := (dC, dI)) (ci := 2) (v := .ref bL) (C := RX2) (T := TX2) (N := 17) hx hb hts hinX2 hown hK hP 0 rfl rfl 1 (by decide) k8 (fun _ h9 => h9) rfl dX2_digest_49 ?_
          refine lv_iload_n hx hb dX2_digest_52 rfl (lv_at hl 1 rfl) ?_
          refine va_iald hx hb hK hP 5 0 rfl rfl (vp_in_nI (by omega) (by omega)) dX2_digest_53 ?_
          rw [nI_clamp (n := z2) (by omega)]
          refine lv_i2l (v := (L z2).toInt64) hx hb dX2_digest_54 rfl ?_
          refine lv_ladd hx hb dX2_digest_55 ?_
          refine lv_ldc2 (v := 31) hx hb hown k4 dX2_digest_56 ?_
          refine lv_lmul hx hb dX2_digest_59 ?_
          refine lv_aload_n hx hb dX2_digest_60 rfl (lv_at hl 2 rfl) ?_
          refine va_get (D := (dC, dI)) (ci := 2) (v := .ref bT) (C := RX2) (T := TX2) (N := 17) hx hb hts hinX2 hown hK hP 0 rfl rfl 2 (by decide) k9 (fun _ h9 => h9) rfl dX2_digest_61 ?_
          refine lv_iload_n hx hb dX2_digest_64 rfl (lv_at hl 1 rfl) ?_
          refine va_iald hx hb hK hP 6 0 rfl rfl (vp_in_nI (by omega) (by omega)) dX2_digest_65 ?_
          rw [nI_clamp (n := z2) (by omega)]
          refine lv_i2l (v := (T z2).toInt64) hx hb dX2_digest_66 rfl ?_
          refine lv_ladd hx hb dX2_digest_67 ?_
          refine lv_lstore_n (lv' := [(1, .long (((((dg2 L T (dg1 n (cRec L T K F S B n) 6) z2) * 31) + ((L z2).toInt64)) * 31) + ((T z2).toInt64))), (3, .int (nI z2)), (0, .ref mo)]) hx hb dX2_digest_68 rfl hl (by decide) rfl (fun ls hl => ?_)
          refine lv_iinc (v := nI (z2 + 1)) (lv' := [(3, .int (nI (z2 + 1))), (1, .long (((((dg2 L T (dg1 n (cRec L T K F S B n) 6) z2) * 31) + ((L z2).toInt64)) * 31) + ((T z2).toInt64))), (0, .ref mo)]) hx hb dX2_digest_69 hl (k := 1) rfl (nI_1 _) (by decide) rfl (fun ls hl => ?_)
          refine lv_goto (tgt := 38) hx hb dX2_digest_72 (by decide) ?_
          exact ih_38 (z2 + 1) _ _ _ (by omega) (by omega) hP hD hS (lv_sub hl [1, 0, 2] rfl)
    · -- 14
      have hlt_z1 : z1 < 6 := by rw [show (6 : Int32) = nI 6 from rfl, nI_leI (by omega) (by omega)] at c_14; omega
      refine lv_lload_n hx hb dX2_digest_17 rfl (lv_at hl 0 rfl) ?_
      refine lv_ldc2 (v := 31) hx hb hown k4 dX2_digest_18 ?_
      refine lv_lmul hx hb dX2_digest_21 ?_
      refine lv_aload_n hx hb dX2_digest_22 rfl (lv_at hl 2 rfl) ?_
      refine lv_iload_n hx hb dX2_digest_23 rfl (lv_at hl 1 rfl) ?_
      have hPc := hP.sub (ws' := [(mo, .inr (2, [.int 0, .ref bL, .ref bT, .int (nI n), .ref bK, .ref bF, .ref bS, .ref bB, .int co2, .int pl2, .int st2, .int jo2, .int cn2, .int ii2, .int fi2, .int fe2, .ref bU])), (bK, .inl (cI, 60, .inl K)), (bF, .inl (cI, 60, .inl F)), (bS, .inl (cI, 60, .inl S)), (bB, .inl (cZ, 60, .inl B)), (bL, .inl (cI, 4, .inl L)), (bT, .inl (cI, 4, .inl T)), (bU, .inl (cI, 6, .inl U2))]) [0, 1, 2, 3, 4, 5, 6, 7] rfl
      have hDc := hD.sub (ws' := [(mo, .inr (2, [.int 0, .ref bL, .ref bT, .int (nI n), .ref bK, .ref bF, .ref bS, .ref bB, .int co2, .int pl2, .int st2, .int jo2, .int cn2, .int ii2, .int fi2, .int fe2, .ref bU])), (bK, .inl (cI, 60, .inl K)), (bF, .inl (cI, 60, .inl F)), (bS, .inl (cI, 60, .inl S)), (bB, .inl (cZ, 60, .inl B)), (bL, .inl (cI, 4, .inl L)), (bT, .inl (cI, 4, .inl T)), (bU, .inl (cI, 6, .inl U2))]) [0, 1, 2, 3, 4, 5, 6, 7] (by decide) rfl
      have hKc := hK.sub (tys' := [(cI, .int), (cZ, .boolean)]) [0, 1] rfl
      have hFc := va_free (wc := [(mo, .inr (2, [.int 0, .ref bL, .ref bT, .int (nI n), .ref bK, .ref bF, .ref bS, .ref bB, .int co2, .int pl2, .int st2, .int jo2, .int cn2, .int ii2, .int fi2, .int fe2, .ref bU])), (bK, .inl (cI, 60, .inl K)), (bF, .inl (cI, 60, .inl F)), (bS, .inl (cI, 60, .inl S)), (bB, .inl (cZ, 60, .inl B)), (bL, .inl (cI, 4, .inl L)), (bT, .inl (cI, 4, .inl T)), (bU, .inl (cI, 6, .inl U2))]) hD hS hA [0, 1, 2, 3, 4, 5, 6, 7] rfl
      refine va_calli (va_runV (As := [.int (nI z1)]) (rest := [.long ((dg1 n (cRec L T K F S B n) z1) * 31)]) ⟨hx, hb, hml, hown, hts⟩ (c_X2_counted l dC dI cI cZ mo bK bF bS bB bL bT bU H_2.size L T K F S B U2 n 0 co2 pl2 st2 jo2 cn2 ii2 fi2 fe2 (nI z1) (hX)) (cwV 1 hts gX2_digest_X2_counted rfl rfl rfl (by decide +kernel) ⟨Nat.le_of_ble_eq_true rfl, Nat.le_of_ble_eq_true rfl⟩) (pc_V hKc hPc hDc (ci := 2) (C := RX2) (T := TX2) (N := 17) (q0 := 0) rfl rfl) rfl rfl hl.1 rfl (lv_room (Nat.le_of_ble_eq_true rfl)) dX2_digest_24 ⟨Nat.le_of_ble_eq_true rfl, Nat.le_of_ble_eq_true rfl⟩) hS (fun q _ h => hFc q h) hFc (fun r_9 u t H_9 locs ht hvm hw hB hz1 hk1 hS => ?_)
      obtain ⟨co1_9, pl1_9, st1_9, jo1_9, cn1_9, ii1_9, fi1_9, fe1_9, U1_9⟩ := u
      try dsimp only at hw hB
      have hw_9 := hw
      replace hw_9 := hw_9.symm
      subst hw_9
      obtain ⟨hP1, hD1⟩ := hB
      rw [ht] at hP1
      obtain ⟨hP, hD⟩ := va_join (wr := []) (w1 := [(mo, .inr (2, [.int 0, .ref bL, .ref bT, .int (nI n), .ref bK, .ref bF, .ref bS, .ref bB, .int co1_9, .int pl1_9, .int st1_9, .int jo1_9, .int cn1_9, .int ii1_9, .int fi1_9, .int fe1_9, .ref bU])), (bK, .inl (cI, 60, .inl K)), (bF, .inl (cI, 60, .inl F)), (bS, .inl (cI, 60, .inl S)), (bB, .inl (cZ, 60, .inl B)), (bL, .inl (cI, 4, .inl L)), (bT, .inl (cI, 4, .inl T)), (bU, .inl (cI, 6, .inl U1_9))]) hP hD [0, 1, 2, 3, 4, 5, 6, 7] [] rfl rfl (by decide) (by decide) hk1 hFc hP1 hD1
      have hP : va_P (dC, dI) vwCl [(mo, .inr (2, [.int 0, .ref bL, .ref bT, .int (nI n), .ref bK, .ref bF, .ref bS, .ref bB, .int co1_9, .int pl1_9, .int st1_9, .int jo1_9, .int cn1_9, .int ii1_9, .int fi1_9, .int fe1_9, .ref bU])), (bK, .inl (cI, 60, .inl K)), (bF, .inl (cI, 60, .inl F)), (bS, .inl (cI, 60, .inl S)), (bB, .inl (cZ, 60, .inl B)), (bL, .inl (cI, 4, .inl L)), (bT, .inl (cI, 4, .inl T)), (bU, .inl (cI, 6, .inl U1_9))] H_9 := hP
      have hD : va_D A [(mo, .inr (2, [.int 0, .ref bL, .ref bT, .int (nI n), .ref bK, .ref bF, .ref bS, .ref bB, .int co1_9, .int pl1_9, .int st1_9, .int jo1_9, .int cn1_9, .int ii1_9, .int fi1_9, .int fe1_9, .ref bU])), (bK, .inl (cI, 60, .inl K)), (bF, .inl (cI, 60, .inl F)), (bS, .inl (cI, 60, .inl S)), (bB, .inl (cZ, 60, .inl B)), (bL, .inl (cI, 4, .inl L)), (bT, .inl (cI, 4, .inl T)), (bU, .inl (cI, 6, .inl U1_9))] := hD
      refine lv_i2l (v := (aCount n (nI z1) (cRec L T K F S B n)).toInt64) hx hb dX2_digest_27 rfl ?_
      refine lv_ladd hx hb dX2_digest_28 ?_
      refine lv_lstore_n (lv' := [(1, .long (((dg1 n (cRec L T K F S B n) z1) * 31) + ((aCount n (nI z1) (cRec L T K F S B n)).toInt64))), (3, .int (nI z1)), (0, .ref mo)]) hx hb dX2_digest_29 rfl hl (by decide) rfl (fun ls hl => ?_)
      refine lv_iinc (v := nI (z1 + 1)) (lv' := [(3, .int (nI (z1 + 1))), (1, .long (((dg1 n (cRec L T K F S B n) z1) * 31) + ((aCount n (nI z1) (cRec L T K F S B n)).toInt64))), (0, .ref mo)]) hx hb dX2_digest_30 hl (k := 1) rfl (nI_1 _) (by decide) rfl (fun ls hl => ?_)
      refine lv_goto (tgt := 11) hx hb dX2_digest_33 (by decide) ?_
      exact ih_11 (z1 + 1) co1_9 pl1_9 st1_9 jo1_9 cn1_9 ii1_9 fi1_9 fe1_9 U1_9 _ _ _ (by omega) (by omega) hP hD hS (lv_sub hl [1, 0, 2] rfl)
