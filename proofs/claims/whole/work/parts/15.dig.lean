set_option maxHeartbeats 4000000 in
set_option maxRecDepth 100000 in
theorem c_X1_digest (l : Launch) (dC : Nat → ClassId) (dI : Nat → Nat → Nat) (cI cZ : ClassId) (kl aK aF aS aB rk aL aT aU : Nat) (sz : Nat)  (L : N2I) (T : N2I) (K : N2I) (F : N2I) (S : N2I) (B : N2I) (U : N2I) (n : Nat) (co : Int32) (pl : Int32) (st : Int32) (jo : Int32) (cn : Int32) (ii : Int32) (fi : Int32) (fe : Int32) (hX : okX K F S B n) : Met l yX1_digest wsX1_digest ({ frames := 9, cells := 0, slots := 0, locals := 195 } : Room) (va_Pc [.ref kl] (pn_  (dC, dI) [(cI, .int), (cZ, .boolean)] [(kl, .inr (1, [.ref aK, .ref aF, .ref aS, .ref aB, .int (nI n), .ref rk])), (aK, .inl (cI, 60, .inl K)), (aF, .inl (cI, 60, .inl F)), (aS, .inl (cI, 60, .inl S)), (aB, .inl (cZ, 60, .inl B)), (rk, .inr (0, [.ref aL, .ref aT, .ref aU, .int co, .int pl, .int st, .int jo, .int cn, .int ii, .int fi, .int fe])), (aL, .inl (cI, 4, .inl L)), (aT, .inl (cI, 4, .inl T)), (aU, .inl (cI, 6, .inl U))] sz)) (va_Ql (fun (r : Int64) (u : Int32 × Int32 × Int32 × Int32 × Int32 × Int32 × Int32 × Int32 × N2I) => r = aDig L T K F S B n) (fun (u : Int32 × Int32 × Int32 × Int32 × Int32 × Int32 × Int32 × Int32 × N2I) (t : State) => va_P (dC, dI) vwCl [(kl, .inr (1, [.ref aK, .ref aF, .ref aS, .ref aB, .int (nI n), .ref rk])), (aK, .inl (cI, 60, .inl K)), (aF, .inl (cI, 60, .inl F)), (aS, .inl (cI, 60, .inl S)), (aB, .inl (cZ, 60, .inl B)), (rk, .inr (0, [.ref aL, .ref aT, .ref aU, .int u.1, .int u.2.1, .int u.2.2.1, .int u.2.2.2.1, .int u.2.2.2.2.1, .int u.2.2.2.2.2.1, .int u.2.2.2.2.2.2.1, .int u.2.2.2.2.2.2.2.1])), (aL, .inl (cI, 4, .inl L)), (aT, .inl (cI, 4, .inl T)), (aU, .inl (cI, 6, .inl u.2.2.2.2.2.2.2.2))] t.heap ∧ va_D (va_A [(kl, .inr (1, [.ref aK, .ref aF, .ref aS, .ref aB, .int (nI n), .ref rk])), (aK, .inl (cI, 60, .inl K)), (aF, .inl (cI, 60, .inl F)), (aS, .inl (cI, 60, .inl S)), (aB, .inl (cZ, 60, .inl B)), (rk, .inr (0, [.ref aL, .ref aT, .ref aU, .int co, .int pl, .int st, .int jo, .int cn, .int ii, .int fi, .int fe])), (aL, .inl (cI, 4, .inl L)), (aT, .inl (cI, 4, .inl T)), (aU, .inl (cI, 6, .inl U))] sz) [(kl, .inr (1, [.ref aK, .ref aF, .ref aS, .ref aB, .int (nI n), .ref rk])), (aK, .inl (cI, 60, .inl K)), (aF, .inl (cI, 60, .inl F)), (aS, .inl (cI, 60, .inl S)), (aB, .inl (cZ, 60, .inl B)), (rk, .inr (0, [.ref aL, .ref aT, .ref aU, .int u.1, .int u.2.1, .int u.2.2.1, .int u.2.2.2.1, .int u.2.2.2.2.1, .int u.2.2.2.2.2.1, .int u.2.2.2.2.2.2.1, .int u.2.2.2.2.2.2.2.1])), (aL, .inl (cI, 4, .inl L)), (aT, .inl (cI, 4, .inl T)), (aU, .inl (cI, 6, .inl u.2.2.2.2.2.2.2.2))]) (va_A [(kl, .inr (1, [.ref aK, .ref aF, .ref aS, .ref aB, .int (nI n), .ref rk])), (aK, .inl (cI, 60, .inl K)), (aF, .inl (cI, 60, .inl F)), (aS, .inl (cI, 60, .inl S)), (aB, .inl (cZ, 60, .inl B)), (rk, .inr (0, [.ref aL, .ref aT, .ref aU, .int co, .int pl, .int st, .int jo, .int cn, .int ii, .int fi, .int fe])), (aL, .inl (cI, 4, .inl L)), (aT, .inl (cI, 4, .inl T)), (aU, .inl (cI, 6, .inl U))] sz)) 0 0 (va_A [(kl, .inr (1, [.ref aK, .ref aF, .ref aS, .ref aB, .int (nI n), .ref rk])), (aK, .inl (cI, 60, .inl K)), (aF, .inl (cI, 60, .inl F)), (aS, .inl (cI, 60, .inl S)), (aB, .inl (cZ, 60, .inl B)), (rk, .inr (0, [.ref aL, .ref aT, .ref aU, .int co, .int pl, .int st, .int jo, .int cn, .int ii, .int fi, .int fe])), (aL, .inl (cI, 4, .inl L)), (aT, .inl (cI, 4, .inl T)), (aU, .inl (cI, 6, .inl U))] sz) := by
  refine Met.ofW (cc := cX1_digest) (maxL := 5) (ret := (some .long)) (by decide) rfl ?_
  intro p e s m args below meth c s₁ BB hml hv
  obtain ⟨rfl, hsz, hP, hK, hD0, hN⟩ := hv
  have hx := BB.exec
  have hb := BB.bytes
  have hr := BB.returns
  have hts := atoms_spec (ws := wsX1_digest) BB.pre
  have hown : s.vm.findClass RX1 = some m.cls := findClass_of_methodNamed BB.named
  have hlocks := BB.notSynchronized
  subst hsz
  have hD := hD0.self (sz := s.heap.size)
  generalize hAe : va_A [(kl, .inr (1, [.ref aK, .ref aF, .ref aS, .ref aB, .int (nI n), .ref rk])), (aK, .inl (cI, 60, .inl K)), (aF, .inl (cI, 60, .inl F)), (aS, .inl (cI, 60, .inl S)), (aB, .inl (cZ, 60, .inl B)), (rk, .inr (0, [.ref aL, .ref aT, .ref aU, .int co, .int pl, .int st, .int jo, .int cn, .int ii, .int fi, .int fe])), (aL, .inl (cI, 4, .inl L)), (aT, .inl (cI, 4, .inl T)), (aU, .inl (cI, 6, .inl U))] s.heap.size = A at hD ⊢
  have hA : ∀ q : Nat, s.heap.size ≤ q → A q := fun q h => by rw [← hAe]; exact Or.inr h
  have hS : va_S A s.heap s.heap [] := va_S.rf
  have hP : va_P (dC, dI) vwCl [(kl, .inr (1, [.ref aK, .ref aF, .ref aS, .ref aB, .int (nI n), .ref rk])), (aK, .inl (cI, 60, .inl K)), (aF, .inl (cI, 60, .inl F)), (aS, .inl (cI, 60, .inl S)), (aB, .inl (cZ, 60, .inl B)), (rk, .inr (0, [.ref aL, .ref aT, .ref aU, .int co, .int pl, .int st, .int jo, .int cn, .int ii, .int fi, .int fe])), (aL, .inl (cI, 4, .inl L)), (aT, .inl (cI, 4, .inl T)), (aU, .inl (cI, 6, .inl U))] s.heap := hP
  have hl := lv_entry ([.ref kl]) (n := 5) (Nat.le_of_ble_eq_true rfl)
  rw [lg_entry_eq]
  generalize (lg_sl ([.ref kl]) ++ List.replicate (5 - (lg_sl ([.ref kl])).length) Slot.unset).toArray = ls at hl ⊢
  have hl : lv_has ls 5 [(0, .ref kl)] := hl
  have k0 := hts (.constantLong RX1 113 (1229)) (by decide +kernel)
  have k1 := hts (.fieldLink RX1 23 "KnifeLedger" "size" "I") (by decide +kernel)
  have hinX1 : ∀ w ∈ wsX10, w ∈ wsX1_digest := by decide +kernel
  have k3 := hts (.constantLong RX1 115 (31)) (by decide +kernel)
  have k4 := hts (.fieldLink RX1 30 "KnifeLedger" "reckoning" "LKnifeLedger$Reckoning;") (by decide +kernel)
  have hinX0 : ∀ w ∈ wsX00, w ∈ wsX1_digest := by decide +kernel
  have hn6 : n ≤ 60 := hX.1
  refine lv_ldc2 (v := 1229) hx hb hown k0 dX1_digest_0 ?_
  refine lv_lstore_n (lv' := [(1, .long 1229), (0, .ref kl)]) hx hb dX1_digest_3 rfl hl (by decide) rfl (fun ls hl => ?_)
  refine lv_iconst (v := 0) hx hb dX1_digest_4 (by decide) ?_
  refine lv_istore_n (lv' := [(3, .int 0), (1, .long 1229), (0, .ref kl)]) hx hb dX1_digest_5 rfl hl (by decide) rfl (fun ls hl => ?_)
  refine (fun (KK : ∀ (nn9 : Nat) (z1 : Nat) (co2 : Int32) (pl2 : Int32) (st2 : Int32) (jo2 : Int32) (cn2 : Int32) (ii2 : Int32) (fi2 : Int32) (fe2 : Int32) (U2 : N2I) (H : Heap) (locs : List Loc) (ls : Array Slot) (hz1 : z1 ≤ 6), 6 - z1 < nn9 → va_P (dC, dI) vwCl [(kl, .inr (1, [.ref aK, .ref aF, .ref aS, .ref aB, .int (nI n), .ref rk])), (aK, .inl (cI, 60, .inl K)), (aF, .inl (cI, 60, .inl F)), (aS, .inl (cI, 60, .inl S)), (aB, .inl (cZ, 60, .inl B)), (rk, .inr (0, [.ref aL, .ref aT, .ref aU, .int co2, .int pl2, .int st2, .int jo2, .int cn2, .int ii2, .int fi2, .int fe2])), (aL, .inl (cI, 4, .inl L)), (aT, .inl (cI, 4, .inl T)), (aU, .inl (cI, 6, .inl U2))] H → va_D A [(kl, .inr (1, [.ref aK, .ref aF, .ref aS, .ref aB, .int (nI n), .ref rk])), (aK, .inl (cI, 60, .inl K)), (aF, .inl (cI, 60, .inl F)), (aS, .inl (cI, 60, .inl S)), (aB, .inl (cZ, 60, .inl B)), (rk, .inr (0, [.ref aL, .ref aT, .ref aU, .int co2, .int pl2, .int st2, .int jo2, .int cn2, .int ii2, .int fi2, .int fe2])), (aL, .inl (cI, 4, .inl L)), (aT, .inl (cI, 4, .inl T)), (aU, .inl (cI, 6, .inl U2))] → va_S A s.heap H locs → lv_has ls 5 [(1, .long (dg1 n (cRec L T K F S B n) z1)), (3, .int (nI z1)), (0, .ref kl)] → W p l e _ s m _ below meth c H locs 0 0 _ (F0 m 6 ls [])) => KK (6 - 0 + 1) 0 co pl st jo cn ii fi fe U _ _ _ (Nat.zero_le _) (by omega) hP hD hS (lv_sub hl [1, 0, 2] rfl)) ?_
  intro nn_6
  induction nn_6 with
  | zero => intro z1 co2 pl2 st2 jo2 cn2 ii2 fi2 fe2 U2 H locs ls hz1 hn9; exact absurd hn9 (Nat.not_lt_zero _)
  | succ nn_6 ih_6 =>
    intro z1 co2 pl2 st2 jo2 cn2 ii2 fi2 fe2 U2 H_1 locs ls hz1 hn_6 hP hD hS hl
    refine lv_iload_n hx hb dX1_digest_6 rfl (lv_at hl 1 rfl) ?_
    refine lv_bipush (v := 6) hx hb dX1_digest_7 (by decide) ?_
    refine lv_icmp_ge (tgt := 31) hx hb dX1_digest_9 (by decide) (fun c_9 => ?_) (fun c_9 => ?_)
    · -- 9
      have hge_z1 : 6 ≤ z1 := by rw [show (6 : Int32) = nI 6 from rfl, nI_leI (by omega) (by omega)] at c_9; omega
      obtain rfl : 6 = z1 := by omega
      refine lv_iconst (v := 0) hx hb dX1_digest_31 (by decide) ?_
      refine lv_istore_n (lv' := [(3, .int 0), (1, .long (dg1 n (cRec L T K F S B n) 6)), (0, .ref kl)]) hx hb dX1_digest_32 rfl hl (by decide) rfl (fun ls hl => ?_)
      refine (fun (KK : ∀ (nn9 : Nat) (z2 : Nat) (H : Heap) (locs : List Loc) (ls : Array Slot) (hz2 : z2 ≤ 4), 4 - z2 < nn9 → va_P (dC, dI) vwCl [(kl, .inr (1, [.ref aK, .ref aF, .ref aS, .ref aB, .int (nI n), .ref rk])), (aK, .inl (cI, 60, .inl K)), (aF, .inl (cI, 60, .inl F)), (aS, .inl (cI, 60, .inl S)), (aB, .inl (cZ, 60, .inl B)), (rk, .inr (0, [.ref aL, .ref aT, .ref aU, .int co2, .int pl2, .int st2, .int jo2, .int cn2, .int ii2, .int fi2, .int fe2])), (aL, .inl (cI, 4, .inl L)), (aT, .inl (cI, 4, .inl T)), (aU, .inl (cI, 6, .inl U2))] H → va_D A [(kl, .inr (1, [.ref aK, .ref aF, .ref aS, .ref aB, .int (nI n), .ref rk])), (aK, .inl (cI, 60, .inl K)), (aF, .inl (cI, 60, .inl F)), (aS, .inl (cI, 60, .inl S)), (aB, .inl (cZ, 60, .inl B)), (rk, .inr (0, [.ref aL, .ref aT, .ref aU, .int co2, .int pl2, .int st2, .int jo2, .int cn2, .int ii2, .int fi2, .int fe2])), (aL, .inl (cI, 4, .inl L)), (aT, .inl (cI, 4, .inl T)), (aU, .inl (cI, 6, .inl U2))] → va_S A s.heap H locs → lv_has ls 5 [(1, .long (dg2 L T (dg1 n (cRec L T K F S B n) 6) z2)), (3, .int (nI z2)), (0, .ref kl)] → W p l e _ s m _ below meth c H locs 0 0 _ (F0 m 33 ls [])) => KK (4 - 0 + 1) 0 _ _ _ (Nat.zero_le _) (by omega) hP hD hS (lv_sub hl [1, 0, 2] rfl)) ?_
      intro nn_33
      induction nn_33 with
      | zero => intro z2 H locs ls hz2 hn9; exact absurd hn9 (Nat.not_lt_zero _)
      | succ nn_33 ih_33 =>
        intro z2 H_2 locs ls hz2 hn_33 hP hD hS hl
        refine lv_iload_n hx hb dX1_digest_33 rfl (lv_at hl 1 rfl) ?_
        refine lv_iconst (v := 4) hx hb dX1_digest_34 (by decide) ?_
        refine lv_icmp_ge (tgt := 78) hx hb dX1_digest_35 (by decide) (fun c_35 => ?_) (fun c_35 => ?_)
        · -- 35
          have hge_z2 : 4 ≤ z2 := by rw [show (4 : Int32) = nI 4 from rfl, nI_leI (by omega) (by omega)] at c_35; omega
          obtain rfl : 4 = z2 := by omega
          refine lv_iconst (v := 0) hx hb dX1_digest_78 (by decide) ?_
          refine lv_istore_n (lv' := [(3, .int 0), (1, .long (dg2 L T (dg1 n (cRec L T K F S B n) 6) 4)), (0, .ref kl)]) hx hb dX1_digest_79 rfl hl (by decide) rfl (fun ls hl => ?_)
          refine (fun (KK : ∀ (nn9 : Nat) (z3 : Nat) (co3 : Int32) (pl3 : Int32) (st3 : Int32) (jo3 : Int32) (cn3 : Int32) (ii3 : Int32) (fi3 : Int32) (fe3 : Int32) (U3 : N2I) (H : Heap) (locs : List Loc) (ls : Array Slot) (hz3 : z3 ≤ n), n - z3 < nn9 → va_P (dC, dI) vwCl [(kl, .inr (1, [.ref aK, .ref aF, .ref aS, .ref aB, .int (nI n), .ref rk])), (aK, .inl (cI, 60, .inl K)), (aF, .inl (cI, 60, .inl F)), (aS, .inl (cI, 60, .inl S)), (aB, .inl (cZ, 60, .inl B)), (rk, .inr (0, [.ref aL, .ref aT, .ref aU, .int co3, .int pl3, .int st3, .int jo3, .int cn3, .int ii3, .int fi3, .int fe3])), (aL, .inl (cI, 4, .inl L)), (aT, .inl (cI, 4, .inl T)), (aU, .inl (cI, 6, .inl U3))] H → va_D A [(kl, .inr (1, [.ref aK, .ref aF, .ref aS, .ref aB, .int (nI n), .ref rk])), (aK, .inl (cI, 60, .inl K)), (aF, .inl (cI, 60, .inl F)), (aS, .inl (cI, 60, .inl S)), (aB, .inl (cZ, 60, .inl B)), (rk, .inr (0, [.ref aL, .ref aT, .ref aU, .int co3, .int pl3, .int st3, .int jo3, .int cn3, .int ii3, .int fi3, .int fe3])), (aL, .inl (cI, 4, .inl L)), (aT, .inl (cI, 4, .inl T)), (aU, .inl (cI, 6, .inl U3))] → va_S A s.heap H locs → lv_has ls 5 [(1, .long (dg3 L T K F S B (dg2 L T (dg1 n (cRec L T K F S B n) 6) 4) z3)), (3, .int (nI z3)), (0, .ref kl)] → W p l e _ s m _ below meth c H locs 0 0 _ (F0 m 80 ls [])) => KK (n - 0 + 1) 0 co2 pl2 st2 jo2 cn2 ii2 fi2 fe2 U2 _ _ _ (Nat.zero_le _) (by omega) hP hD hS (lv_sub hl [1, 0, 2] rfl)) ?_
          intro nn_80
          induction nn_80 with
          | zero => intro z3 co3 pl3 st3 jo3 cn3 ii3 fi3 fe3 U3 H locs ls hz3 hn9; exact absurd hn9 (Nat.not_lt_zero _)
          | succ nn_80 ih_80 =>
            intro z3 co3 pl3 st3 jo3 cn3 ii3 fi3 fe3 U3 H_3 locs ls hz3 hn_80 hP hD hS hl
            refine lv_iload_n hx hb dX1_digest_80 rfl (lv_at hl 1 rfl) ?_
            refine lv_aload_n hx hb dX1_digest_81 rfl (lv_at hl 2 rfl) ?_
            refine va_get (D := (dC, dI)) (ci := 1) (v := .int (nI n)) (C := RX1) (T := TX1) (N := 6) hx hb hts hinX1 hown hK hP 0 rfl rfl 4 (by decide) k1 (fun _ h9 => h9) rfl dX1_digest_82 ?_
            refine lv_icmp_ge (tgt := 140) hx hb dX1_digest_85 (by decide) (fun c_85 => ?_) (fun c_85 => ?_)
            · -- 85
              have hge_z3 : n ≤ z3 := by rw [nI_leI (by omega) (by omega)] at c_85; omega
              obtain rfl : n = z3 := by omega
              refine lv_iconst (v := 0) hx hb dX1_digest_140 (by decide) ?_
              refine lv_istore_n (lv' := [(3, .int 0), (1, .long (dg3 L T K F S B (dg2 L T (dg1 n (cRec L T K F S B n) 6) 4) n)), (0, .ref kl)]) hx hb dX1_digest_141 rfl hl (by decide) rfl (fun ls hl => ?_)
              refine (fun (KK : ∀ (nn9 : Nat) (z5 : Nat) (co5 : Int32) (pl5 : Int32) (st5 : Int32) (jo5 : Int32) (cn5 : Int32) (ii5 : Int32) (fi5 : Int32) (fe5 : Int32) (U5 : N2I) (H : Heap) (locs : List Loc) (ls : Array Slot) (hz5 : z5 ≤ 6), 6 - z5 < nn9 → va_P (dC, dI) vwCl [(kl, .inr (1, [.ref aK, .ref aF, .ref aS, .ref aB, .int (nI n), .ref rk])), (aK, .inl (cI, 60, .inl K)), (aF, .inl (cI, 60, .inl F)), (aS, .inl (cI, 60, .inl S)), (aB, .inl (cZ, 60, .inl B)), (rk, .inr (0, [.ref aL, .ref aT, .ref aU, .int co5, .int pl5, .int st5, .int jo5, .int cn5, .int ii5, .int fi5, .int fe5])), (aL, .inl (cI, 4, .inl L)), (aT, .inl (cI, 4, .inl T)), (aU, .inl (cI, 6, .inl U5))] H → va_D A [(kl, .inr (1, [.ref aK, .ref aF, .ref aS, .ref aB, .int (nI n), .ref rk])), (aK, .inl (cI, 60, .inl K)), (aF, .inl (cI, 60, .inl F)), (aS, .inl (cI, 60, .inl S)), (aB, .inl (cZ, 60, .inl B)), (rk, .inr (0, [.ref aL, .ref aT, .ref aU, .int co5, .int pl5, .int st5, .int jo5, .int cn5, .int ii5, .int fi5, .int fe5])), (aL, .inl (cI, 4, .inl L)), (aT, .inl (cI, 4, .inl T)), (aU, .inl (cI, 6, .inl U5))] → va_S A s.heap H locs → lv_has ls 5 [(1, .long (dg4 (cRec L T K F S B n) (dg3 L T K F S B (dg2 L T (dg1 n (cRec L T K F S B n) 6) 4) n) z5)), (3, .int (nI z5)), (0, .ref kl)] → W p l e _ s m _ below meth c H locs 0 0 _ (F0 m 142 ls [])) => KK (6 - 0 + 1) 0 co3 pl3 st3 jo3 cn3 ii3 fi3 fe3 U3 _ _ _ (Nat.zero_le _) (by omega) hP hD hS (lv_sub hl [1, 0, 2] rfl)) ?_
              intro nn_142
              induction nn_142 with
              | zero => intro z5 co5 pl5 st5 jo5 cn5 ii5 fi5 fe5 U5 H locs ls hz5 hn9; exact absurd hn9 (Nat.not_lt_zero _)
              | succ nn_142 ih_142 =>
                intro z5 co5 pl5 st5 jo5 cn5 ii5 fi5 fe5 U5 H_4 locs ls hz5 hn_142 hP hD hS hl
                refine lv_iload_n hx hb dX1_digest_142 rfl (lv_at hl 1 rfl) ?_
                refine lv_bipush (v := 6) hx hb dX1_digest_143 (by decide) ?_
                refine lv_icmp_ge (tgt := 171) hx hb dX1_digest_145 (by decide) (fun c_145 => ?_) (fun c_145 => ?_)
                · -- 145
                  have hge_z5 : 6 ≤ z5 := by rw [show (6 : Int32) = nI 6 from rfl, nI_leI (by omega) (by omega)] at c_145; omega
                  obtain rfl : 6 = z5 := by omega
                  refine lv_lload_n hx hb dX1_digest_171 rfl (lv_at hl 0 rfl) ?_
                  have hpost : (dg4 (cRec L T K F S B n) (dg3 L T K F S B (dg2 L T (dg1 n (cRec L T K F S B n) 6) 4) n) 6) = aDig L T K F S B n := by
                    rfl
                  have hP9 := hP.sub (ws' := [(kl, .inr (1, [.ref aK, .ref aF, .ref aS, .ref aB, .int (nI n), .ref rk])), (aK, .inl (cI, 60, .inl K)), (aF, .inl (cI, 60, .inl F)), (aS, .inl (cI, 60, .inl S)), (aB, .inl (cZ, 60, .inl B)), (rk, .inr (0, [.ref aL, .ref aT, .ref aU, .int co5, .int pl5, .int st5, .int jo5, .int cn5, .int ii5, .int fi5, .int fe5])), (aL, .inl (cI, 4, .inl L)), (aT, .inl (cI, 4, .inl T)), (aU, .inl (cI, 6, .inl U5))]) [0, 1, 2, 3, 4, 5, 6, 7, 8] rfl
                  have hD9 := hD.sub (ws' := [(kl, .inr (1, [.ref aK, .ref aF, .ref aS, .ref aB, .int (nI n), .ref rk])), (aK, .inl (cI, 60, .inl K)), (aF, .inl (cI, 60, .inl F)), (aS, .inl (cI, 60, .inl S)), (aB, .inl (cZ, 60, .inl B)), (rk, .inr (0, [.ref aL, .ref aT, .ref aU, .int co5, .int pl5, .int st5, .int jo5, .int cn5, .int ii5, .int fi5, .int fe5])), (aL, .inl (cI, 4, .inl L)), (aT, .inl (cI, 4, .inl T)), (aU, .inl (cI, 6, .inl U5))]) [0, 1, 2, 3, 4, 5, 6, 7, 8] (by decide) rfl
                  exact W.lret (v := dg4 (cRec L T K F S B n) (dg3 L T K F S B (dg2 L T (dg1 n (cRec L T K F S B n) 6) 4) n) 6) hx hb hr (fun t ht hW => ⟨⟨(dg4 (cRec L T K F S B n) (dg3 L T K F S B (dg2 L T (dg1 n (cRec L T K F S B n) 6) 4) n) 6), (co5, pl5, st5, jo5, cn5, ii5, fi5, fe5, U5), rfl, hpost, by rw [ht]; exact hP9, hD9⟩, hS.F ht⟩) hS.2.2 dX1_digest_172
                · -- 145
                  have hlt_z5 : z5 < 6 := by rw [show (6 : Int32) = nI 6 from rfl, nI_leI (by omega) (by omega)] at c_145; omega
                  refine lv_lload_n hx hb dX1_digest_148 rfl (lv_at hl 0 rfl) ?_
                  refine lv_ldc2 (v := 31) hx hb hown k3 dX1_digest_149 ?_
                  refine lv_lmul hx hb dX1_digest_152 ?_
                  refine lv_aload_n hx hb dX1_digest_153 rfl (lv_at hl 2 rfl) ?_
                  refine lv_iload_n hx hb dX1_digest_154 rfl (lv_at hl 1 rfl) ?_
                  refine lv_aload_n hx hb dX1_digest_155 rfl (lv_at hl 2 rfl) ?_
                  refine va_get (D := (dC, dI)) (ci := 1) (v := .int (nI n)) (C := RX1) (T := TX1) (N := 6) hx hb hts hinX1 hown hK hP 0 rfl rfl 4 (by decide) k1 (fun _ h9 => h9) rfl dX1_digest_156 ?_
                  have hPc := hP.sub (ws' := [(kl, .inr (1, [.ref aK, .ref aF, .ref aS, .ref aB, .int (nI n), .ref rk])), (aK, .inl (cI, 60, .inl K)), (aF, .inl (cI, 60, .inl F)), (aS, .inl (cI, 60, .inl S)), (aB, .inl (cZ, 60, .inl B)), (rk, .inr (0, [.ref aL, .ref aT, .ref aU, .int co5, .int pl5, .int st5, .int jo5, .int cn5, .int ii5, .int fi5, .int fe5])), (aL, .inl (cI, 4, .inl L)), (aT, .inl (cI, 4, .inl T)), (aU, .inl (cI, 6, .inl U5))]) [0, 1, 2, 3, 4, 5, 6, 7, 8] rfl
                  have hDc := hD.sub (ws' := [(kl, .inr (1, [.ref aK, .ref aF, .ref aS, .ref aB, .int (nI n), .ref rk])), (aK, .inl (cI, 60, .inl K)), (aF, .inl (cI, 60, .inl F)), (aS, .inl (cI, 60, .inl S)), (aB, .inl (cZ, 60, .inl B)), (rk, .inr (0, [.ref aL, .ref aT, .ref aU, .int co5, .int pl5, .int st5, .int jo5, .int cn5, .int ii5, .int fi5, .int fe5])), (aL, .inl (cI, 4, .inl L)), (aT, .inl (cI, 4, .inl T)), (aU, .inl (cI, 6, .inl U5))]) [0, 1, 2, 3, 4, 5, 6, 7, 8] (by decide) rfl
                  have hKc := hK.sub (tys' := [(cI, .int), (cZ, .boolean)]) [0, 1] rfl
                  have hFc := va_free (wc := [(kl, .inr (1, [.ref aK, .ref aF, .ref aS, .ref aB, .int (nI n), .ref rk])), (aK, .inl (cI, 60, .inl K)), (aF, .inl (cI, 60, .inl F)), (aS, .inl (cI, 60, .inl S)), (aB, .inl (cZ, 60, .inl B)), (rk, .inr (0, [.ref aL, .ref aT, .ref aU, .int co5, .int pl5, .int st5, .int jo5, .int cn5, .int ii5, .int fi5, .int fe5])), (aL, .inl (cI, 4, .inl L)), (aT, .inl (cI, 4, .inl T)), (aU, .inl (cI, 6, .inl U5))]) hD hS hA [0, 1, 2, 3, 4, 5, 6, 7, 8] rfl
                  refine va_calli (va_runV (As := [.int (nI z5), .int (nI n)]) (rest := [.long ((dg4 (cRec L T K F S B n) (dg3 L T K F S B (dg2 L T (dg1 n (cRec L T K F S B n) 6) 4) n) z5) * 31)]) ⟨hx, hb, hml, hown, hts⟩ (c_X1_trust l dC dI cI cZ kl aK aF aS aB rk aL aT aU H_4.size L T K F S B U5 n co5 pl5 st5 jo5 cn5 ii5 fi5 fe5 (nI z5) n (hX) (Nat.le_refl n) (vp_in_nI hlt_z5 (by omega)) (nI_pos (by omega)) (nI_lt (b := 6) hlt_z5 (by omega))) (cwV 2 hts gX1_digest_X1_trust rfl rfl rfl (by decide +kernel) ⟨Nat.le_of_ble_eq_true rfl, Nat.le_of_ble_eq_true rfl⟩) (pn_V hN hKc hPc hDc (ci := 1) (C := RX1) (T := TX1) (N := 6) (q0 := 0) rfl rfl) rfl rfl hl.1 rfl (lv_room (Nat.le_of_ble_eq_true rfl)) dX1_digest_159 ⟨Nat.le_of_ble_eq_true rfl, Nat.le_of_ble_eq_true rfl⟩) hS (fun q _ h => hFc q h) hFc (fun r_5 u t H_5 locs ht hvm hw hB hz1 hk1 hS => ?_)
                  obtain ⟨co1_5, pl1_5, st1_5, jo1_5, cn1_5, ii1_5, fi1_5, fe1_5, U1_5⟩ := u
                  try dsimp only at hw hB
                  have hw_5 := hw
                  replace hw_5 := hw_5.symm
                  subst hw_5
                  obtain ⟨hP1, hD1⟩ := hB
                  rw [ht] at hP1
                  obtain ⟨hP, hD⟩ := va_join (wr := []) (w1 := [(kl, .inr (1, [.ref aK, .ref aF, .ref aS, .ref aB, .int (nI n), .ref rk])), (aK, .inl (cI, 60, .inl K)), (aF, .inl (cI, 60, .inl F)), (aS, .inl (cI, 60, .inl S)), (aB, .inl (cZ, 60, .inl B)), (rk, .inr (0, [.ref aL, .ref aT, .ref aU, .int co1_5, .int pl1_5, .int st1_5, .int jo1_5, .int cn1_5, .int ii1_5, .int fi1_5, .int fe1_5])), (aL, .inl (cI, 4, .inl L)), (aT, .inl (cI, 4, .inl T)), (aU, .inl (cI, 6, .inl U1_5))]) hP hD [0, 1, 2, 3, 4, 5, 6, 7, 8] [] rfl rfl (by decide) (by decide) hk1 hFc hP1 hD1
                  have hP : va_P (dC, dI) vwCl [(kl, .inr (1, [.ref aK, .ref aF, .ref aS, .ref aB, .int (nI n), .ref rk])), (aK, .inl (cI, 60, .inl K)), (aF, .inl (cI, 60, .inl F)), (aS, .inl (cI, 60, .inl S)), (aB, .inl (cZ, 60, .inl B)), (rk, .inr (0, [.ref aL, .ref aT, .ref aU, .int co1_5, .int pl1_5, .int st1_5, .int jo1_5, .int cn1_5, .int ii1_5, .int fi1_5, .int fe1_5])), (aL, .inl (cI, 4, .inl L)), (aT, .inl (cI, 4, .inl T)), (aU, .inl (cI, 6, .inl U1_5))] H_5 := hP
                  have hD : va_D A [(kl, .inr (1, [.ref aK, .ref aF, .ref aS, .ref aB, .int (nI n), .ref rk])), (aK, .inl (cI, 60, .inl K)), (aF, .inl (cI, 60, .inl F)), (aS, .inl (cI, 60, .inl S)), (aB, .inl (cZ, 60, .inl B)), (rk, .inr (0, [.ref aL, .ref aT, .ref aU, .int co1_5, .int pl1_5, .int st1_5, .int jo1_5, .int cn1_5, .int ii1_5, .int fi1_5, .int fe1_5])), (aL, .inl (cI, 4, .inl L)), (aT, .inl (cI, 4, .inl T)), (aU, .inl (cI, 6, .inl U1_5))] := hD
                  refine lv_i2l (v := (aTrust (nI z5) (cRec L T K F S B n)).toInt64) hx hb dX1_digest_162 rfl ?_
                  refine lv_ladd hx hb dX1_digest_163 ?_
                  refine lv_lstore_n (lv' := [(1, .long (((dg4 (cRec L T K F S B n) (dg3 L T K F S B (dg2 L T (dg1 n (cRec L T K F S B n) 6) 4) n) z5) * 31) + ((aTrust (nI z5) (cRec L T K F S B n)).toInt64))), (3, .int (nI z5)), (0, .ref kl)]) hx hb dX1_digest_164 rfl hl (by decide) rfl (fun ls hl => ?_)
                  refine lv_iinc (v := nI (z5 + 1)) (lv' := [(3, .int (nI (z5 + 1))), (1, .long (((dg4 (cRec L T K F S B n) (dg3 L T K F S B (dg2 L T (dg1 n (cRec L T K F S B n) 6) 4) n) z5) * 31) + ((aTrust (nI z5) (cRec L T K F S B n)).toInt64))), (0, .ref kl)]) hx hb dX1_digest_165 hl (k := 1) rfl (nI_1 _) (by decide) rfl (fun ls hl => ?_)
                  refine lv_goto (tgt := 142) hx hb dX1_digest_168 (by decide) ?_
                  exact ih_142 (z5 + 1) co1_5 pl1_5 st1_5 jo1_5 cn1_5 ii1_5 fi1_5 fe1_5 U1_5 _ _ _ (by omega) (by omega) hP hD hS (lv_sub hl [1, 0, 2] rfl)
            · -- 85
              have hlt_z3 : z3 < n := by rw [nI_leI (by omega) (by omega)] at c_85; omega
              refine lv_iconst (v := 0) hx hb dX1_digest_88 (by decide) ?_
              refine lv_istore (lv' := [(4, .int 0), (1, .long (dg3 L T K F S B (dg2 L T (dg1 n (cRec L T K F S B n) 6) 4) z3)), (3, .int (nI z3)), (0, .ref kl)]) hx hb dX1_digest_89 hl (by decide) rfl (fun ls hl => ?_)
              refine (fun (KK : ∀ (nn9 : Nat) (z4 : Nat) (co4 : Int32) (pl4 : Int32) (st4 : Int32) (jo4 : Int32) (cn4 : Int32) (ii4 : Int32) (fi4 : Int32) (fe4 : Int32) (U4 : N2I) (H : Heap) (locs : List Loc) (ls : Array Slot) (hz4 : z4 ≤ 5), 5 - z4 < nn9 → va_P (dC, dI) vwCl [(kl, .inr (1, [.ref aK, .ref aF, .ref aS, .ref aB, .int (nI n), .ref rk])), (aK, .inl (cI, 60, .inl K)), (aF, .inl (cI, 60, .inl F)), (aS, .inl (cI, 60, .inl S)), (aB, .inl (cZ, 60, .inl B)), (rk, .inr (0, [.ref aL, .ref aT, .ref aU, .int co4, .int pl4, .int st4, .int jo4, .int cn4, .int ii4, .int fi4, .int fe4])), (aL, .inl (cI, 4, .inl L)), (aT, .inl (cI, 4, .inl T)), (aU, .inl (cI, 6, .inl U4))] H → va_D A [(kl, .inr (1, [.ref aK, .ref aF, .ref aS, .ref aB, .int (nI n), .ref rk])), (aK, .inl (cI, 60, .inl K)), (aF, .inl (cI, 60, .inl F)), (aS, .inl (cI, 60, .inl S)), (aB, .inl (cZ, 60, .inl B)), (rk, .inr (0, [.ref aL, .ref aT, .ref aU, .int co4, .int pl4, .int st4, .int jo4, .int cn4, .int ii4, .int fi4, .int fe4])), (aL, .inl (cI, 4, .inl L)), (aT, .inl (cI, 4, .inl T)), (aU, .inl (cI, 6, .inl U4))] → va_S A s.heap H locs → lv_has ls 5 [(1, .long (dg3i L T K F S B z3 (dg3 L T K F S B (dg2 L T (dg1 n (cRec L T K F S B n) 6) 4) z3) z4)), (4, .int (nI z4)), (3, .int (nI z3)), (0, .ref kl)] → W p l e _ s m _ below meth c H locs 0 0 _ (F0 m 91 ls [])) => KK (5 - 0 + 1) 0 co3 pl3 st3 jo3 cn3 ii3 fi3 fe3 U3 _ _ _ (Nat.zero_le _) (by omega) hP hD hS (lv_sub hl [1, 0, 2, 3] rfl)) ?_
              intro nn_91
              induction nn_91 with
              | zero => intro z4 co4 pl4 st4 jo4 cn4 ii4 fi4 fe4 U4 H locs ls hz4 hn9; exact absurd hn9 (Nat.not_lt_zero _)
              | succ nn_91 ih_91 =>
                intro z4 co4 pl4 st4 jo4 cn4 ii4 fi4 fe4 U4 H_6 locs ls hz4 hn_91 hP hD hS hl
                refine lv_iload hx hb dX1_digest_91 (lv_at hl 1 rfl) ?_
                refine lv_iconst (v := 5) hx hb dX1_digest_93 (by decide) ?_
                refine lv_icmp_ge (tgt := 118) hx hb dX1_digest_94 (by decide) (fun c_94 => ?_) (fun c_94 => ?_)
                · -- 94
                  have hge_z4 : 5 ≤ z4 := by rw [show (5 : Int32) = nI 5 from rfl, nI_leI (by omega) (by omega)] at c_94; omega
                  obtain rfl : 5 = z4 := by omega
                  refine lv_lload_n hx hb dX1_digest_118 rfl (lv_at hl 0 rfl) ?_
                  refine lv_ldc2 (v := 31) hx hb hown k3 dX1_digest_119 ?_
                  refine lv_lmul hx hb dX1_digest_122 ?_
                  refine lv_aload_n hx hb dX1_digest_123 rfl (lv_at hl 3 rfl) ?_
                  refine lv_iload_n hx hb dX1_digest_124 rfl (lv_at hl 2 rfl) ?_
                  refine lv_iconst (v := 1) hx hb dX1_digest_125 (by decide) ?_
                  refine lv_iadd hx hb dX1_digest_126 ?_
                  rw [nI_1 z3]
                  refine lv_iconst (v := 0) hx hb dX1_digest_127 (by decide) ?_
                  have hPc := hP.sub (ws' := [(kl, .inr (1, [.ref aK, .ref aF, .ref aS, .ref aB, .int (nI n), .ref rk])), (aK, .inl (cI, 60, .inl K)), (aF, .inl (cI, 60, .inl F)), (aS, .inl (cI, 60, .inl S)), (aB, .inl (cZ, 60, .inl B)), (rk, .inr (0, [.ref aL, .ref aT, .ref aU, .int co4, .int pl4, .int st4, .int jo4, .int cn4, .int ii4, .int fi4, .int fe4])), (aL, .inl (cI, 4, .inl L)), (aT, .inl (cI, 4, .inl T)), (aU, .inl (cI, 6, .inl U4))]) [0, 1, 2, 3, 4, 5, 6, 7, 8] rfl
                  have hDc := hD.sub (ws' := [(kl, .inr (1, [.ref aK, .ref aF, .ref aS, .ref aB, .int (nI n), .ref rk])), (aK, .inl (cI, 60, .inl K)), (aF, .inl (cI, 60, .inl F)), (aS, .inl (cI, 60, .inl S)), (aB, .inl (cZ, 60, .inl B)), (rk, .inr (0, [.ref aL, .ref aT, .ref aU, .int co4, .int pl4, .int st4, .int jo4, .int cn4, .int ii4, .int fi4, .int fe4])), (aL, .inl (cI, 4, .inl L)), (aT, .inl (cI, 4, .inl T)), (aU, .inl (cI, 6, .inl U4))]) [0, 1, 2, 3, 4, 5, 6, 7, 8] (by decide) rfl
                  have hKc := hK.sub (tys' := [(cI, .int), (cZ, .boolean)]) [0, 1] rfl
                  have hFc := va_free (wc := [(kl, .inr (1, [.ref aK, .ref aF, .ref aS, .ref aB, .int (nI n), .ref rk])), (aK, .inl (cI, 60, .inl K)), (aF, .inl (cI, 60, .inl F)), (aS, .inl (cI, 60, .inl S)), (aB, .inl (cZ, 60, .inl B)), (rk, .inr (0, [.ref aL, .ref aT, .ref aU, .int co4, .int pl4, .int st4, .int jo4, .int cn4, .int ii4, .int fi4, .int fe4])), (aL, .inl (cI, 4, .inl L)), (aT, .inl (cI, 4, .inl T)), (aU, .inl (cI, 6, .inl U4))]) hD hS hA [0, 1, 2, 3, 4, 5, 6, 7, 8] rfl
                  refine va_calli (va_runV (As := [.int (nI (z3 + 1)), .int 0]) (rest := [.long ((dg3i L T K F S B z3 (dg3 L T K F S B (dg2 L T (dg1 n (cRec L T K F S B n) 6) 4) z3) 5) * 31)]) ⟨hx, hb, hml, hown, hts⟩ (c_X1_behind l dC dI cI cZ kl aK aF aS aB rk aL aT aU H_6.size L T K F S B U4 n co4 pl4 st4 jo4 cn4 ii4 fi4 fe4 (z3 + 1) 0 (hX) (by omega) (by decide) (by decide)) (cwV 2 hts gX1_digest_X1_behind rfl rfl rfl (by decide +kernel) ⟨Nat.le_of_ble_eq_true rfl, Nat.le_of_ble_eq_true rfl⟩) (pn_V hN hKc hPc hDc (ci := 1) (C := RX1) (T := TX1) (N := 6) (q0 := 0) rfl rfl) rfl rfl hl.1 rfl (lv_room (Nat.le_of_ble_eq_true rfl)) dX1_digest_128 ⟨Nat.le_of_ble_eq_true rfl, Nat.le_of_ble_eq_true rfl⟩) hS (fun q _ h => hFc q h) hFc (fun r_7 u t H_7 locs ht hvm hw hB hz1 hk1 hS => ?_)
                  obtain ⟨co1_7, pl1_7, st1_7, jo1_7, cn1_7, ii1_7, fi1_7, fe1_7, U1_7⟩ := u
                  try dsimp only at hw hB
                  have hw_7 := hw
                  replace hw_7 := hw_7.symm
                  subst hw_7
                  obtain ⟨hP1, hD1⟩ := hB
                  rw [ht] at hP1
                  obtain ⟨hP, hD⟩ := va_join (wr := []) (w1 := [(kl, .inr (1, [.ref aK, .ref aF, .ref aS, .ref aB, .int (nI n), .ref rk])), (aK, .inl (cI, 60, .inl K)), (aF, .inl (cI, 60, .inl F)), (aS, .inl (cI, 60, .inl S)), (aB, .inl (cZ, 60, .inl B)), (rk, .inr (0, [.ref aL, .ref aT, .ref aU, .int co1_7, .int pl1_7, .int st1_7, .int jo1_7, .int cn1_7, .int ii1_7, .int fi1_7, .int fe1_7])), (aL, .inl (cI, 4, .inl L)), (aT, .inl (cI, 4, .inl T)), (aU, .inl (cI, 6, .inl U1_7))]) hP hD [0, 1, 2, 3, 4, 5, 6, 7, 8] [] rfl rfl (by decide) (by decide) hk1 hFc hP1 hD1
                  have hP : va_P (dC, dI) vwCl [(kl, .inr (1, [.ref aK, .ref aF, .ref aS, .ref aB, .int (nI n), .ref rk])), (aK, .inl (cI, 60, .inl K)), (aF, .inl (cI, 60, .inl F)), (aS, .inl (cI, 60, .inl S)), (aB, .inl (cZ, 60, .inl B)), (rk, .inr (0, [.ref aL, .ref aT, .ref aU, .int co1_7, .int pl1_7, .int st1_7, .int jo1_7, .int cn1_7, .int ii1_7, .int fi1_7, .int fe1_7])), (aL, .inl (cI, 4, .inl L)), (aT, .inl (cI, 4, .inl T)), (aU, .inl (cI, 6, .inl U1_7))] H_7 := hP
                  have hD : va_D A [(kl, .inr (1, [.ref aK, .ref aF, .ref aS, .ref aB, .int (nI n), .ref rk])), (aK, .inl (cI, 60, .inl K)), (aF, .inl (cI, 60, .inl F)), (aS, .inl (cI, 60, .inl S)), (aB, .inl (cZ, 60, .inl B)), (rk, .inr (0, [.ref aL, .ref aT, .ref aU, .int co1_7, .int pl1_7, .int st1_7, .int jo1_7, .int cn1_7, .int ii1_7, .int fi1_7, .int fe1_7])), (aL, .inl (cI, 4, .inl L)), (aT, .inl (cI, 4, .inl T)), (aU, .inl (cI, 6, .inl U1_7))] := hD
                  refine lv_i2l (v := (aBehind 0 (cRec L T K F S B (z3 + 1))).toInt64) hx hb dX1_digest_131 rfl ?_
                  refine lv_ladd hx hb dX1_digest_132 ?_
                  refine lv_lstore_n (lv' := [(1, .long (((dg3i L T K F S B z3 (dg3 L T K F S B (dg2 L T (dg1 n (cRec L T K F S B n) 6) 4) z3) 5) * 31) + ((aBehind 0 (cRec L T K F S B (z3 + 1))).toInt64))), (4, .int (nI 5)), (3, .int (nI z3)), (0, .ref kl)]) hx hb dX1_digest_133 rfl hl (by decide) rfl (fun ls hl => ?_)
                  refine lv_iinc (v := nI (z3 + 1)) (lv' := [(3, .int (nI (z3 + 1))), (1, .long (((dg3i L T K F S B z3 (dg3 L T K F S B (dg2 L T (dg1 n (cRec L T K F S B n) 6) 4) z3) 5) * 31) + ((aBehind 0 (cRec L T K F S B (z3 + 1))).toInt64))), (4, .int (nI 5)), (0, .ref kl)]) hx hb dX1_digest_134 hl (k := 2) rfl (nI_1 _) (by decide) rfl (fun ls hl => ?_)
                  refine lv_goto (tgt := 80) hx hb dX1_digest_137 (by decide) ?_
                  exact ih_80 (z3 + 1) co1_7 pl1_7 st1_7 jo1_7 cn1_7 ii1_7 fi1_7 fe1_7 U1_7 _ _ _ (by omega) (by omega) hP hD hS (lv_sub hl [1, 0, 3] rfl)
                · -- 94
                  have hlt_z4 : z4 < 5 := by rw [show (5 : Int32) = nI 5 from rfl, nI_leI (by omega) (by omega)] at c_94; omega
                  refine lv_lload_n hx hb dX1_digest_97 rfl (lv_at hl 0 rfl) ?_
                  refine lv_ldc2 (v := 31) hx hb hown k3 dX1_digest_98 ?_
                  refine lv_lmul hx hb dX1_digest_101 ?_
                  refine lv_aload_n hx hb dX1_digest_102 rfl (lv_at hl 3 rfl) ?_
                  refine lv_iload_n hx hb dX1_digest_103 rfl (lv_at hl 2 rfl) ?_
                  refine lv_iload hx hb dX1_digest_104 (lv_at hl 1 rfl) ?_
                  have hPc := hP.sub (ws' := [(kl, .inr (1, [.ref aK, .ref aF, .ref aS, .ref aB, .int (nI n), .ref rk])), (aK, .inl (cI, 60, .inl K)), (aF, .inl (cI, 60, .inl F)), (aS, .inl (cI, 60, .inl S)), (aB, .inl (cZ, 60, .inl B)), (rk, .inr (0, [.ref aL, .ref aT, .ref aU, .int co4, .int pl4, .int st4, .int jo4, .int cn4, .int ii4, .int fi4, .int fe4])), (aL, .inl (cI, 4, .inl L)), (aT, .inl (cI, 4, .inl T)), (aU, .inl (cI, 6, .inl U4))]) [0, 1, 2, 3, 4, 5, 6, 7, 8] rfl
                  have hDc := hD.sub (ws' := [(kl, .inr (1, [.ref aK, .ref aF, .ref aS, .ref aB, .int (nI n), .ref rk])), (aK, .inl (cI, 60, .inl K)), (aF, .inl (cI, 60, .inl F)), (aS, .inl (cI, 60, .inl S)), (aB, .inl (cZ, 60, .inl B)), (rk, .inr (0, [.ref aL, .ref aT, .ref aU, .int co4, .int pl4, .int st4, .int jo4, .int cn4, .int ii4, .int fi4, .int fe4])), (aL, .inl (cI, 4, .inl L)), (aT, .inl (cI, 4, .inl T)), (aU, .inl (cI, 6, .inl U4))]) [0, 1, 2, 3, 4, 5, 6, 7, 8] (by decide) rfl
                  have hKc := hK.sub (tys' := [(cI, .int), (cZ, .boolean)]) [0, 1] rfl
                  have hFc := va_free (wc := [(kl, .inr (1, [.ref aK, .ref aF, .ref aS, .ref aB, .int (nI n), .ref rk])), (aK, .inl (cI, 60, .inl K)), (aF, .inl (cI, 60, .inl F)), (aS, .inl (cI, 60, .inl S)), (aB, .inl (cZ, 60, .inl B)), (rk, .inr (0, [.ref aL, .ref aT, .ref aU, .int co4, .int pl4, .int st4, .int jo4, .int cn4, .int ii4, .int fi4, .int fe4])), (aL, .inl (cI, 4, .inl L)), (aT, .inl (cI, 4, .inl T)), (aU, .inl (cI, 6, .inl U4))]) hD hS hA [0, 1, 2, 3, 4, 5, 6, 7, 8] rfl
                  refine va_calli (va_runV (As := [.int (nI z3), .int (nI z4)]) (rest := [.long ((dg3i L T K F S B z3 (dg3 L T K F S B (dg2 L T (dg1 n (cRec L T K F S B n) 6) 4) z3) z4) * 31)]) ⟨hx, hb, hml, hown, hts⟩ (c_X1_entry l dC dI cI cZ kl aK aF aS aB rk aL aT aU H_6.size L T K F S B U4 n co4 pl4 st4 jo4 cn4 ii4 fi4 fe4 z3 (nI z4) (hX) (hlt_z3) (nI_pos (by omega)) (nI_lt (b := 5) hlt_z4 (by omega))) (cwV 2 hts gX1_digest_X1_entry rfl rfl rfl (by decide +kernel) ⟨Nat.le_of_ble_eq_true rfl, Nat.le_of_ble_eq_true rfl⟩) (pn_V hN hKc hPc hDc (ci := 1) (C := RX1) (T := TX1) (N := 6) (q0 := 0) rfl rfl) rfl rfl hl.1 rfl (lv_room (Nat.le_of_ble_eq_true rfl)) dX1_digest_106 ⟨Nat.le_of_ble_eq_true rfl, Nat.le_of_ble_eq_true rfl⟩) hS (fun q _ h => hFc q h) hFc (fun r_8 u t H_8 locs ht hvm hw hB hz1 hk1 hS => ?_)
                  obtain ⟨co1_8, pl1_8, st1_8, jo1_8, cn1_8, ii1_8, fi1_8, fe1_8, U1_8⟩ := u
                  try dsimp only at hw hB
                  have hw_8 := hw
                  replace hw_8 := hw_8.symm
                  subst hw_8
                  obtain ⟨hP1, hD1⟩ := hB
                  rw [ht] at hP1
                  obtain ⟨hP, hD⟩ := va_join (wr := []) (w1 := [(kl, .inr (1, [.ref aK, .ref aF, .ref aS, .ref aB, .int (nI n), .ref rk])), (aK, .inl (cI, 60, .inl K)), (aF, .inl (cI, 60, .inl F)), (aS, .inl (cI, 60, .inl S)), (aB, .inl (cZ, 60, .inl B)), (rk, .inr (0, [.ref aL, .ref aT, .ref aU, .int co1_8, .int pl1_8, .int st1_8, .int jo1_8, .int cn1_8, .int ii1_8, .int fi1_8, .int fe1_8])), (aL, .inl (cI, 4, .inl L)), (aT, .inl (cI, 4, .inl T)), (aU, .inl (cI, 6, .inl U1_8))]) hP hD [0, 1, 2, 3, 4, 5, 6, 7, 8] [] rfl rfl (by decide) (by decide) hk1 hFc hP1 hD1
                  have hP : va_P (dC, dI) vwCl [(kl, .inr (1, [.ref aK, .ref aF, .ref aS, .ref aB, .int (nI n), .ref rk])), (aK, .inl (cI, 60, .inl K)), (aF, .inl (cI, 60, .inl F)), (aS, .inl (cI, 60, .inl S)), (aB, .inl (cZ, 60, .inl B)), (rk, .inr (0, [.ref aL, .ref aT, .ref aU, .int co1_8, .int pl1_8, .int st1_8, .int jo1_8, .int cn1_8, .int ii1_8, .int fi1_8, .int fe1_8])), (aL, .inl (cI, 4, .inl L)), (aT, .inl (cI, 4, .inl T)), (aU, .inl (cI, 6, .inl U1_8))] H_8 := hP
                  have hD : va_D A [(kl, .inr (1, [.ref aK, .ref aF, .ref aS, .ref aB, .int (nI n), .ref rk])), (aK, .inl (cI, 60, .inl K)), (aF, .inl (cI, 60, .inl F)), (aS, .inl (cI, 60, .inl S)), (aB, .inl (cZ, 60, .inl B)), (rk, .inr (0, [.ref aL, .ref aT, .ref aU, .int co1_8, .int pl1_8, .int st1_8, .int jo1_8, .int cn1_8, .int ii1_8, .int fi1_8, .int fe1_8])), (aL, .inl (cI, 4, .inl L)), (aT, .inl (cI, 4, .inl T)), (aU, .inl (cI, 6, .inl U1_8))] := hD
                  refine lv_i2l (v := (aEnt L T K F S B z3 (nI z4)).toInt64) hx hb dX1_digest_109 rfl ?_
                  refine lv_ladd hx hb dX1_digest_110 ?_
                  refine lv_lstore_n (lv' := [(1, .long (((dg3i L T K F S B z3 (dg3 L T K F S B (dg2 L T (dg1 n (cRec L T K F S B n) 6) 4) z3) z4) * 31) + ((aEnt L T K F S B z3 (nI z4)).toInt64))), (4, .int (nI z4)), (3, .int (nI z3)), (0, .ref kl)]) hx hb dX1_digest_111 rfl hl (by decide) rfl (fun ls hl => ?_)
                  refine lv_iinc (v := nI (z4 + 1)) (lv' := [(4, .int (nI (z4 + 1))), (1, .long (((dg3i L T K F S B z3 (dg3 L T K F S B (dg2 L T (dg1 n (cRec L T K F S B n) 6) 4) z3) z4) * 31) + ((aEnt L T K F S B z3 (nI z4)).toInt64))), (3, .int (nI z3)), (0, .ref kl)]) hx hb dX1_digest_112 hl (k := 1) rfl (nI_1 _) (by decide) rfl (fun ls hl => ?_)
                  refine lv_goto (tgt := 91) hx hb dX1_digest_115 (by decide) ?_
                  exact ih_91 (z4 + 1) co1_8 pl1_8 st1_8 jo1_8 cn1_8 ii1_8 fi1_8 fe1_8 U1_8 _ _ _ (by omega) (by omega) hP hD hS (lv_sub hl [1, 0, 2, 3] rfl)
        · -- 35
          have hlt_z2 : z2 < 4 := by rw [show (4 : Int32) = nI 4 from rfl, nI_leI (by omega) (by omega)] at c_35; omega
          refine lv_lload_n hx hb dX1_digest_38 rfl (lv_at hl 0 rfl) ?_
          refine lv_ldc2 (v := 31) hx hb hown k3 dX1_digest_39 ?_
          refine lv_lmul hx hb dX1_digest_42 ?_
          refine lv_aload_n hx hb dX1_digest_43 rfl (lv_at hl 2 rfl) ?_
          refine va_get (D := (dC, dI)) (ci := 1) (v := .ref rk) (C := RX1) (T := TX1) (N := 6) hx hb hts hinX1 hown hK hP 0 rfl rfl 5 (by decide) k4 (fun _ h9 => h9) rfl dX1_digest_44 ?_
          refine va_getN (D := (dC, dI)) (ci := 0) (v := .ref aL) (C := RX0) (T := TX0) (N := 11) hx hb hts hinX0 hown hK hP 5 rfl rfl 0 (by decide) (nw_use hN (by decide +kernel) : (Cond.fieldLinkNest RX1 42 "KnifeLedger$Reckoning" "lights" "[I" "KnifeLedger").before _ _ = true) (fun _ h9 => h9) rfl dX1_digest_47 ?_
          refine lv_iload_n hx hb dX1_digest_50 rfl (lv_at hl 1 rfl) ?_
          refine va_iald hx hb hK hP 6 0 rfl rfl (vp_in_nI (by omega) (by omega)) dX1_digest_51 ?_
          rw [nI_clamp (n := z2) (by omega)]
          refine lv_i2l (v := (L z2).toInt64) hx hb dX1_digest_52 rfl ?_
          refine lv_ladd hx hb dX1_digest_53 ?_
          refine lv_lstore_n (lv' := [(1, .long (((dg2 L T (dg1 n (cRec L T K F S B n) 6) z2) * 31) + ((L z2).toInt64))), (3, .int (nI z2)), (0, .ref kl)]) hx hb dX1_digest_54 rfl hl (by decide) rfl (fun ls hl => ?_)
          refine lv_lload_n hx hb dX1_digest_55 rfl (lv_at hl 0 rfl) ?_
          refine lv_ldc2 (v := 31) hx hb hown k3 dX1_digest_56 ?_
          refine lv_lmul hx hb dX1_digest_59 ?_
          refine lv_aload_n hx hb dX1_digest_60 rfl (lv_at hl 2 rfl) ?_
          refine va_get (D := (dC, dI)) (ci := 1) (v := .ref rk) (C := RX1) (T := TX1) (N := 6) hx hb hts hinX1 hown hK hP 0 rfl rfl 5 (by decide) k4 (fun _ h9 => h9) rfl dX1_digest_61 ?_
          refine va_getN (D := (dC, dI)) (ci := 0) (v := .ref aT) (C := RX0) (T := TX0) (N := 11) hx hb hts hinX0 hown hK hP 5 rfl rfl 1 (by decide) (nw_use hN (by decide +kernel) : (Cond.fieldLinkNest RX1 45 "KnifeLedger$Reckoning" "trembles" "[I" "KnifeLedger").before _ _ = true) (fun _ h9 => h9) rfl dX1_digest_64 ?_
          refine lv_iload_n hx hb dX1_digest_67 rfl (lv_at hl 1 rfl) ?_
          refine va_iald hx hb hK hP 7 0 rfl rfl (vp_in_nI (by omega) (by omega)) dX1_digest_68 ?_
          rw [nI_clamp (n := z2) (by omega)]
          refine lv_i2l (v := (T z2).toInt64) hx hb dX1_digest_69 rfl ?_
          refine lv_ladd hx hb dX1_digest_70 ?_
          refine lv_lstore_n (lv' := [(1, .long (((((dg2 L T (dg1 n (cRec L T K F S B n) 6) z2) * 31) + ((L z2).toInt64)) * 31) + ((T z2).toInt64))), (3, .int (nI z2)), (0, .ref kl)]) hx hb dX1_digest_71 rfl hl (by decide) rfl (fun ls hl => ?_)
          refine lv_iinc (v := nI (z2 + 1)) (lv' := [(3, .int (nI (z2 + 1))), (1, .long (((((dg2 L T (dg1 n (cRec L T K F S B n) 6) z2) * 31) + ((L z2).toInt64)) * 31) + ((T z2).toInt64))), (0, .ref kl)]) hx hb dX1_digest_72 hl (k := 1) rfl (nI_1 _) (by decide) rfl (fun ls hl => ?_)
          refine lv_goto (tgt := 33) hx hb dX1_digest_75 (by decide) ?_
          exact ih_33 (z2 + 1) _ _ _ (by omega) (by omega) hP hD hS (lv_sub hl [1, 0, 2] rfl)
    · -- 9
      have hlt_z1 : z1 < 6 := by rw [show (6 : Int32) = nI 6 from rfl, nI_leI (by omega) (by omega)] at c_9; omega
      refine lv_lload_n hx hb dX1_digest_12 rfl (lv_at hl 0 rfl) ?_
      refine lv_ldc2 (v := 31) hx hb hown k3 dX1_digest_13 ?_
      refine lv_lmul hx hb dX1_digest_16 ?_
      refine lv_aload_n hx hb dX1_digest_17 rfl (lv_at hl 2 rfl) ?_
      refine lv_iload_n hx hb dX1_digest_18 rfl (lv_at hl 1 rfl) ?_
      have hPc := hP.sub (ws' := [(kl, .inr (1, [.ref aK, .ref aF, .ref aS, .ref aB, .int (nI n), .ref rk])), (aK, .inl (cI, 60, .inl K)), (aF, .inl (cI, 60, .inl F)), (aS, .inl (cI, 60, .inl S)), (aB, .inl (cZ, 60, .inl B)), (rk, .inr (0, [.ref aL, .ref aT, .ref aU, .int co2, .int pl2, .int st2, .int jo2, .int cn2, .int ii2, .int fi2, .int fe2])), (aL, .inl (cI, 4, .inl L)), (aT, .inl (cI, 4, .inl T)), (aU, .inl (cI, 6, .inl U2))]) [0, 1, 2, 3, 4, 5, 6, 7, 8] rfl
      have hDc := hD.sub (ws' := [(kl, .inr (1, [.ref aK, .ref aF, .ref aS, .ref aB, .int (nI n), .ref rk])), (aK, .inl (cI, 60, .inl K)), (aF, .inl (cI, 60, .inl F)), (aS, .inl (cI, 60, .inl S)), (aB, .inl (cZ, 60, .inl B)), (rk, .inr (0, [.ref aL, .ref aT, .ref aU, .int co2, .int pl2, .int st2, .int jo2, .int cn2, .int ii2, .int fi2, .int fe2])), (aL, .inl (cI, 4, .inl L)), (aT, .inl (cI, 4, .inl T)), (aU, .inl (cI, 6, .inl U2))]) [0, 1, 2, 3, 4, 5, 6, 7, 8] (by decide) rfl
      have hKc := hK.sub (tys' := [(cI, .int), (cZ, .boolean)]) [0, 1] rfl
      have hFc := va_free (wc := [(kl, .inr (1, [.ref aK, .ref aF, .ref aS, .ref aB, .int (nI n), .ref rk])), (aK, .inl (cI, 60, .inl K)), (aF, .inl (cI, 60, .inl F)), (aS, .inl (cI, 60, .inl S)), (aB, .inl (cZ, 60, .inl B)), (rk, .inr (0, [.ref aL, .ref aT, .ref aU, .int co2, .int pl2, .int st2, .int jo2, .int cn2, .int ii2, .int fi2, .int fe2])), (aL, .inl (cI, 4, .inl L)), (aT, .inl (cI, 4, .inl T)), (aU, .inl (cI, 6, .inl U2))]) hD hS hA [0, 1, 2, 3, 4, 5, 6, 7, 8] rfl
      refine va_calli (va_runV (As := [.int (nI z1)]) (rest := [.long ((dg1 n (cRec L T K F S B n) z1) * 31)]) ⟨hx, hb, hml, hown, hts⟩ (c_X1_count l dC dI cI cZ kl aK aF aS aB rk aL aT aU H_1.size L T K F S B U2 n co2 pl2 st2 jo2 cn2 ii2 fi2 fe2 (nI z1) (hX) (nI_pos (by omega)) (nI_lt (b := 6) hlt_z1 (by omega))) (cwV 1 hts gX1_digest_X1_count rfl rfl rfl (by decide +kernel) ⟨Nat.le_of_ble_eq_true rfl, Nat.le_of_ble_eq_true rfl⟩) (pn_V hN hKc hPc hDc (ci := 1) (C := RX1) (T := TX1) (N := 6) (q0 := 0) rfl rfl) rfl rfl hl.1 rfl (lv_room (Nat.le_of_ble_eq_true rfl)) dX1_digest_19 ⟨Nat.le_of_ble_eq_true rfl, Nat.le_of_ble_eq_true rfl⟩) hS (fun q _ h => hFc q h) hFc (fun r_9 u t H_9 locs ht hvm hw hB hz1 hk1 hS => ?_)
      obtain ⟨co1_9, pl1_9, st1_9, jo1_9, cn1_9, ii1_9, fi1_9, fe1_9, U1_9⟩ := u
      try dsimp only at hw hB
      have hw_9 := hw
      replace hw_9 := hw_9.symm
      subst hw_9
      obtain ⟨hP1, hD1⟩ := hB
      rw [ht] at hP1
      obtain ⟨hP, hD⟩ := va_join (wr := []) (w1 := [(kl, .inr (1, [.ref aK, .ref aF, .ref aS, .ref aB, .int (nI n), .ref rk])), (aK, .inl (cI, 60, .inl K)), (aF, .inl (cI, 60, .inl F)), (aS, .inl (cI, 60, .inl S)), (aB, .inl (cZ, 60, .inl B)), (rk, .inr (0, [.ref aL, .ref aT, .ref aU, .int co1_9, .int pl1_9, .int st1_9, .int jo1_9, .int cn1_9, .int ii1_9, .int fi1_9, .int fe1_9])), (aL, .inl (cI, 4, .inl L)), (aT, .inl (cI, 4, .inl T)), (aU, .inl (cI, 6, .inl U1_9))]) hP hD [0, 1, 2, 3, 4, 5, 6, 7, 8] [] rfl rfl (by decide) (by decide) hk1 hFc hP1 hD1
      have hP : va_P (dC, dI) vwCl [(kl, .inr (1, [.ref aK, .ref aF, .ref aS, .ref aB, .int (nI n), .ref rk])), (aK, .inl (cI, 60, .inl K)), (aF, .inl (cI, 60, .inl F)), (aS, .inl (cI, 60, .inl S)), (aB, .inl (cZ, 60, .inl B)), (rk, .inr (0, [.ref aL, .ref aT, .ref aU, .int co1_9, .int pl1_9, .int st1_9, .int jo1_9, .int cn1_9, .int ii1_9, .int fi1_9, .int fe1_9])), (aL, .inl (cI, 4, .inl L)), (aT, .inl (cI, 4, .inl T)), (aU, .inl (cI, 6, .inl U1_9))] H_9 := hP
      have hD : va_D A [(kl, .inr (1, [.ref aK, .ref aF, .ref aS, .ref aB, .int (nI n), .ref rk])), (aK, .inl (cI, 60, .inl K)), (aF, .inl (cI, 60, .inl F)), (aS, .inl (cI, 60, .inl S)), (aB, .inl (cZ, 60, .inl B)), (rk, .inr (0, [.ref aL, .ref aT, .ref aU, .int co1_9, .int pl1_9, .int st1_9, .int jo1_9, .int cn1_9, .int ii1_9, .int fi1_9, .int fe1_9])), (aL, .inl (cI, 4, .inl L)), (aT, .inl (cI, 4, .inl T)), (aU, .inl (cI, 6, .inl U1_9))] := hD
      refine lv_i2l (v := (aCount n (nI z1) (cRec L T K F S B n)).toInt64) hx hb dX1_digest_22 rfl ?_
      refine lv_ladd hx hb dX1_digest_23 ?_
      refine lv_lstore_n (lv' := [(1, .long (((dg1 n (cRec L T K F S B n) z1) * 31) + ((aCount n (nI z1) (cRec L T K F S B n)).toInt64))), (3, .int (nI z1)), (0, .ref kl)]) hx hb dX1_digest_24 rfl hl (by decide) rfl (fun ls hl => ?_)
      refine lv_iinc (v := nI (z1 + 1)) (lv' := [(3, .int (nI (z1 + 1))), (1, .long (((dg1 n (cRec L T K F S B n) z1) * 31) + ((aCount n (nI z1) (cRec L T K F S B n)).toInt64))), (0, .ref kl)]) hx hb dX1_digest_25 hl (k := 1) rfl (nI_1 _) (by decide) rfl (fun ls hl => ?_)
      refine lv_goto (tgt := 6) hx hb dX1_digest_28 (by decide) ?_
      exact ih_6 (z1 + 1) co1_9 pl1_9 st1_9 jo1_9 cn1_9 ii1_9 fi1_9 fe1_9 U1_9 _ _ _ (by omega) (by omega) hP hD hS (lv_sub hl [1, 0, 2] rfl)
