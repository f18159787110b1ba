theorem sw_out19 {k : Int32} (h0 : ¬ k = 0) (h1 : ¬ k = 1) (h2 : ¬ k = 2) (h3 : ¬ k = 3) (h4 : ¬ k = 4) (h5 : ¬ k = 5) (h6 : ¬ k = 6) (h7 : ¬ k = 7) (h8 : ¬ k = 8) (h9 : ¬ k = 9) (h10 : ¬ k = 10) (h11 : ¬ k = 11) (h12 : ¬ k = 12) (h13 : ¬ k = 13) (h14 : ¬ k = 14) (h15 : ¬ k = 15) (h16 : ¬ k = 16) (h17 : ¬ k = 17) (h18 : ¬ k = 18) : k.toInt < 0 ∨ 18 < k.toInt := by
  by_cases h : k.toInt < 0 ∨ 18 < k.toInt
  · exact h
  · exfalso
    have e : k.toInt = 0 ∨ k.toInt = 1 ∨ k.toInt = 2 ∨ k.toInt = 3 ∨ k.toInt = 4 ∨ k.toInt = 5 ∨ k.toInt = 6 ∨ k.toInt = 7 ∨ k.toInt = 8 ∨ k.toInt = 9 ∨ k.toInt = 10 ∨ k.toInt = 11 ∨ k.toInt = 12 ∨ k.toInt = 13 ∨ k.toInt = 14 ∨ k.toInt = 15 ∨ k.toInt = 16 ∨ k.toInt = 17 ∨ k.toInt = 18 := by omega
    rcases e with e | e | e | e | e | e | e | e | e | e | e | e | e | e | e | e | e | e | e
    · exact h0 (Int32.toInt_inj.mp e)
    · exact h1 (Int32.toInt_inj.mp e)
    · exact h2 (Int32.toInt_inj.mp e)
    · exact h3 (Int32.toInt_inj.mp e)
    · exact h4 (Int32.toInt_inj.mp e)
    · exact h5 (Int32.toInt_inj.mp e)
    · exact h6 (Int32.toInt_inj.mp e)
    · exact h7 (Int32.toInt_inj.mp e)
    · exact h8 (Int32.toInt_inj.mp e)
    · exact h9 (Int32.toInt_inj.mp e)
    · exact h10 (Int32.toInt_inj.mp e)
    · exact h11 (Int32.toInt_inj.mp e)
    · exact h12 (Int32.toInt_inj.mp e)
    · exact h13 (Int32.toInt_inj.mp e)
    · exact h14 (Int32.toInt_inj.mp e)
    · exact h15 (Int32.toInt_inj.mp e)
    · exact h16 (Int32.toInt_inj.mp e)
    · exact h17 (Int32.toInt_inj.mp e)
    · exact h18 (Int32.toInt_inj.mp e)
theorem script_more {LL i : Nat} (h : ¬ nI LL - 4 < nI i) (hL : LL < 2 ^ 20) (hi : i < 2 ^ 20) : i + 4 ≤ LL := by
  rw [Int32.lt_iff_toInt_lt, nI_toInt (n := i) (by omega)] at h
  have e : (nI LL - 4).toInt = (LL : Int) - 4 := pk_sub_toInt (a := LL) (b := 4) (by omega) (by omega)
  rw [e] at h
  omega
set_option maxHeartbeats 4000000 in
set_option maxRecDepth 100000 in
theorem law_loop {p : Program} {l : Launch} (hfl : l.stackTraces = false) {e : Env} {s : State} {m : MethodId} {below : List Frame} {meth : Method} {c : Code} {dC : Nat → ClassId} {dI : Nat → Nat → Nat} {b LL : Nat} {xs : Nat → Int32} {a1 a2 a3 a4 : Nat} (hLL : LL ≤ 2048) (C0 : lw_At p s m meth c b LL xs) (hE : nw_ s ∧ zz_ (fun q : Nat => s.heap.size ≤ q) s s.heap ∧ str_ a1 a2 a3 a4 s ∧ bw_ s ∧ nc_ s) {cI cZ cJ : ClassId} {kl aK aF aS aB rk aL aT aU mo bK bF bS bB bL bT bU ou : Nat} (hK : va_K (dC, dI) vwCl [(cI, .int), (cZ, .boolean), (cJ, .long)] s) : ∀ (nn9 kk : Nat) (L : N2I) (T : N2I) (K : N2I) (F : N2I) (S : N2I) (B : N2I) (U : N2I) (n : Nat) (co : Int32) (pl : Int32) (st : Int32) (jo : Int32) (cn : Int32) (ii : Int32) (fi : Int32) (fe : Int32) (o : Nat → Int64) (tw : Int32) (cm : Int32) (pm : Int32) (sm : Int32) (jm : Int32) (nm : Int32) (im : Int32) (fm : Int32) (em : Int32) (V : N2I) (H : Heap) (locs : List Loc) (ls : Array Slot), 4 * kk ≤ LL → 513 - kk < nn9 → okX K F S B n → va_P (dC, dI) vwCl [(kl, .inr (1, [.ref aK, .ref aF, .ref aS, .ref aB, .int (nI n), .ref rk])), (aK, .inl (cI, 60, .inl K)), (aF, .inl (cI, 60, .inl F)), (aS, .inl (cI, 60, .inl S)), (aB, .inl (cZ, 60, .inl B)), (rk, .inr (0, [.ref aL, .ref aT, .ref aU, .int co, .int pl, .int st, .int jo, .int cn, .int ii, .int fi, .int fe])), (aL, .inl (cI, 4, .inl L)), (aT, .inl (cI, 4, .inl T)), (aU, .inl (cI, 6, .inl U)), (mo, .inr (2, [.int tw, .ref bL, .ref bT, .int (nI n), .ref bK, .ref bF, .ref bS, .ref bB, .int cm, .int pm, .int sm, .int jm, .int nm, .int im, .int fm, .int em, .ref bU])), (bK, .inl (cI, 60, .inl K)), (bF, .inl (cI, 60, .inl F)), (bS, .inl (cI, 60, .inl S)), (bB, .inl (cZ, 60, .inl B)), (bL, .inl (cI, 4, .inl L)), (bT, .inl (cI, 4, .inl T)), (bU, .inl (cI, 6, .inl V)), (ou, .inl (cJ, 1, .inr (.inl o)))] H → va_D (fun q : Nat => s.heap.size ≤ q) [(kl, .inr (1, [.ref aK, .ref aF, .ref aS, .ref aB, .int (nI n), .ref rk])), (aK, .inl (cI, 60, .inl K)), (aF, .inl (cI, 60, .inl F)), (aS, .inl (cI, 60, .inl S)), (aB, .inl (cZ, 60, .inl B)), (rk, .inr (0, [.ref aL, .ref aT, .ref aU, .int co, .int pl, .int st, .int jo, .int cn, .int ii, .int fi, .int fe])), (aL, .inl (cI, 4, .inl L)), (aT, .inl (cI, 4, .inl T)), (aU, .inl (cI, 6, .inl U)), (mo, .inr (2, [.int tw, .ref bL, .ref bT, .int (nI n), .ref bK, .ref bF, .ref bS, .ref bB, .int cm, .int pm, .int sm, .int jm, .int nm, .int im, .int fm, .int em, .ref bU])), (bK, .inl (cI, 60, .inl K)), (bF, .inl (cI, 60, .inl F)), (bS, .inl (cI, 60, .inl S)), (bB, .inl (cZ, 60, .inl B)), (bL, .inl (cI, 4, .inl L)), (bT, .inl (cI, 4, .inl T)), (bU, .inl (cI, 6, .inl V)), (ou, .inl (cJ, 1, .inr (.inl o)))] → va_S (fun q : Nat => s.heap.size ≤ q) s.heap H locs → lv_has ls 9 [(0, .ref b), (1, .ref kl), (2, .ref mo), (3, .ref ou), (4, .int (nI (4 * kk)))] → W p l e room_1 s m #[Value.ref b] below meth c H locs ((18 + 2 * kk)) ((545 + 13 * kk)) (lw_Z below #[Value.ref b] s) (F0 m 23 ls []) := by
  obtain ⟨hx, hb, hr, hml, hown, hts0, hXs, hbl, hlocks, hgv⟩ := id C0
  obtain ⟨hN, hZ, hT, hW9, hC⟩ := id hE
  have hown : s.vm.findClass RL = some m.cls := hown
  have hts := fun w h => hts0 w (wsL_law_in w h)
  have hA : ∀ q : Nat, s.heap.size ≤ q → (fun q : Nat => s.heap.size ≤ q) q := fun _ h => h
  have hbA : ¬ (fun q : Nat => s.heap.size ≤ q) b := Nat.not_le.mpr hbl
  intro nn9
  induction nn9 with
  | zero => intro kk L T K F S B U n co pl st jo cn ii fi fe o tw cm pm sm jm nm im fm em V H locs ls h1 h2; exact absurd h2 (Nat.not_lt_zero _)
  | succ nn9 ih =>
    intro kk L T K F S B U n co pl st jo cn ii fi fe o tw cm pm sm jm nm im fm em V H locs ls hk9 hn9 hX hP hD hS hl
    refine lv_iload hx hb dL_law_23 (lv_at hl 4 rfl) ?_
    refine lv_aload_n hx hb dL_law_25 rfl (lv_at hl 0 rfl) ?_
    refine va_slen hx hb hXs hbl hbA hS dL_law_26 ?_
    refine lv_iconst (v := 4) hx hb dL_law_27 (by decide) ?_
    refine lv_isub hx hb dL_law_28 ?_
    refine lv_icmp_gt (tgt := 1201) hx hb dL_law_29 (by decide) (fun c_29 => ?_) (fun c_29 => ?_)
    · refine lv_iconst (v := 1) hx hb dL_law_1201 (by decide) ?_
      refine va_forget (fun q hq => hS.2.2 q hq) ?_
      refine W.widen (k := 601024) (n := 7293034) (by omega) (by omega) ?_
      refine W.base ?_
      exact lw_ret (Drawn.sameBut.refl s.drawn lw_cs) hx hb hr hlocks dL_law_1202
    · have hlt : 4 * kk + 4 ≤ LL := script_more c_29 (by omega) (by omega)
      refine lv_aload_n hx hb dL_law_32 rfl (lv_at hl 0 rfl) ?_
      refine lv_iload hx hb dL_law_33 (lv_at hl 4 rfl) ?_
      refine va_sld hx hb hXs hbl hbA hS (vp_in_nI (by omega) (by omega)) dL_law_35 ?_
      refine lv_bipush (v := 31) hx hb dL_law_36 (by decide) ?_
      refine lv_iand hx hb dL_law_38 ?_
      refine lv_topi (fun x ex => ?_)
      have hk : ∀ (L : N2I) (T : N2I) (K : N2I) (F : N2I) (S : N2I) (B : N2I) (U : N2I) (n : Nat) (co : Int32) (pl : Int32) (st : Int32) (jo : Int32) (cn : Int32) (ii : Int32) (fi : Int32) (fe : Int32) (o : Nat → Int64) (tw : Int32) (cm : Int32) (pm : Int32) (sm : Int32) (jm : Int32) (nm : Int32) (im : Int32) (fm : Int32) (em : Int32) (V : N2I) (H : Heap) (locs : List Loc) (ls : Array Slot), okX K F S B n → va_P (dC, dI) vwCl [(kl, .inr (1, [.ref aK, .ref aF, .ref aS, .ref aB, .int (nI n), .ref rk])), (aK, .inl (cI, 60, .inl K)), (aF, .inl (cI, 60, .inl F)), (aS, .inl (cI, 60, .inl S)), (aB, .inl (cZ, 60, .inl B)), (rk, .inr (0, [.ref aL, .ref aT, .ref aU, .int co, .int pl, .int st, .int jo, .int cn, .int ii, .int fi, .int fe])), (aL, .inl (cI, 4, .inl L)), (aT, .inl (cI, 4, .inl T)), (aU, .inl (cI, 6, .inl U)), (mo, .inr (2, [.int tw, .ref bL, .ref bT, .int (nI n), .ref bK, .ref bF, .ref bS, .ref bB, .int cm, .int pm, .int sm, .int jm, .int nm, .int im, .int fm, .int em, .ref bU])), (bK, .inl (cI, 60, .inl K)), (bF, .inl (cI, 60, .inl F)), (bS, .inl (cI, 60, .inl S)), (bB, .inl (cZ, 60, .inl B)), (bL, .inl (cI, 4, .inl L)), (bT, .inl (cI, 4, .inl T)), (bU, .inl (cI, 6, .inl V)), (ou, .inl (cJ, 1, .inr (.inl o)))] H → va_D (fun q : Nat => s.heap.size ≤ q) [(kl, .inr (1, [.ref aK, .ref aF, .ref aS, .ref aB, .int (nI n), .ref rk])), (aK, .inl (cI, 60, .inl K)), (aF, .inl (cI, 60, .inl F)), (aS, .inl (cI, 60, .inl S)), (aB, .inl (cZ, 60, .inl B)), (rk, .inr (0, [.ref aL, .ref aT, .ref aU, .int co, .int pl, .int st, .int jo, .int cn, .int ii, .int fi, .int fe])), (aL, .inl (cI, 4, .inl L)), (aT, .inl (cI, 4, .inl T)), (aU, .inl (cI, 6, .inl U)), (mo, .inr (2, [.int tw, .ref bL, .ref bT, .int (nI n), .ref bK, .ref bF, .ref bS, .ref bB, .int cm, .int pm, .int sm, .int jm, .int nm, .int im, .int fm, .int em, .ref bU])), (bK, .inl (cI, 60, .inl K)), (bF, .inl (cI, 60, .inl F)), (bS, .inl (cI, 60, .inl S)), (bB, .inl (cZ, 60, .inl B)), (bL, .inl (cI, 4, .inl L)), (bT, .inl (cI, 4, .inl T)), (bU, .inl (cI, 6, .inl V)), (ou, .inl (cJ, 1, .inr (.inl o)))] → va_S (fun q : Nat => s.heap.size ≤ q) s.heap H locs → lv_has ls 9 [(0, .ref b), (1, .ref kl), (2, .ref mo), (3, .ref ou), (4, .int (nI (4 * kk)))] → W p l e room_1 s m #[Value.ref b] below meth c H locs ((18 + 2 * kk) + 2) ((545 + 13 * kk) + 13) (lw_Z below #[Value.ref b] s) (F0 m 1195 ls []) := by
        intro L T K F S B U n co pl st jo cn ii fi fe o tw cm pm sm jm nm im fm em V H locs ls hX hP hD hS hl
        refine lv_iinc (v := nI (4 * (kk + 1))) (lv' := [(4, .int (nI (4 * (kk + 1)))), (0, .ref b), (1, .ref kl), (2, .ref mo), (3, .ref ou)]) hx hb dL_law_1195 hl (k := 4) rfl (nI_add (4 * kk) 4) (by decide) rfl (fun ls hl => ?_)
        refine lv_goto (tgt := 23) hx hb dL_law_1198 (by decide) ?_
        refine W.widen (k := 18 + 2 * (kk + 1)) (n := 545 + 13 * (kk + 1)) (by omega) (by omega) ?_
        exact ih (kk + 1) L T K F S B U n co pl st jo cn ii fi fe o tw cm pm sm jm nm im fm em V _ _ _ (by omega) (by omega) hX hP hD hS (lv_sub hl [1, 2, 3, 4, 0] rfl)
      by_cases h0 : x = 0
      · refine lv_tableIn (off := 89) (tgt := 128) hx hb dL_law_39 (by rw [h0]; decide) (by rw [h0]; decide) (by rw [h0]; rfl) (by decide) ?_
        exact k_set hfl hLL C0 hE hK (i := 4 * kk) hlt (by omega) (by omega) hX hP hD hS hl hk
      by_cases h1 : x = 1
      · refine lv_tableIn (off := 169) (tgt := 208) hx hb dL_law_39 (by rw [h1]; decide) (by rw [h1]; decide) (by rw [h1]; rfl) (by decide) ?_
        exact k_join hfl hLL C0 hE hK (i := 4 * kk) hlt (by omega) (by omega) hX hP hD hS hl hk
      by_cases h2 : x = 2
      · refine lv_tableIn (off := 225) (tgt := 264) hx hb dL_law_39 (by rw [h2]; decide) (by rw [h2]; decide) (by rw [h2]; rfl) (by decide) ?_
        exact k_toss hfl hLL C0 hE hK (i := 4 * kk) hlt (by omega) (by omega) hX hP hD hS hl hk
      by_cases h3 : x = 3
      · refine lv_tableIn (off := 293) (tgt := 332) hx hb dL_law_39 (by rw [h3]; decide) (by rw [h3]; decide) (by rw [h3]; rfl) (by decide) ?_
        exact k_rest hfl hLL C0 hE hK (i := 4 * kk) hlt (by omega) (by omega) hX hP hD hS hl hk
      by_cases h4 : x = 4
      · refine lv_tableIn (off := 349) (tgt := 388) hx hb dL_law_39 (by rw [h4]; decide) (by rw [h4]; decide) (by rw [h4]; rfl) (by decide) ?_
        exact k_go hfl hLL C0 hE hK (i := 4 * kk) hlt (by omega) (by omega) hX hP hD hS hl hk
      by_cases h5 : x = 5
      · refine lv_tableIn (off := 405) (tgt := 444) hx hb dL_law_39 (by rw [h5]; decide) (by rw [h5]; decide) (by rw [h5]; rfl) (by decide) ?_
        exact k_pay hfl hLL C0 hE hK (i := 4 * kk) hlt (by omega) (by omega) hX hP hD hS hl hk
      by_cases h6 : x = 6
      · refine lv_tableIn (off := 473) (tgt := 512) hx hb dL_law_39 (by rw [h6]; decide) (by rw [h6]; decide) (by rw [h6]; rfl) (by decide) ?_
        exact k_buy hfl hLL C0 hE hK (i := 4 * kk) hlt (by omega) (by omega) hX hP hD hS hl hk
      by_cases h7 : x = 7
      · refine lv_tableIn (off := 529) (tgt := 568) hx hb dL_law_39 (by rw [h7]; decide) (by rw [h7]; decide) (by rw [h7]; rfl) (by decide) ?_
        exact k_strike hfl hLL C0 hE hK (i := 4 * kk) hlt (by omega) (by omega) hX hP hD hS hl hk
      by_cases h8 : x = 8
      · refine lv_tableIn (off := 592) (tgt := 631) hx hb dL_law_39 (by rw [h8]; decide) (by rw [h8]; decide) (by rw [h8]; rfl) (by decide) ?_
        exact k_shift hfl hLL C0 hE hK (i := 4 * kk) hlt (by omega) (by omega) hX hP hD hS hl hk
      by_cases h9 : x = 9
      · refine lv_tableIn (off := 660) (tgt := 699) hx hb dL_law_39 (by rw [h9]; decide) (by rw [h9]; decide) (by rw [h9]; rfl) (by decide) ?_
        exact k_tear hfl hLL C0 hE hK (i := 4 * kk) hlt (by omega) (by omega) hX hP hD hS hl hk
      by_cases h10 : x = 10
      · refine lv_tableIn (off := 704) (tgt := 743) hx hb dL_law_39 (by rw [h10]; decide) (by rw [h10]; decide) (by rw [h10]; rfl) (by decide) ?_
        exact k_entry hfl hLL C0 hE hK (i := 4 * kk) hlt (by omega) (by omega) hX hP hD hS hl hk
      by_cases h11 : x = 11
      · refine lv_tableIn (off := 772) (tgt := 811) hx hb dL_law_39 (by rw [h11]; decide) (by rw [h11]; decide) (by rw [h11]; rfl) (by decide) ?_
        exact k_behind hfl hLL C0 hE hK (i := 4 * kk) hlt (by omega) (by omega) hX hP hD hS hl hk
      by_cases h12 : x = 12
      · refine lv_tableIn (off := 840) (tgt := 879) hx hb dL_law_39 (by rw [h12]; decide) (by rw [h12]; decide) (by rw [h12]; rfl) (by decide) ?_
        exact k_trust hfl hLL C0 hE hK (i := 4 * kk) hlt (by omega) (by omega) hX hP hD hS hl hk
      by_cases h13 : x = 13
      · refine lv_tableIn (off := 908) (tgt := 947) hx hb dL_law_39 (by rw [h13]; decide) (by rw [h13]; decide) (by rw [h13]; rfl) (by decide) ?_
        exact k_count hfl hLL C0 hE hK (i := 4 * kk) hlt (by omega) (by omega) hX hP hD hS hl hk
      by_cases h14 : x = 14
      · refine lv_tableIn (off := 964) (tgt := 1003) hx hb dL_law_39 (by rw [h14]; decide) (by rw [h14]; decide) (by rw [h14]; rfl) (by decide) ?_
        exact k_worth hfl hLL C0 hE hK (i := 4 * kk) hlt (by omega) (by omega) hX hP hD hS hl hk
      by_cases h15 : x = 15
      · refine lv_tableIn (off := 1020) (tgt := 1059) hx hb dL_law_39 (by rw [h15]; decide) (by rw [h15]; decide) (by rw [h15]; rfl) (by decide) ?_
        exact k_best hfl hLL C0 hE hK (i := 4 * kk) hlt (by omega) (by omega) hX hP hD hS hl hk
      by_cases h16 : x = 16
      · refine lv_tableIn (off := 1033) (tgt := 1072) hx hb dL_law_39 (by rw [h16]; decide) (by rw [h16]; decide) (by rw [h16]; rfl) (by decide) ?_
        exact k_would hfl hLL C0 hE hK (i := 4 * kk) hlt (by omega) (by omega) hX hP hD hS hl hk
      by_cases h17 : x = 17
      · refine lv_tableIn (off := 1101) (tgt := 1140) hx hb dL_law_39 (by rw [h17]; decide) (by rw [h17]; decide) (by rw [h17]; rfl) (by decide) ?_
        exact k_mean hfl hLL C0 hE hK (i := 4 * kk) hlt (by omega) (by omega) hX hP hD hS hl hk
      by_cases h18 : x = 18
      · refine lv_tableIn (off := 1142) (tgt := 1181) hx hb dL_law_39 (by rw [h18]; decide) (by rw [h18]; decide) (by rw [h18]; rfl) (by decide) ?_
        exact k_digest hfl hLL C0 hE hK (i := 4 * kk) hlt (by omega) (by omega) hX hP hD hS hl hk
      refine lv_tableOut (tgt := 1195) hx hb dL_law_39 (sw_out19 h0 h1 h2 h3 h4 h5 h6 h7 h8 h9 h10 h11 h12 h13 h14 h15 h16 h17 h18) (by decide) ?_
      refine W.widen (k := (18 + 2 * kk) + 2) (n := (545 + 13 * kk) + 13) (by omega) (by omega) ?_
      exact hk L T K F S B U n co pl st jo cn ii fi fe o tw cm pm sm jm nm im fm em V _ _ _ hX hP hD hS hl
theorem nw_in : ∀ w ∈ nw_all, w ∈ lw_tbl := by decide +kernel
theorem bw_in : ∀ w ∈ bw_all, w ∈ lw_tbl := by decide +kernel
theorem okX_0 : okX (fun _ => 0) (fun _ => 0) (fun _ => 0) (fun _ => 0) 0 := ⟨by omega, fun i h => absurd h (by omega), fun _ => Or.inl rfl⟩
set_option maxHeartbeats 4000000 in
set_option maxRecDepth 100000 in
/-- THE LAW, from its entry -/
theorem whole_start {p : Program} {e : Env} {s : State} {m : MethodId} {below : List Frame} {meth : Method} {c : Code} (l : Launch) (hflags : l.flags = flags0) {b L : Nat} {xs : Nat → Int32} (hL : L ≤ 2048) (C0 : lw_At p s m meth c b L xs) : W p l e room_1 s m #[Value.ref b] below meth c s.heap [] 0 0 (lw_Z below #[Value.ref b] s) (entryFrame m ([Value.ref b] : List Value).toArray 9) := by
  obtain ⟨hx, hb, hr, hml, hown, hts0, hXs, hbl, hlocks, hgv⟩ := id C0
  have hfl : l.stackTraces = false := by unfold Launch.stackTraces; rw [hflags]; decide
  have hfl0 := flat_of_before _ hgv
  have hown : s.vm.findClass RL = some m.cls := hown
  have hts := fun w h => hts0 w (wsL_law_in w h)
  have hA : ∀ q : Nat, s.heap.size ≤ q → (fun q : Nat => s.heap.size ≤ q) q := fun _ h => h
  have hN : nw_ s := fun w hw => va_Nw.of (nw_tab w hw) (hts0 w (nw_in w hw))
  have hW9 : bw_ s := fun w hw => va_Nw.of (bw_tab w hw) (hts0 w (bw_in w hw))
  have hC : nc_ s := ⟨va_Nc.of (hfl0 (.not (.castable "java/lang/IndexOutOfBoundsException" "java/lang/IllegalArgumentException")) (by decide +kernel)), va_Nc.of (hfl0 (.not (.castable "java/lang/IndexOutOfBoundsException" "java/lang/IllegalStateException")) (by decide +kernel)), va_Nc.of (hfl0 (.not (.castable "java/lang/IllegalArgumentException" "java/lang/IndexOutOfBoundsException")) (by decide +kernel)), va_Nc.of (hfl0 (.not (.castable "java/lang/IllegalArgumentException" "java/lang/IllegalStateException")) (by decide +kernel)), va_Nc.of (hfl0 (.not (.castable "java/lang/IllegalStateException" "java/lang/IndexOutOfBoundsException")) (by decide +kernel)), va_Nc.of (hfl0 (.not (.castable "java/lang/IllegalStateException" "java/lang/IllegalArgumentException")) (by decide +kernel))⟩
  have hZ : zz_ (fun q : Nat => s.heap.size ≤ q) s s.heap := ⟨vx_Zqof (hts0 (.laysStatic Bundle.tN "UNASSIGNED_STACK" Bundle.steD) (by decide +kernel)) (hts0 (.initialized Bundle.tN) (by decide +kernel)) (hfl0 (.isRef (.static Bundle.tN "UNASSIGNED_STACK" Bundle.steD)) (by decide +kernel)) (fun a ha => Nat.not_le.mpr ha), vx_Zqof (hts0 (.laysStatic Bundle.tN "SUPPRESSED_SENTINEL" Bundle.listD) (by decide +kernel)) (hts0 (.initialized Bundle.tN) (by decide +kernel)) (hfl0 (.isRef (.static Bundle.tN "SUPPRESSED_SENTINEL" Bundle.listD)) (by decide +kernel)) (fun a ha => Nat.not_le.mpr ha)⟩
  obtain ⟨a1, hT1⟩ : ∃ a, vk_R RX1 132 "there is no such number" a s := by
    obtain ⟨a, _, _, _, h1, _⟩ := Cond.exactly_spec (show (Cond.exactly (.string RX1 132) "java/lang/String").holds #[Value.ref b] s none s [] = true from hfl0 _ (by decide +kernel))
    exact ⟨a, vk_R.of (A := #[Value.ref b]) (hts0 (.stringRef RX1 132 "there is no such number") (by decide +kernel)) h1⟩
  obtain ⟨a2, hT2⟩ : ∃ a, vk_R RX1 137 "too small or too large" a s := by
    obtain ⟨a, _, _, _, h1, _⟩ := Cond.exactly_spec (show (Cond.exactly (.string RX1 137) "java/lang/String").holds #[Value.ref b] s none s [] = true from hfl0 _ (by decide +kernel))
    exact ⟨a, vk_R.of (A := #[Value.ref b]) (hts0 (.stringRef RX1 137 "too small or too large") (by decide +kernel)) h1⟩
  obtain ⟨a3, hT3⟩ : ∃ a, vk_R RX1 57 "the ledger is empty" a s := by
    obtain ⟨a, _, _, _, h1, _⟩ := Cond.exactly_spec (show (Cond.exactly (.string RX1 57) "java/lang/String").holds #[Value.ref b] s none s [] = true from hfl0 _ (by decide +kernel))
    exact ⟨a, vk_R.of (A := #[Value.ref b]) (hts0 (.stringRef RX1 57 "the ledger is empty") (by decide +kernel)) h1⟩
  obtain ⟨a4, hT4⟩ : ∃ a, vk_R RX1 140 "the ledger is full" a s := by
    obtain ⟨a, _, _, _, h1, _⟩ := Cond.exactly_spec (show (Cond.exactly (.string RX1 140) "java/lang/String").holds #[Value.ref b] s none s [] = true from hfl0 _ (by decide +kernel))
    exact ⟨a, vk_R.of (A := #[Value.ref b]) (hts0 (.stringRef RX1 140 "the ledger is full") (by decide +kernel)) h1⟩
  have hE : nw_ s ∧ zz_ (fun q : Nat => s.heap.size ≤ q) s s.heap ∧ str_ a1 a2 a3 a4 s ∧ bw_ s ∧ nc_ s := ⟨hN, hZ, ⟨hT1, hT2, hT3, hT4⟩, hW9, hC⟩
  obtain ⟨c0, iS0, hKn0⟩ := u_known (C := RX0) (T := TX0) (N := 11) (n := 11) hts0 inX0 (hts0 (.instantiable RX0 11) (by decide +kernel))
  obtain ⟨c1, iS1, hKn1⟩ := u_known (C := RX1) (T := TX1) (N := 6) (n := 6) hts0 inX1 (hts0 (.instantiable RX1 6) (by decide +kernel))
  obtain ⟨c2, iS2, hKn2⟩ := u_known (C := RX2) (T := TX2) (N := 17) (n := 17) hts0 inX2 (hts0 (.instantiable RX2 17) (by decide +kernel))
  obtain ⟨dC, dI, hKc0⟩ : ∃ (dC : Nat → ClassId) (dI : Nat → Nat → Nat), ∀ (k : Nat) (q : vw_C), vwCl[k]? = some q → u_Kn s q.1 q.2.1 q.2.2 (dC k) (dI k) := by
    refine ⟨fun k => if k = 0 then c0 else if k = 1 then c1 else c2, fun k => if k = 0 then iS0 else if k = 1 then iS1 else iS2, ?_⟩
    intro k q hq
    match k, hq with
    | 0, hq => cases hq; exact hKn0
    | 1, hq => cases hq; exact hKn1
    | 2, hq => cases hq; exact hKn2
    | k + 3, hq => simp [vwCl] at hq
  have hS : va_S (fun q : Nat => s.heap.size ≤ q) s.heap s.heap [] := va_S.rf
  have hK : va_K (dC, dI) vwCl [] s := ⟨hKc0, fun k q h => by simp at h⟩
  have hP : va_P (dC, dI) vwCl [] s.heap := fun k q h => by simp at h
  have hD : va_D (fun q : Nat => s.heap.size ≤ q) [] := ⟨fun i j p q h => by simp at h, fun k q h => by simp at h⟩
  have hl := lv_entry ([.ref b]) (n := 9) (Nat.le_of_ble_eq_true rfl)
  rw [lg_entry_eq]
  generalize (lg_sl ([.ref b]) ++ List.replicate (9 - (lg_sl ([.ref b])).length) Slot.unset).toArray = ls at hl ⊢
  have hl : lv_has ls 9 [(0, .ref b)] := hl
  have k0 := hts (.classLink RL 8 RX1) (by decide +kernel)
  have k1 := hts (.instantiable RX1 6) (by decide +kernel)
  have k2 := hts (.initialized RX1) (by decide +kernel)
  have k3 := hts (.methodLink RL 68 yX1_init) (by decide +kernel)
  have k4 := hts (.instanceMethod yX1_init) (by decide +kernel)
  have k5 := hts (.classLink RL 69 RX2) (by decide +kernel)
  have k6 := hts (.instantiable RX2 17) (by decide +kernel)
  have k7 := hts (.initialized RX2) (by decide +kernel)
  have k8 := hts (.methodLink RL 71 yX2_init) (by decide +kernel)
  have k9 := hts (.instanceMethod yX2_init) (by decide +kernel)
  have k10 := hts (.arrayClass .long) (by decide +kernel)
  refine va_new (ci := 1) (fs := [.null, .null, .null, .null, .int 0, .null]) (C := RX1) (T := TX1) (N := 6) hx hb hts0 inX1 tyX1 tyX1_ok hown k0 k1 k2 hK hP hD hS hA rfl (fun j hj => by rcases (show j = 0 ∨ j = 1 ∨ j = 2 ∨ j = 3 ∨ j = 4 ∨ j = 5 by omega) with rfl | rfl | rfl | rfl | rfl | rfl <;> rfl) (by show _ ≤ 601024; omega) (by show _ ≤ 7293034; omega) dL_law_0 (fun kl H_1 hP hD hS => ?_)
  have hP : va_P (dC, dI) vwCl [(kl, .inr (1, [.null, .null, .null, .null, .int 0, .null]))] H_1 := hP
  have hD : va_D (fun q : Nat => s.heap.size ≤ q) [(kl, .inr (1, [.null, .null, .null, .null, .int 0, .null]))] := hD
  refine W.widen (k := 1) (n := 6) (by omega) (by omega) ?_
  refine lv_dup hx hb dL_law_3 rfl ?_
  have hPc := hP.sub (ws' := [(kl, .inr (1, [.null, .null, .null, .null, .int 0, .null]))]) [0] rfl
  have hDc := hD.sub (ws' := [(kl, .inr (1, [.null, .null, .null, .null, .int 0, .null]))]) [0] (by decide) rfl
  have hKc := hK.sub (tys' := []) [] rfl
  have hFc := va_free (wc := [(kl, .inr (1, [.null, .null, .null, .null, .int 0, .null]))]) hD hS hA [0] rfl
  refine va_callv (va_runI (As := []) (rest := [.ref kl]) ⟨hx, hb, hml, hown, hts⟩ (c_X1_init l dC dI kl H_1.size) (cwI 0 hts gL_law_X1_init rfl rfl rfl k2 k3 k4 rfl (by decide +kernel) ⟨Nat.le_of_ble_eq_true rfl, Nat.le_of_ble_eq_true rfl⟩) (pn_S hN hKc hPc hDc) rfl rfl hl.1 rfl (lv_room (Nat.le_of_ble_eq_true rfl)) dL_law_4 ⟨(by show _ ≤ 601024; omega), (by show _ ≤ 7293034; omega)⟩) hS (fun q _ h => hFc q h) hFc (fun u t H_2 locs ht hvm hw hB hz1 hk1 hS => ?_)
  obtain ⟨aK1_2, aF1_2, aS1_2, aB1_2, rk1_2, aL1_2, aT1_2, aU1_2, cI1_2, cZ1_2⟩ := u
  try dsimp only at hw hB
  have hw_2 := hw
  obtain ⟨hP1, hD1, hK1⟩ := hB
  have hK1 := va_K.moved hvm.symm hK1
  rw [ht] at hP1
  obtain ⟨hP, hD⟩ := va_join (wr := []) (w1 := [(kl, .inr (1, [.ref aK1_2, .ref aF1_2, .ref aS1_2, .ref aB1_2, .int 0, .ref rk1_2])), (aK1_2, .inl (cI1_2, 60, .inl (fun _ => 0))), (aF1_2, .inl (cI1_2, 60, .inl (fun _ => 0))), (aS1_2, .inl (cI1_2, 60, .inl (fun _ => 0))), (aB1_2, .inl (cZ1_2, 60, .inl (fun _ => 0))), (rk1_2, .inr (0, [.ref aL1_2, .ref aT1_2, .ref aU1_2, .int 0, .int 0, .int 0, .int 0, .int 0, .int 0, .int 0, .int 0])), (aL1_2, .inl (cI1_2, 4, .inl (fun _ => 0))), (aT1_2, .inl (cI1_2, 4, .inl (fun _ => 0))), (aU1_2, .inl (cI1_2, 6, .inl (fun _ => 0)))]) hP hD [0] [] rfl rfl (by decide) (by decide) hk1 hFc hP1 hD1
  have hP : va_P (dC, dI) vwCl [(kl, .inr (1, [.ref aK1_2, .ref aF1_2, .ref aS1_2, .ref aB1_2, .int 0, .ref rk1_2])), (aK1_2, .inl (cI1_2, 60, .inl (fun _ => 0))), (aF1_2, .inl (cI1_2, 60, .inl (fun _ => 0))), (aS1_2, .inl (cI1_2, 60, .inl (fun _ => 0))), (aB1_2, .inl (cZ1_2, 60, .inl (fun _ => 0))), (rk1_2, .inr (0, [.ref aL1_2, .ref aT1_2, .ref aU1_2, .int 0, .int 0, .int 0, .int 0, .int 0, .int 0, .int 0, .int 0])), (aL1_2, .inl (cI1_2, 4, .inl (fun _ => 0))), (aT1_2, .inl (cI1_2, 4, .inl (fun _ => 0))), (aU1_2, .inl (cI1_2, 6, .inl (fun _ => 0)))] H_2 := hP
  have hD : va_D (fun q : Nat => s.heap.size ≤ q) [(kl, .inr (1, [.ref aK1_2, .ref aF1_2, .ref aS1_2, .ref aB1_2, .int 0, .ref rk1_2])), (aK1_2, .inl (cI1_2, 60, .inl (fun _ => 0))), (aF1_2, .inl (cI1_2, 60, .inl (fun _ => 0))), (aS1_2, .inl (cI1_2, 60, .inl (fun _ => 0))), (aB1_2, .inl (cZ1_2, 60, .inl (fun _ => 0))), (rk1_2, .inr (0, [.ref aL1_2, .ref aT1_2, .ref aU1_2, .int 0, .int 0, .int 0, .int 0, .int 0, .int 0, .int 0, .int 0])), (aL1_2, .inl (cI1_2, 4, .inl (fun _ => 0))), (aT1_2, .inl (cI1_2, 4, .inl (fun _ => 0))), (aU1_2, .inl (cI1_2, 6, .inl (fun _ => 0)))] := hD
  have hK := hK1
  refine W.widen (k := 9) (n := 271) (by omega) (by omega) ?_
  refine lv_astore_n (lv' := [(1, .ref kl), (0, .ref b)]) hx hb dL_law_7 rfl hl (by decide) rfl (fun ls hl => ?_)
  refine va_new (ci := 2) (fs := [.int 0, .null, .null, .int 0, .null, .null, .null, .null, .int 0, .int 0, .int 0, .int 0, .int 0, .int 0, .int 0, .int 0, .null]) (C := RX2) (T := TX2) (N := 17) hx hb hts0 inX2 tyX2 tyX2_ok hown k5 k6 k7 hK hP hD hS hA rfl (fun j hj => by rcases (show j = 0 ∨ j = 1 ∨ j = 2 ∨ j = 3 ∨ j = 4 ∨ j = 5 ∨ j = 6 ∨ j = 7 ∨ j = 8 ∨ j = 9 ∨ j = 10 ∨ j = 11 ∨ j = 12 ∨ j = 13 ∨ j = 14 ∨ j = 15 ∨ j = 16 by omega) with rfl | rfl | rfl | rfl | rfl | rfl | rfl | rfl | rfl | rfl | rfl | rfl | rfl | rfl | rfl | rfl | rfl <;> rfl) (by show _ ≤ 601024; omega) (by show _ ≤ 7293034; omega) dL_law_8 (fun mo H_3 hP hD hS => ?_)
  have hP : va_P (dC, dI) vwCl [(kl, .inr (1, [.ref aK1_2, .ref aF1_2, .ref aS1_2, .ref aB1_2, .int 0, .ref rk1_2])), (aK1_2, .inl (cI1_2, 60, .inl (fun _ => 0))), (aF1_2, .inl (cI1_2, 60, .inl (fun _ => 0))), (aS1_2, .inl (cI1_2, 60, .inl (fun _ => 0))), (aB1_2, .inl (cZ1_2, 60, .inl (fun _ => 0))), (rk1_2, .inr (0, [.ref aL1_2, .ref aT1_2, .ref aU1_2, .int 0, .int 0, .int 0, .int 0, .int 0, .int 0, .int 0, .int 0])), (aL1_2, .inl (cI1_2, 4, .inl (fun _ => 0))), (aT1_2, .inl (cI1_2, 4, .inl (fun _ => 0))), (aU1_2, .inl (cI1_2, 6, .inl (fun _ => 0))), (mo, .inr (2, [.int 0, .null, .null, .int 0, .null, .null, .null, .null, .int 0, .int 0, .int 0, .int 0, .int 0, .int 0, .int 0, .int 0, .null]))] H_3 := hP
  have hD : va_D (fun q : Nat => s.heap.size ≤ q) [(kl, .inr (1, [.ref aK1_2, .ref aF1_2, .ref aS1_2, .ref aB1_2, .int 0, .ref rk1_2])), (aK1_2, .inl (cI1_2, 60, .inl (fun _ => 0))), (aF1_2, .inl (cI1_2, 60, .inl (fun _ => 0))), (aS1_2, .inl (cI1_2, 60, .inl (fun _ => 0))), (aB1_2, .inl (cZ1_2, 60, .inl (fun _ => 0))), (rk1_2, .inr (0, [.ref aL1_2, .ref aT1_2, .ref aU1_2, .int 0, .int 0, .int 0, .int 0, .int 0, .int 0, .int 0, .int 0])), (aL1_2, .inl (cI1_2, 4, .inl (fun _ => 0))), (aT1_2, .inl (cI1_2, 4, .inl (fun _ => 0))), (aU1_2, .inl (cI1_2, 6, .inl (fun _ => 0))), (mo, .inr (2, [.int 0, .null, .null, .int 0, .null, .null, .null, .null, .int 0, .int 0, .int 0, .int 0, .int 0, .int 0, .int 0, .int 0, .null]))] := hD
  refine W.widen (k := 10) (n := 288) (by omega) (by omega) ?_
  refine lv_dup hx hb dL_law_11 rfl ?_
  have hPc := hP.sub (ws' := [(mo, .inr (2, [.int 0, .null, .null, .int 0, .null, .null, .null, .null, .int 0, .int 0, .int 0, .int 0, .int 0, .int 0, .int 0, .int 0, .null]))]) [9] rfl
  have hDc := hD.sub (ws' := [(mo, .inr (2, [.int 0, .null, .null, .int 0, .null, .null, .null, .null, .int 0, .int 0, .int 0, .int 0, .int 0, .int 0, .int 0, .int 0, .null]))]) [9] (by decide) rfl
  have hKc := hK.sub (tys' := []) [] rfl
  have hFc := va_free (wc := [(mo, .inr (2, [.int 0, .null, .null, .int 0, .null, .null, .null, .null, .int 0, .int 0, .int 0, .int 0, .int 0, .int 0, .int 0, .int 0, .null]))]) hD hS hA [9] rfl
  refine va_callv (va_runI (As := []) (rest := [.ref mo]) ⟨hx, hb, hml, hown, hts⟩ (c_X2_init l dC dI mo H_3.size) (cwI 0 hts gL_law_X2_init rfl rfl rfl k7 k8 k9 rfl (by decide +kernel) ⟨Nat.le_of_ble_eq_true rfl, Nat.le_of_ble_eq_true rfl⟩) (pc_S hKc hPc hDc) rfl rfl hl.1 rfl (lv_room (Nat.le_of_ble_eq_true rfl)) dL_law_12 ⟨(by show _ ≤ 601024; omega), (by show _ ≤ 7293034; omega)⟩) hS (fun q _ h => hFc q h) hFc (fun u t H_4 locs ht hvm hw hB hz1 hk1 hS => ?_)
  obtain ⟨bL1_4, bT1_4, bK1_4, bF1_4, bS1_4, bB1_4, bU1_4, cI1_4, cZ1_4⟩ := u
  try dsimp only at hw hB
  have hw_4 := hw
  obtain ⟨hP1, hD1, hK1⟩ := hB
  have hK1 := va_K.moved hvm.symm hK1
  rw [ht] at hP1
  obtain ⟨hP, hD⟩ := va_join (wr := [(kl, .inr (1, [.ref aK1_2, .ref aF1_2, .ref aS1_2, .ref aB1_2, .int 0, .ref rk1_2])), (aK1_2, .inl (cI1_2, 60, .inl (fun _ => 0))), (aF1_2, .inl (cI1_2, 60, .inl (fun _ => 0))), (aS1_2, .inl (cI1_2, 60, .inl (fun _ => 0))), (aB1_2, .inl (cZ1_2, 60, .inl (fun _ => 0))), (rk1_2, .inr (0, [.ref aL1_2, .ref aT1_2, .ref aU1_2, .int 0, .int 0, .int 0, .int 0, .int 0, .int 0, .int 0, .int 0])), (aL1_2, .inl (cI1_2, 4, .inl (fun _ => 0))), (aT1_2, .inl (cI1_2, 4, .inl (fun _ => 0))), (aU1_2, .inl (cI1_2, 6, .inl (fun _ => 0)))]) (w1 := [(mo, .inr (2, [.int 0, .ref bL1_4, .ref bT1_4, .int 0, .ref bK1_4, .ref bF1_4, .ref bS1_4, .ref bB1_4, .int 0, .int 0, .int 0, .int 0, .int 0, .int 0, .int 0, .int 0, .ref bU1_4])), (bK1_4, .inl (cI1_4, 60, .inl (fun _ => 0))), (bF1_4, .inl (cI1_4, 60, .inl (fun _ => 0))), (bS1_4, .inl (cI1_4, 60, .inl (fun _ => 0))), (bB1_4, .inl (cZ1_4, 60, .inl (fun _ => 0))), (bL1_4, .inl (cI1_4, 4, .inl (fun _ => 0))), (bT1_4, .inl (cI1_4, 4, .inl (fun _ => 0))), (bU1_4, .inl (cI1_4, 6, .inl (fun _ => 0)))]) hP hD [9] [0, 1, 2, 3, 4, 5, 6, 7, 8] rfl rfl (by decide) (by decide) hk1 hFc hP1 hD1
  have hP : va_P (dC, dI) vwCl [(kl, .inr (1, [.ref aK1_2, .ref aF1_2, .ref aS1_2, .ref aB1_2, .int 0, .ref rk1_2])), (aK1_2, .inl (cI1_2, 60, .inl (fun _ => 0))), (aF1_2, .inl (cI1_2, 60, .inl (fun _ => 0))), (aS1_2, .inl (cI1_2, 60, .inl (fun _ => 0))), (aB1_2, .inl (cZ1_2, 60, .inl (fun _ => 0))), (rk1_2, .inr (0, [.ref aL1_2, .ref aT1_2, .ref aU1_2, .int 0, .int 0, .int 0, .int 0, .int 0, .int 0, .int 0, .int 0])), (aL1_2, .inl (cI1_2, 4, .inl (fun _ => 0))), (aT1_2, .inl (cI1_2, 4, .inl (fun _ => 0))), (aU1_2, .inl (cI1_2, 6, .inl (fun _ => 0))), (mo, .inr (2, [.int 0, .ref bL1_4, .ref bT1_4, .int 0, .ref bK1_4, .ref bF1_4, .ref bS1_4, .ref bB1_4, .int 0, .int 0, .int 0, .int 0, .int 0, .int 0, .int 0, .int 0, .ref bU1_4])), (bK1_4, .inl (cI1_4, 60, .inl (fun _ => 0))), (bF1_4, .inl (cI1_4, 60, .inl (fun _ => 0))), (bS1_4, .inl (cI1_4, 60, .inl (fun _ => 0))), (bB1_4, .inl (cZ1_4, 60, .inl (fun _ => 0))), (bL1_4, .inl (cI1_4, 4, .inl (fun _ => 0))), (bT1_4, .inl (cI1_4, 4, .inl (fun _ => 0))), (bU1_4, .inl (cI1_4, 6, .inl (fun _ => 0)))] H_4 := hP
  have hD : va_D (fun q : Nat => s.heap.size ≤ q) [(kl, .inr (1, [.ref aK1_2, .ref aF1_2, .ref aS1_2, .ref aB1_2, .int 0, .ref rk1_2])), (aK1_2, .inl (cI1_2, 60, .inl (fun _ => 0))), (aF1_2, .inl (cI1_2, 60, .inl (fun _ => 0))), (aS1_2, .inl (cI1_2, 60, .inl (fun _ => 0))), (aB1_2, .inl (cZ1_2, 60, .inl (fun _ => 0))), (rk1_2, .inr (0, [.ref aL1_2, .ref aT1_2, .ref aU1_2, .int 0, .int 0, .int 0, .int 0, .int 0, .int 0, .int 0, .int 0])), (aL1_2, .inl (cI1_2, 4, .inl (fun _ => 0))), (aT1_2, .inl (cI1_2, 4, .inl (fun _ => 0))), (aU1_2, .inl (cI1_2, 6, .inl (fun _ => 0))), (mo, .inr (2, [.int 0, .ref bL1_4, .ref bT1_4, .int 0, .ref bK1_4, .ref bF1_4, .ref bS1_4, .ref bB1_4, .int 0, .int 0, .int 0, .int 0, .int 0, .int 0, .int 0, .int 0, .ref bU1_4])), (bK1_4, .inl (cI1_4, 60, .inl (fun _ => 0))), (bF1_4, .inl (cI1_4, 60, .inl (fun _ => 0))), (bS1_4, .inl (cI1_4, 60, .inl (fun _ => 0))), (bB1_4, .inl (cZ1_4, 60, .inl (fun _ => 0))), (bL1_4, .inl (cI1_4, 4, .inl (fun _ => 0))), (bT1_4, .inl (cI1_4, 4, .inl (fun _ => 0))), (bU1_4, .inl (cI1_4, 6, .inl (fun _ => 0)))] := hD
  have hK := hK.app hK1
  obtain rfl : cI1_2 = cI1_4 := arr_same hK 0 2 rfl rfl
  obtain rfl : cZ1_2 = cZ1_4 := arr_same hK 1 3 rfl rfl
  have hK := hK.sub (tys' := [(cI1_2, .int), (cZ1_2, .boolean)]) [0, 1] rfl
  refine W.widen (k := 17) (n := 542) (by omega) (by omega) ?_
  refine lv_astore_n (lv' := [(2, .ref mo), (1, .ref kl), (0, .ref b)]) hx hb dL_law_15 rfl hl (by decide) rfl (fun ls hl => ?_)
  refine lv_iconst (v := 1) hx hb dL_law_16 (by decide) ?_
  refine va_newa (atype := .long) (ty := .long) (a0 := (1, .inr (.inl (fun _ => 0)))) hx hb k10 rfl hK hP hD hS hA (fun _ => rfl) (by decide) (by decide) (by decide) (by decide) (by decide) dL_law_17 (fun q_17 cA_17 H_5 hK hP hD hS => ?_)
  have hK : va_K (dC, dI) vwCl [(cI1_2, .int), (cZ1_2, .boolean), (cA_17, .long)] s := hK
  have hP : va_P (dC, dI) vwCl [(kl, .inr (1, [.ref aK1_2, .ref aF1_2, .ref aS1_2, .ref aB1_2, .int 0, .ref rk1_2])), (aK1_2, .inl (cI1_2, 60, .inl (fun _ => 0))), (aF1_2, .inl (cI1_2, 60, .inl (fun _ => 0))), (aS1_2, .inl (cI1_2, 60, .inl (fun _ => 0))), (aB1_2, .inl (cZ1_2, 60, .inl (fun _ => 0))), (rk1_2, .inr (0, [.ref aL1_2, .ref aT1_2, .ref aU1_2, .int 0, .int 0, .int 0, .int 0, .int 0, .int 0, .int 0, .int 0])), (aL1_2, .inl (cI1_2, 4, .inl (fun _ => 0))), (aT1_2, .inl (cI1_2, 4, .inl (fun _ => 0))), (aU1_2, .inl (cI1_2, 6, .inl (fun _ => 0))), (mo, .inr (2, [.int 0, .ref bL1_4, .ref bT1_4, .int 0, .ref bK1_4, .ref bF1_4, .ref bS1_4, .ref bB1_4, .int 0, .int 0, .int 0, .int 0, .int 0, .int 0, .int 0, .int 0, .ref bU1_4])), (bK1_4, .inl (cI1_2, 60, .inl (fun _ => 0))), (bF1_4, .inl (cI1_2, 60, .inl (fun _ => 0))), (bS1_4, .inl (cI1_2, 60, .inl (fun _ => 0))), (bB1_4, .inl (cZ1_2, 60, .inl (fun _ => 0))), (bL1_4, .inl (cI1_2, 4, .inl (fun _ => 0))), (bT1_4, .inl (cI1_2, 4, .inl (fun _ => 0))), (bU1_4, .inl (cI1_2, 6, .inl (fun _ => 0))), (q_17, .inl (cA_17, 1, .inr (.inl (fun _ => 0))))] H_5 := hP
  have hD : va_D (fun q : Nat => s.heap.size ≤ q) [(kl, .inr (1, [.ref aK1_2, .ref aF1_2, .ref aS1_2, .ref aB1_2, .int 0, .ref rk1_2])), (aK1_2, .inl (cI1_2, 60, .inl (fun _ => 0))), (aF1_2, .inl (cI1_2, 60, .inl (fun _ => 0))), (aS1_2, .inl (cI1_2, 60, .inl (fun _ => 0))), (aB1_2, .inl (cZ1_2, 60, .inl (fun _ => 0))), (rk1_2, .inr (0, [.ref aL1_2, .ref aT1_2, .ref aU1_2, .int 0, .int 0, .int 0, .int 0, .int 0, .int 0, .int 0, .int 0])), (aL1_2, .inl (cI1_2, 4, .inl (fun _ => 0))), (aT1_2, .inl (cI1_2, 4, .inl (fun _ => 0))), (aU1_2, .inl (cI1_2, 6, .inl (fun _ => 0))), (mo, .inr (2, [.int 0, .ref bL1_4, .ref bT1_4, .int 0, .ref bK1_4, .ref bF1_4, .ref bS1_4, .ref bB1_4, .int 0, .int 0, .int 0, .int 0, .int 0, .int 0, .int 0, .int 0, .ref bU1_4])), (bK1_4, .inl (cI1_2, 60, .inl (fun _ => 0))), (bF1_4, .inl (cI1_2, 60, .inl (fun _ => 0))), (bS1_4, .inl (cI1_2, 60, .inl (fun _ => 0))), (bB1_4, .inl (cZ1_2, 60, .inl (fun _ => 0))), (bL1_4, .inl (cI1_2, 4, .inl (fun _ => 0))), (bT1_4, .inl (cI1_2, 4, .inl (fun _ => 0))), (bU1_4, .inl (cI1_2, 6, .inl (fun _ => 0))), (q_17, .inl (cA_17, 1, .inr (.inl (fun _ => 0))))] := hD
  refine W.widen (k := 18) (n := 543) (by decide) (by decide) ?_
  refine lv_astore_n (lv' := [(3, .ref q_17), (2, .ref mo), (1, .ref kl), (0, .ref b)]) hx hb dL_law_19 rfl hl (by decide) rfl (fun ls hl => ?_)
  refine lv_iconst (v := 0) hx hb dL_law_20 (by decide) ?_
  refine lv_istore (lv' := [(4, .int 0), (3, .ref q_17), (2, .ref mo), (1, .ref kl), (0, .ref b)]) hx hb dL_law_21 hl (by decide) rfl (fun ls hl => ?_)
  have hP := hP.sub (ws' := [(kl, .inr (1, [.ref aK1_2, .ref aF1_2, .ref aS1_2, .ref aB1_2, .int 0, .ref rk1_2])), (aK1_2, .inl (cI1_2, 60, .inl (fun _ => 0))), (aF1_2, .inl (cI1_2, 60, .inl (fun _ => 0))), (aS1_2, .inl (cI1_2, 60, .inl (fun _ => 0))), (aB1_2, .inl (cZ1_2, 60, .inl (fun _ => 0))), (rk1_2, .inr (0, [.ref aL1_2, .ref aT1_2, .ref aU1_2, .int 0, .int 0, .int 0, .int 0, .int 0, .int 0, .int 0, .int 0])), (aL1_2, .inl (cI1_2, 4, .inl (fun _ => 0))), (aT1_2, .inl (cI1_2, 4, .inl (fun _ => 0))), (aU1_2, .inl (cI1_2, 6, .inl (fun _ => 0))), (mo, .inr (2, [.int 0, .ref bL1_4, .ref bT1_4, .int 0, .ref bK1_4, .ref bF1_4, .ref bS1_4, .ref bB1_4, .int 0, .int 0, .int 0, .int 0, .int 0, .int 0, .int 0, .int 0, .ref bU1_4])), (bK1_4, .inl (cI1_2, 60, .inl (fun _ => 0))), (bF1_4, .inl (cI1_2, 60, .inl (fun _ => 0))), (bS1_4, .inl (cI1_2, 60, .inl (fun _ => 0))), (bB1_4, .inl (cZ1_2, 60, .inl (fun _ => 0))), (bL1_4, .inl (cI1_2, 4, .inl (fun _ => 0))), (bT1_4, .inl (cI1_2, 4, .inl (fun _ => 0))), (bU1_4, .inl (cI1_2, 6, .inl (fun _ => 0))), (q_17, .inl (cA_17, 1, .inr (.inl (fun _ => 0))))]) [0, 1, 2, 3, 4, 5, 6, 7, 8, 9, 10, 11, 12, 13, 14, 15, 16, 17] rfl
  have hD := hD.sub (ws' := [(kl, .inr (1, [.ref aK1_2, .ref aF1_2, .ref aS1_2, .ref aB1_2, .int 0, .ref rk1_2])), (aK1_2, .inl (cI1_2, 60, .inl (fun _ => 0))), (aF1_2, .inl (cI1_2, 60, .inl (fun _ => 0))), (aS1_2, .inl (cI1_2, 60, .inl (fun _ => 0))), (aB1_2, .inl (cZ1_2, 60, .inl (fun _ => 0))), (rk1_2, .inr (0, [.ref aL1_2, .ref aT1_2, .ref aU1_2, .int 0, .int 0, .int 0, .int 0, .int 0, .int 0, .int 0, .int 0])), (aL1_2, .inl (cI1_2, 4, .inl (fun _ => 0))), (aT1_2, .inl (cI1_2, 4, .inl (fun _ => 0))), (aU1_2, .inl (cI1_2, 6, .inl (fun _ => 0))), (mo, .inr (2, [.int 0, .ref bL1_4, .ref bT1_4, .int 0, .ref bK1_4, .ref bF1_4, .ref bS1_4, .ref bB1_4, .int 0, .int 0, .int 0, .int 0, .int 0, .int 0, .int 0, .int 0, .ref bU1_4])), (bK1_4, .inl (cI1_2, 60, .inl (fun _ => 0))), (bF1_4, .inl (cI1_2, 60, .inl (fun _ => 0))), (bS1_4, .inl (cI1_2, 60, .inl (fun _ => 0))), (bB1_4, .inl (cZ1_2, 60, .inl (fun _ => 0))), (bL1_4, .inl (cI1_2, 4, .inl (fun _ => 0))), (bT1_4, .inl (cI1_2, 4, .inl (fun _ => 0))), (bU1_4, .inl (cI1_2, 6, .inl (fun _ => 0))), (q_17, .inl (cA_17, 1, .inr (.inl (fun _ => 0))))]) [0, 1, 2, 3, 4, 5, 6, 7, 8, 9, 10, 11, 12, 13, 14, 15, 16, 17] (by decide) rfl
  have hK : va_K (dC, dI) vwCl [(cI1_2, .int), (cZ1_2, .boolean), (cA_17, .long)] s := hK
  refine W.widen (k := 18) (n := 545) (by omega) (by omega) ?_
  exact law_loop hfl hL C0 hE hK 514 0 (fun _ => 0) (fun _ => 0) (fun _ => 0) (fun _ => 0) (fun _ => 0) (fun _ => 0) (fun _ => 0) 0 0 0 0 0 0 0 0 0 (fun _ => 0) 0 0 0 0 0 0 0 0 0 (fun _ => 0) _ _ _ (by omega) (by omega) okX_0 hP hD hS (lv_sub hl [4, 3, 2, 1, 0] rfl)
