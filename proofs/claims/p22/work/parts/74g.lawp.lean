/-! the law's checks, as facts of the reckoning -/
theorem i_sub1 (x y : Int32) : x - y - x = -y := by
  rw [Int32.sub_eq_add_neg, Int32.sub_eq_add_neg x y, Int32.add_comm x (-y), Int32.add_assoc, ← Int32.sub_eq_add_neg, Int32.sub_self, Int32.add_zero]
theorem i_sub2 (x y : Int32) : x + y - x = y := by rw [Int32.add_comm, Int32.add_sub_cancel]
theorem b_ne {b : Int32} (h : 4 ≤ b) : ¬ b = 0 := fun e => by rw [e] at h; exact absurd h (by decide)
theorem b_410 {b : Int32} (h : 10 ≤ b) : 4 ≤ b := by
  rw [Int32.le_iff_toInt_le, show (10 : Int32).toInt = 10 from rfl] at h
  rw [Int32.le_iff_toInt_le, show (4 : Int32).toInt = 4 from rfl]; omega
def cC (w t : N2I) : Nat → Nat
  | 0 => 0
  | p + 1 => if t p = w p then cC w t p else cC w t p + 1
def ups (w t : N2I) : Nat → N2I
  | 0 => w
  | p + 1 => upd (ups w t p) p (t p)
theorem ups_at (w t : N2I) : ∀ p q, ups w t p q = if q < p then t q else w q := by
  intro p
  induction p with
  | zero => intro q; exact (if_neg (Nat.not_lt_zero q)).symm
  | succ p ih =>
    intro q
    show upd (ups w t p) p (t p) q = _
    unfold upd
    by_cases h : q = p
    · subst h; rw [if_pos rfl, if_pos (by omega)]
    · rw [if_neg h, ih]
      by_cases h2 : q < p
      · rw [if_pos h2, if_pos (by omega)]
      · rw [if_neg h2, if_neg (by omega)]
theorem ups_self (w t : N2I) (p : Nat) : ups w t p p = w p := by rw [ups_at, if_neg (Nat.lt_irrefl p)]
theorem ups_same (w : N2I) (p : Nat) : ups w w p = w := by
  funext q
  rw [ups_at]
  split <;> rfl
theorem ups_TrV {w t : N2I} {j : Nat} {U : N2I} (h : TrV t j U) : TrV (ups w t 6) j U := ⟨h.1, fun p hp => by rw [ups_at, if_pos hp]; exact h.2.1 p hp, h.2.2⟩
theorem cC_eq {w t : N2I} {p : Nat} (h : t p = w p) : cC w t (p + 1) = cC w t p := if_pos h
theorem cC_ne {w t : N2I} {p : Nat} (h : ¬ t p = w p) : cC w t (p + 1) = cC w t p + 1 := if_neg h
theorem cC_same (w : N2I) : ∀ p, cC w w p = 0 := by
  intro p
  induction p with
  | zero => rfl
  | succ p ih => rw [cC_eq rfl, ih]
theorem cC_upd (w : N2I) (i : Nat) (x : Int32) : ∀ p, cC w (upd w i x) p ≤ 1 ∧ (p ≤ i → cC w (upd w i x) p = 0) := by
  intro p
  induction p with
  | zero => exact ⟨by show 0 ≤ 1; omega, fun _ => rfl⟩
  | succ p ih =>
    by_cases h : p = i
    · have h0 := ih.2 (by omega)
      by_cases c : upd w i x p = w p
      · rw [cC_eq c]; exact ⟨ih.1, fun h => by omega⟩
      · rw [cC_ne c]; exact ⟨by omega, fun h => by omega⟩
    · have c : upd w i x p = w p := by unfold upd; rw [if_neg h]
      rw [cC_eq c]
      exact ⟨ih.1, fun h2 => ih.2 (by omega)⟩
theorem cC_le {w t : N2I} {p : Nat} (h : cC w t p ≤ 1) : nI (cC w t p) ≤ 1 := nI_le (b := 1) h (by omega)
/-- what does not hold, where an entry that is not struck out counts for nothing -/
def NOq (kd a b co : Int32) (tr T : N2I) (st : Int32) : Prop := ¬ kd = 3 ∧ (kd = 5 → ¬ 2 * a ≤ co) ∧ (kd = 2 → ¬ 0 ≤ tr a.toNatClampNeg) ∧ (kd = 4 → tr a.toNatClampNeg < 0 ∨ ¬ b ≤ co) ∧ (kd = 1 → tr a.toNatClampNeg < 20 + T st.toNatClampNeg) ∧ (kd = 0 → 0 ≤ tr 5)
/-- what an entry that counts changes -/
def FC (L : N2I) (kd a b co pl st co1 pl1 st1 : Int32) (tr tr1 : N2I) : Prop :=
  (kd = 4 → co1 - co = -b) ∧ (kd = 5 → co1 - co = (-2) * a) ∧ (kd = 1 → b = 0 → co1 - co = 0) ∧ (kd = 1 → ¬ b = 0 → ¬ 4 ≤ b → co1 - co = 12 + L st.toNatClampNeg) ∧ (kd = 1 → 4 ≤ b → ¬ 10 ≤ b → co1 - co = 5 + L st.toNatClampNeg / 2) ∧ (kd = 1 → 10 ≤ b → co1 - co = 1) ∧ (¬ kd = 4 → ¬ kd = 5 → ¬ kd = 1 → co1 - co = 0) ∧
  (kd = 5 → pl1 - pl = a) ∧ (kd = 1 → b = 0 → ¬ pl ≤ 0 → pl1 - pl = -1) ∧ (¬ kd = 5 → (kd = 1 → ¬ b = 0 ∨ pl ≤ 0) → pl1 - pl = 0) ∧ (kd = 3 → st1 = a) ∧ (¬ kd = 3 → st1 = st) ∧
  (∀ p, p < 6 → ¬ tr1 p = tr p → (kd = 0 ∧ tr p < 0) ∨ (¬ kd = 0 ∧ nI p = a ∧ ¬ kd = 3 ∧ ¬ kd = 5))
theorem up_chg {w : N2I} {pa p : Nat} {x kd : Int32} (h : ¬ upd w pa x p = w p) (h0 : ¬ kd = 0) (h3 : ¬ kd = 3) (h5 : ¬ kd = 5) : ¬ kd = 0 ∧ nI p = nI pa ∧ ¬ kd = 3 ∧ ¬ kd = 5 := by
  have e : p = pa := by
    by_cases c : p = pa
    · exact c
    · exact absurd (by unfold upd; rw [if_neg c]) h
  exact ⟨h0, by rw [e], h3, h5⟩
theorem jo_chg {w : N2I} {j p : Nat} {U : N2I} {x : Int32} (hT : TrV w j U) (hp : p < 6) (h : ¬ upd w j x p = w p) : w p < 0 := by
  have e : p = j := by
    by_cases c : p = j
    · exact c
    · exact absurd (by unfold upd; rw [if_neg c]) h
  subst e
  rw [hT.2.1 p hp, if_neg (Nat.lt_irrefl p)]
  decide
theorem up_ge {w : N2I} {i : Nat} {x : Int32} (hx : 0 ≤ x) : ∀ p, p < 6 → 0 ≤ w p → 0 ≤ upd w i x p := by
  intro p _ h
  unfold upd
  split
  · exact hx
  · exact h
theorem tak_le {L T : N2I} {st b : Int32} (hL : okL L T) (hst : vp_in st 4) : ∃ m, m ≤ 21 ∧ mTak L st b = nI m := by
  obtain ⟨g, hg, rfl⟩ := vp_in_of hst (by omega)
  obtain ⟨x, hx, ex⟩ := vp_in_of (hL g hg).1 (by omega)
  unfold mTak
  rw [nI_clamp (by omega), ex]
  by_cases h0 : b = 0
  · rw [if_pos h0]; exact ⟨0, by omega, rfl⟩
  · rw [if_neg h0]
    by_cases h3 : 3 < b
    · rw [if_pos h3]
      by_cases h9 : 9 < b
      · rw [if_pos h9]; exact ⟨1, by omega, rfl⟩
      · rw [if_neg h9, show (2 : Int32) = nI 2 from rfl, pk_div (by omega) (by omega) (by omega)]
        exact ⟨5 + x / 2, by omega, nI_add 5 (x / 2)⟩
    · rw [if_neg h3]; exact ⟨12 + x, by omega, nI_add 12 x⟩
theorem tr_le {tr : N2I} {j p : Nat} {U : N2I} (hT : TrV tr j U) (hp : p < 6) : ¬ 100 < tr p := by
  rcases tr_at hT hp with ⟨-, t, ht, -, e⟩ | ⟨-, e⟩
  · rw [e]; exact nI_nlt (a := 100) ht (by omega)
  · rw [e]; decide
set_option maxHeartbeats 1000000 in
theorem law_hap {L T tr : N2I} {kd a b co pl st : Int32} {j x : Nat} {U : N2I} (hT : TrV tr j U) (hL : okL L T) (hst : vp_in st 4) (hok : okE kd a b) (hy : okY1 kd a b) (hco : co = nI x) (hx : x < 2000) :
    ∃ (x1 j1 : Nat) (tr1 : N2I), (mHap L T kd a b co pl st (nI j) U).2.1 = nI x1 ∧ x1 ≤ x + 21 ∧ (mHap L T kd a b co pl st (nI j) U).2.2.2.2.1 = nI j1 ∧ TrV tr1 j1 (mHap L T kd a b co pl st (nI j) U).2.2.2.2.2 ∧ (∀ p, p < 6 → 0 ≤ tr p → 0 ≤ tr1 p) ∧ cC tr tr1 6 ≤ 1 ∧
      ((mHap L T kd a b co pl st (nI j) U = (0, co, pl, st, nI j, U) ∧ tr1 = tr ∧ NOq kd a b co tr T st) ∨ ((mHap L T kd a b co pl st (nI j) U).1 = 1 ∧ FC L kd a b co pl st (mHap L T kd a b co pl st (nI j) U).2.1 (mHap L T kd a b co pl st (nI j) U).2.2.1 (mHap L T kd a b co pl st (nI j) U).2.2.2.1 tr tr1)) := by
  have hj6 := hT.1
  have no : ∀ h : Int32 × T5, h = (0, co, pl, st, nI j, U) → NOq kd a b co tr T st → ∃ (x1 j1 : Nat) (tr1 : N2I), h.2.1 = nI x1 ∧ x1 ≤ x + 21 ∧ h.2.2.2.2.1 = nI j1 ∧ TrV tr1 j1 h.2.2.2.2.2 ∧ (∀ p, p < 6 → 0 ≤ tr p → 0 ≤ tr1 p) ∧ cC tr tr1 6 ≤ 1 ∧ ((h = (0, co, pl, st, nI j, U) ∧ tr1 = tr ∧ NOq kd a b co tr T st) ∨ (h.1 = 1 ∧ FC L kd a b co pl st h.2.1 h.2.2.1 h.2.2.2.1 tr tr1)) := by
    intro h e hn
    subst e
    exact ⟨x, j, tr, hco, by omega, rfl, hT, fun _ _ h => h, by rw [cC_same]; omega, Or.inl ⟨rfl, rfl, hn⟩⟩
  by_cases hk : kd = 0
  · have e : mHap L T kd a b co pl st (nI j) U = mJoin co pl st (nI j) U a := if_pos hk
    rw [e]
    by_cases c : nI j < 6
    · have hj : j < 6 := (six_lt hj6).mp c
      have e2 : mJoin co pl st (nI j) U a = (1, co, pl, st, nI (j + 1), upd U (nI j).toNatClampNeg a) := by unfold mJoin; rw [if_pos c, nI_1]
      rw [e2]
      obtain ⟨t, ht, ea⟩ := vp_in_of (hy.1 hk) (by omega)
      exact ⟨x, j + 1, upd tr j a, hco, by omega, rfl, TrV_join hT hj (hy.1 hk), up_ge (by rw [ea]; exact le_nI (by omega)), (cC_upd tr j a 6).1, Or.inr ⟨rfl, ⟨fun e => absurd (hk.symm.trans e) (by decide), fun e => absurd (hk.symm.trans e) (by decide), fun e => absurd (hk.symm.trans e) (by decide), fun e => absurd (hk.symm.trans e) (by decide), fun e => absurd (hk.symm.trans e) (by decide), fun e => absurd (hk.symm.trans e) (by decide), fun _ _ _ => Int32.sub_self _, fun e => absurd (hk.symm.trans e) (by decide), fun e => absurd (hk.symm.trans e) (by decide), fun _ _ => Int32.sub_self _, fun e => absurd (hk.symm.trans e) (by decide), fun _ => rfl, fun p hp h9 => Or.inl ⟨hk, jo_chg hT hp h9⟩⟩⟩⟩
    · have hj : j = 6 := by
        have : ¬ j < 6 := fun h => c ((six_lt hj6).mpr h)
        omega
      refine no _ (by unfold mJoin; rw [if_neg c]) ⟨by rw [hk]; decide, fun e => absurd (hk.symm.trans e) (by decide), fun e => absurd (hk.symm.trans e) (by decide), fun e => absurd (hk.symm.trans e) (by decide), fun e => absurd (hk.symm.trans e) (by decide), fun _ => ?_⟩
      rcases tr_at hT (show 5 < 6 by omega) with ⟨-, t, ht, -, e⟩ | ⟨h5, -⟩
      · rw [e]; exact le_nI (by omega)
      · omega
  have n0 := hk
  by_cases hk : kd = 1
  · obtain ⟨pa, hpa, rfl⟩ := vp_in_of (hok.2.1 (Or.inl hk)) (by omega)
    have e : mHap L T kd (nI pa) b co pl st (nI j) U = mToss L T co pl st (nI j) U (nI pa) b := by unfold mHap; rw [if_neg n0, if_pos hk]
    rw [e]
    by_cases c : mCan T st (nI j) U (nI pa) = 0
    · refine no _ (by unfold mToss; rw [if_pos c]) ⟨by rw [hk]; decide, fun e => absurd (hk.symm.trans e) (by decide), fun e => absurd (hk.symm.trans e) (by decide), fun e => absurd (hk.symm.trans e) (by decide), fun _ => ?_, fun e => absurd (hk.symm.trans e) (by decide)⟩
      rw [can_tr hT hL hst hpa] at c
      rw [nI_clamp (by omega)]
      by_cases d : tr pa < 20 + T st.toNatClampNeg
      · exact d
      · rw [if_neg d] at c; exact absurd c (by decide)
    · rw [mToss_eq c]
      obtain ⟨m, hm, em⟩ := tak_le (b := b) hL hst
      obtain ⟨t, ht, et⟩ := clamp_in (tr pa + mTm pl b)
      exact ⟨x + m, j, upd tr pa (kmax 0 (kmin 100 (tr pa + mTm pl b))), by show co + mTak L st b = _; rw [em, hco, nI_add], by omega, rfl, TrV_add hT (can_p hT hpa c) _, up_ge (by rw [et]; exact le_nI (by omega)), (cC_upd tr pa _ 6).1, Or.inr ⟨rfl, ⟨fun e => absurd (hk.symm.trans e) (by decide), fun e => absurd (hk.symm.trans e) (by decide), fun _ hb => by rw [i_sub2]; unfold mTak; rw [if_pos hb], fun _ hb h4 => by rw [i_sub2]; unfold mTak; rw [if_neg hb, if_neg (fun h => h4 (ge4.mpr h))], fun _ h4 h10 => by rw [i_sub2]; unfold mTak; rw [if_neg (b_ne h4), if_pos (ge4.mp h4), if_neg (fun h => h10 (ge10.mpr h))], fun _ h10 => by rw [i_sub2]; unfold mTak; rw [if_neg (b_ne (b_410 h10)), if_pos (ge4.mp (b_410 h10)), if_pos (ge10.mp h10)], fun _ _ h => absurd hk h, fun e => absurd (hk.symm.trans e) (by decide), fun _ hb hp => by rw [if_pos hb, if_neg hp]; exact i_sub1 _ _, fun _ h => by
        rcases h hk with h | h
        · rw [if_neg h]; exact Int32.sub_self _
        · split
          · first | exact Int32.sub_self _ | (rw [if_pos h]; exact Int32.sub_self _)
          · exact Int32.sub_self _, fun e => absurd (hk.symm.trans e) (by decide), fun _ => rfl, fun p hp h9 => Or.inr (up_chg h9 (by rw [hk]; decide) (by rw [hk]; decide) (by rw [hk]; decide))⟩⟩⟩
  have n1 := hk
  by_cases hk : kd = 2
  · obtain ⟨pa, hpa, rfl⟩ := vp_in_of (hok.2.1 (Or.inr (Or.inl hk))) (by omega)
    have e : mHap L T kd (nI pa) b co pl st (nI j) U = mRest co pl st (nI j) U (nI pa) := by unfold mHap; rw [if_neg n0, if_neg n1, if_pos hk]
    rw [e]
    rcases jd_of hT hpa with ⟨hlt, hne, -⟩ | ⟨h0, hm⟩
    · have e2 : mRest co pl st (nI j) U (nI pa) = (1, co, pl, st, nI j, mAdd U (nI pa) 6) := by unfold mRest; rw [if_neg hne]
      rw [e2]
      obtain ⟨t, ht, et⟩ := clamp_in (tr pa + 6)
      exact ⟨x, j, upd tr pa (kmax 0 (kmin 100 (tr pa + 6))), hco, by omega, rfl, TrV_add hT hlt _, up_ge (by rw [et]; exact le_nI (by omega)), (cC_upd tr pa _ 6).1, Or.inr ⟨rfl, ⟨fun e => absurd (hk.symm.trans e) (by decide), fun e => absurd (hk.symm.trans e) (by decide), fun e => absurd (hk.symm.trans e) (by decide), fun e => absurd (hk.symm.trans e) (by decide), fun e => absurd (hk.symm.trans e) (by decide), fun e => absurd (hk.symm.trans e) (by decide), fun _ _ _ => Int32.sub_self _, fun e => absurd (hk.symm.trans e) (by decide), fun e => absurd (hk.symm.trans e) (by decide), fun _ _ => Int32.sub_self _, fun e => absurd (hk.symm.trans e) (by decide), fun _ => rfl, fun p hp h9 => Or.inr (up_chg h9 (by rw [hk]; decide) (by rw [hk]; decide) (by rw [hk]; decide))⟩⟩⟩
    · refine no _ (by unfold mRest; rw [if_pos h0]) ⟨by rw [hk]; decide, fun e => absurd (hk.symm.trans e) (by decide), fun _ => ?_, fun e => absurd (hk.symm.trans e) (by decide), fun e => absurd (hk.symm.trans e) (by decide), fun e => absurd (hk.symm.trans e) (by decide)⟩
      rw [nI_clamp (by omega), hm]; decide
  have n2 := hk
  by_cases hk : kd = 3
  · have e : mHap L T kd a b co pl st (nI j) U = (1, co, pl, a, nI j, U) := by unfold mHap; rw [if_neg n0, if_neg n1, if_neg n2, if_pos hk]
    rw [e]
    exact ⟨x, j, tr, hco, by omega, rfl, hT, fun _ _ h => h, by rw [cC_same]; omega, Or.inr ⟨rfl, ⟨fun e => absurd (hk.symm.trans e) (by decide), fun e => absurd (hk.symm.trans e) (by decide), fun e => absurd (hk.symm.trans e) (by decide), fun e => absurd (hk.symm.trans e) (by decide), fun e => absurd (hk.symm.trans e) (by decide), fun e => absurd (hk.symm.trans e) (by decide), fun _ _ _ => Int32.sub_self _, fun e => absurd (hk.symm.trans e) (by decide), fun e => absurd (hk.symm.trans e) (by decide), fun _ _ => Int32.sub_self _, fun _ => rfl, fun h => absurd hk h, fun p _ h9 => absurd rfl h9⟩⟩⟩
  have n3 := hk
  by_cases hk : kd = 4
  · obtain ⟨pa, hpa, rfl⟩ := vp_in_of (hok.2.1 (Or.inr (Or.inr hk))) (by omega)
    obtain ⟨y, hy9, eb⟩ := vp_in_of (hy.2.1 hk) (by omega)
    have e : mHap L T kd (nI pa) b co pl st (nI j) U = mPay co pl st (nI j) U (nI pa) b := by unfold mHap; rw [if_neg n0, if_neg n1, if_neg n2, if_neg n3, if_pos hk]
    rw [e]
    rcases jd_of hT hpa with ⟨hlt, hne, -⟩ | ⟨h0, hm⟩
    · by_cases c : b ≤ co
      · have e2 : mPay co pl st (nI j) U (nI pa) b = (1, co - b, pl, st, nI j, mAdd U (nI pa) (b / 3)) := by unfold mPay; rw [if_neg hne, if_pos c]
        rw [e2]
        have hyx : y ≤ x := by rw [eb, hco, nI_leI (by omega) (by omega)] at c; exact c
        obtain ⟨t, ht, et⟩ := clamp_in (tr pa + b / 3)
        exact ⟨x - y, j, upd tr pa (kmax 0 (kmin 100 (tr pa + b / 3))), by show co - b = _; rw [eb, hco, pk_sub hyx], by omega, rfl, TrV_add hT hlt _, up_ge (by rw [et]; exact le_nI (by omega)), (cC_upd tr pa _ 6).1, Or.inr ⟨rfl, ⟨fun _ => i_sub1 _ _, fun e => absurd (hk.symm.trans e) (by decide), fun e => absurd (hk.symm.trans e) (by decide), fun e => absurd (hk.symm.trans e) (by decide), fun e => absurd (hk.symm.trans e) (by decide), fun e => absurd (hk.symm.trans e) (by decide), fun h => absurd hk h, fun e => absurd (hk.symm.trans e) (by decide), fun e => absurd (hk.symm.trans e) (by decide), fun _ _ => Int32.sub_self _, fun e => absurd (hk.symm.trans e) (by decide), fun _ => rfl, fun p hp h9 => Or.inr (up_chg h9 (by rw [hk]; decide) (by rw [hk]; decide) (by rw [hk]; decide))⟩⟩⟩
      · exact no _ (by unfold mPay; rw [if_neg hne, if_neg c]) ⟨by rw [hk]; decide, fun e => absurd (hk.symm.trans e) (by decide), fun e => absurd (hk.symm.trans e) (by decide), fun _ => Or.inr c, fun e => absurd (hk.symm.trans e) (by decide), fun e => absurd (hk.symm.trans e) (by decide)⟩
    · refine no _ (by unfold mPay; rw [if_pos h0]) ⟨by rw [hk]; decide, fun e => absurd (hk.symm.trans e) (by decide), fun e => absurd (hk.symm.trans e) (by decide), fun _ => Or.inl ?_, fun e => absurd (hk.symm.trans e) (by decide), fun e => absurd (hk.symm.trans e) (by decide)⟩
      rw [nI_clamp (by omega), hm]; decide
  have n4 := hk
  have hk : kd = 5 := by
    obtain ⟨q, hq, e⟩ := vp_in_of hy.2.2 (by omega)
    have c : q = 0 ∨ q = 1 ∨ q = 2 ∨ q = 3 ∨ q = 4 ∨ q = 5 := by omega
    rcases c with rfl | rfl | rfl | rfl | rfl | rfl
    · exact absurd e n0
    · exact absurd e n1
    · exact absurd e n2
    · exact absurd e n3
    · exact absurd e n4
    · exact e
  obtain ⟨y, hy9, ea⟩ := vp_in_of (hok.2.2.2 n0 n1 n2 n3 n4) (by omega)
  have e : mHap L T kd a b co pl st (nI j) U = mBuy co pl st (nI j) U a := by unfold mHap; rw [if_neg n0, if_neg n1, if_neg n2, if_neg n3, if_neg n4]
  rw [e]
  by_cases c : 2 * a ≤ co
  · have e2 : mBuy co pl st (nI j) U a = (1, co - 2 * a, pl + a, st, nI j, U) := by unfold mBuy; rw [if_pos c]
    rw [e2]
    have e3 : 2 * a = nI (2 * y) := by rw [ea]; exact pk_mul 2 y
    have hyx : 2 * y ≤ x := by rw [e3, hco, nI_leI (by omega) (by omega)] at c; exact c
    exact ⟨x - 2 * y, j, tr, by show co - 2 * a = _; rw [e3, hco, pk_sub hyx], by omega, rfl, hT, fun _ _ h => h, by rw [cC_same]; omega, Or.inr ⟨rfl, ⟨fun e => absurd (hk.symm.trans e) (by decide), fun _ => by rw [i_sub1]; exact (Int32.neg_mul 2 a).symm, fun e => absurd (hk.symm.trans e) (by decide), fun e => absurd (hk.symm.trans e) (by decide), fun e => absurd (hk.symm.trans e) (by decide), fun e => absurd (hk.symm.trans e) (by decide), fun _ h => absurd hk h, fun _ => i_sub2 _ _, fun e => absurd (hk.symm.trans e) (by decide), fun h => absurd hk h, fun e => absurd (hk.symm.trans e) (by decide), fun _ => rfl, fun p _ h9 => absurd rfl h9⟩⟩⟩
  · exact no _ (by unfold mBuy; rw [if_neg c]) ⟨by rw [hk]; decide, fun _ => c, fun e => absurd (hk.symm.trans e) (by decide), fun e => absurd (hk.symm.trans e) (by decide), fun e => absurd (hk.symm.trans e) (by decide), fun e => absurd (hk.symm.trans e) (by decide)⟩
theorem fe_kmin {fe co : Int32} : (if fe ≤ co then fe else co) = kmin fe co := by
  unfold kmin
  by_cases c : co < fe
  · rw [if_pos c, if_neg (fun h => nlt_le.mpr h c)]
  · rw [if_neg c, if_pos (nlt_le.mp c)]
set_option maxHeartbeats 1000000 in
theorem law_step {L T K F S B : N2I} {n k j c y x q : Nat} {co pl st fi fe : Int32} {U wm : N2I} (hX : okX K F S B n) (hY : okY K F S n) (hL : okL L T) (hk : k < n) (e0 : (co, pl, st, nI j, nI c, nI y, fi, fe, U) = cRec L T K F S B k) (hT : TrV wm j U) (hpl : pl = nI q ∧ q < 2000) (hst : vp_in st 4) (hco : co = nI x ∧ x ≤ 10 + 21 * k) (hc : c + y + cS B k = k) :
    ∃ (co1 pl1 st1 fi1 fe1 : Int32) (U1 tr1 : N2I) (j1 c1 y1 x1 q1 : Nat), (co1, pl1, st1, nI j1, nI c1, nI y1, fi1, fe1, U1) = cRec L T K F S B (k + 1) ∧ TrV tr1 j1 U1 ∧ (pl1 = nI q1 ∧ q1 < 2000) ∧ vp_in st1 4 ∧ (co1 = nI x1 ∧ x1 ≤ 10 + 21 * (k + 1)) ∧ c1 + y1 + cS B (k + 1) = k + 1 ∧ cC wm tr1 6 ≤ 1 ∧ (∀ p, p < 6 → 0 ≤ wm p → 0 ≤ tr1 p) ∧ fe1 = kmin fe co1 ∧
      ((B k = 1 ∧ cS B (k + 1) = cS B k + 1 ∧ aLast L T K F S B (k + 1) = 0 ∧ co = co1 ∧ pl = pl1 ∧ st = st1 ∧ c = c1 ∧ wm = tr1) ∨ (B k = 0 ∧ cS B (k + 1) = cS B k ∧ aLast L T K F S B (k + 1) = 0 ∧ co = co1 ∧ pl = pl1 ∧ st = st1 ∧ c = c1 ∧ wm = tr1 ∧ NOq (K k) (F k) (S k) co (ups wm wm 6) T st) ∨ (B k = 0 ∧ cS B (k + 1) = cS B k ∧ aLast L T K F S B (k + 1) = 1 ∧ c1 = c + 1 ∧ FC L (K k) (F k) (S k) co pl st co1 pl1 st1 wm tr1)) := by
  have hn := hX.1
  have hfe : ∀ {fe1 co1 : Int32}, fe1 = feR (cRec L T K F S B (k + 1)) → co1 = (cRec L T K F S B (k + 1)).1 → fe1 = kmin fe co1 := by
    intro fe1 co1 h1 h2
    rw [h1, h2, fe_upd, ← e0]
    exact fe_kmin
  by_cases hb : B k = 0
  · have hcS : cS B (k + 1) = cS B k := if_pos hb
    have e : cRec L T K F S B (k + 1) = mFin (nI k) (nI c) (nI y) fi fe (mHap L T (K k) (F k) (S k) co pl st (nI j) U) := by
      rw [cRec_take hb, ← e0]
      rfl
    obtain ⟨x1, j1, tr1, h1, h2, h3, h4, h5, h6, h7⟩ := law_hap (pl := pl) hT hL hst (hX.2.1 k hk) (hY k hk) hco.1 (by omega)
    rcases h7 with ⟨hh, htr, hno⟩ | ⟨hr, hfc⟩
    · subst htr
      have r0 : (mHap L T (K k) (F k) (S k) co pl st (nI j) U).1 = 0 := by rw [hh]
      have e1 : (co, pl, st, nI j, nI c, nI (y + 1), (if nI y = 0 then nI k else fi), fe, U) = cRec L T K F S B (k + 1) := by
        rw [e, hh]
        unfold mFin
        dsimp only
        rw [if_pos rfl, nI_1]
      exact ⟨co, pl, st, (if nI y = 0 then nI k else fi), fe, U, tr1, j, c, y + 1, x, q, e1, hT, hpl, hst, ⟨hco.1, by omega⟩, by omega, h6, h5, hfe (by rw [← e1]; rfl) (by rw [← e1]), Or.inr (Or.inl ⟨hb, hcS, aLast_no hb e0 r0, rfl, rfl, rfl, rfl, rfl, by rw [ups_same]; exact hno⟩)⟩
    · have r1 : ¬ (mHap L T (K k) (F k) (S k) co pl st (nI j) U).1 = 0 := by rw [hr]; decide
      have hla := aLast_yes hb e0 r1
      generalize hg : mHap L T (K k) (F k) (S k) co pl st (nI j) U = g at e h1 h3 h4 hr hfc
      obtain ⟨r, co', pl', st', jo', U'⟩ := g
      dsimp only at h1 h3 h4 hr hfc
      subst h3; subst hr
      have e1 : (co', pl', st', nI j1, nI (c + 1), nI y, fi, kmin fe co', U') = cRec L T K F S B (k + 1) := by
        rw [e]
        unfold mFin
        dsimp only
        rw [if_neg (by decide), nI_1]
      obtain ⟨hst1, -, -⟩ := okX_hap hX (show k + 1 ≤ n by omega) e1
      obtain ⟨q1, hq1⟩ := okX_pl hX (show k + 1 ≤ n by omega) e1
      exact ⟨co', pl', st', fi, kmin fe co', U', tr1, j1, c + 1, y, x1, q1, e1, h4, ⟨hq1.1, hq1.2⟩, hst1, ⟨h1, by omega⟩, by omega, h6, h5, rfl, Or.inr (Or.inr ⟨hb, hcS, hla, rfl, hfc⟩)⟩
  · have hcS : cS B (k + 1) = cS B k + 1 := if_neg hb
    have e1 : (co, pl, st, nI j, nI c, nI y, fi, fe, U) = cRec L T K F S B (k + 1) := by
      rw [cRec_skip hb]
      exact e0
    exact ⟨co, pl, st, fi, fe, U, wm, j, c, y, x, q, e1, hT, hpl, hst, ⟨hco.1, by omega⟩, by omega, by rw [cC_same]; omega, fun _ _ h => h, hfe (by rw [← e1]; rfl) (by rw [← e1]), Or.inl ⟨(hX.2.2 k).resolve_left hb, hcS, aLast_skip hb, rfl, rfl, rfl, rfl, rfl⟩⟩
/-- at the start -/
theorem law_0 {L T K F S B : N2I} : ((10 : Int32), (0 : Int32), (0 : Int32), nI 0, nI 0, nI 0, (-1 : Int32), (10 : Int32), (fun _ => (0 : Int32))) = cRec L T K F S B 0 := rfl
theorem TrV_0 {U : N2I} : TrV (upd (upd (upd (upd (upd (upd (fun _ => 0) 0 (-1)) 1 (-1)) 2 (-1)) 3 (-1)) 4 (-1)) 5 (-1)) 0 U := by
  refine ⟨by omega, fun p hp => ?_, fun q hq => absurd hq (by omega)⟩
  have c : p = 0 ∨ p = 1 ∨ p = 2 ∨ p = 3 ∨ p = 4 ∨ p = 5 := by omega
  rcases c with rfl | rfl | rfl | rfl | rfl | rfl <;> rfl
/-- behind any number of first entries -/
theorem law_at {L T K F S B : N2I} {n : Nat} (hX : okX K F S B n) (hY : okY K F S n) (hL : okL L T) : ∀ k, k ≤ n → ∃ (co pl st fi fe : Int32) (U wm : N2I) (j c y x q : Nat), (co, pl, st, nI j, nI c, nI y, fi, fe, U) = cRec L T K F S B k ∧ TrV wm j U ∧ (pl = nI q ∧ q < 2000) ∧ vp_in st 4 ∧ (co = nI x ∧ x ≤ 10 + 21 * k) ∧ c + y + cS B k = k := by
  intro k
  induction k with
  | zero => intro _; exact ⟨10, 0, 0, -1, 10, fun _ => 0, _, 0, 0, 0, 10, 0, law_0, TrV_0, ⟨rfl, by omega⟩, vp_in_nI (n := 0) (by omega) (by omega), ⟨rfl, by omega⟩, rfl⟩
  | succ k ih =>
    intro hk
    obtain ⟨co, pl, st, fi, fe, U, wm, j, c, y, x, q, e0, hT, hpl, hst, hco, hc⟩ := ih (by omega)
    obtain ⟨co1, pl1, st1, fi1, fe1, U1, tr1, j1, c1, y1, x1, q1, e1, hT1, hpl1, hst1, hco1, hc1, -⟩ := law_step hX hY hL hk e0 hT hpl hst hco hc
    exact ⟨co1, pl1, st1, fi1, fe1, U1, tr1, j1, c1, y1, x1, q1, e1, hT1, hpl1, hst1, hco1, hc1⟩
theorem mFl_01 {B : N2I} (h : ∀ i, B i = 0 ∨ B i = 1) (f : Int32) (i : Nat) : mFl B f i = 0 ∨ mFl B f i = 1 := by
  unfold mFl
  split
  · split
    · exact Or.inr rfl
    · exact Or.inl rfl
  · exact h i
theorem aCo_nI {L T K F S B : N2I} {n : Nat} (hX : okX K F S B n) (hY : okY K F S n) (hL : okL L T) (f : Int32) : ∃ x, x ≤ 10 + 21 * n ∧ aCo L T K F S B n f = nI x := by
  obtain ⟨co, pl, st, fi, fe, U, wm, j, c, y, x, q, e0, -, -, -, hco, -⟩ := law_at (B := mFl B f) ⟨hX.1, hX.2.1, mFl_01 hX.2.2 f⟩ hY hL n (Nat.le_refl n)
  refine ⟨x, hco.2, ?_⟩
  unfold aCo
  rw [← e0]
  exact hco.1
theorem best_at (c : Int32 → Int32) (B : N2I) : ∀ e, aBest c B e = (-1, c (-1)) ∨ ∃ i, i < e ∧ aBest c B e = (nI i, c (nI i)) ∧ B i = 0 ∧ c (-1) < c (nI i) := by
  intro e
  induction e with
  | zero => exact Or.inl rfl
  | succ e ih =>
    by_cases hb : B e = 0
    · by_cases h : c (nI e) ≤ (aBest c B e).2
      · rw [best_keep hb h]
        rcases ih with h1 | ⟨i, h1, h2⟩
        · exact Or.inl h1
        · exact Or.inr ⟨i, by omega, h2⟩
      · rw [best_new hb h]
        refine Or.inr ⟨e, by omega, rfl, hb, ?_⟩
        have h9 : (aBest c B e).2 < c (nI e) := nle_lt.mp h
        rcases ih with h1 | ⟨i, h1, h2, h3, h4⟩
        · rw [h1] at h9; exact h9
        · rw [h2] at h9
          rw [Int32.lt_iff_toInt_lt] at h4 h9 ⊢
          dsimp only at h9
          omega
    · rw [best_skip hb]
      rcases ih with h1 | ⟨i, h1, h2⟩
      · exact Or.inl h1
      · exact Or.inr ⟨i, by omega, h2⟩
theorem best_ok {L T K F S B : N2I} {n : Nat} (hX : okX K F S B n) (hY : okY K F S n) (hL : okL L T) (h : ¬ (aBest (aCo L T K F S B n) B n).1 < 0) : ∃ i, i < n ∧ (aBest (aCo L T K F S B n) B n).1 = nI i ∧ B i = 0 ∧ ¬ 0 ≤ aCo L T K F S B n (-1) - aCo L T K F S B n (nI i) := by
  have hn := hX.1
  rcases best_at (aCo L T K F S B n) B n with e | ⟨i, h1, h2, h3, h4⟩
  · rw [e] at h; exact absurd (show (-1 : Int32) < 0 by decide) h
  · refine ⟨i, h1, by rw [h2], h3, ?_⟩
    obtain ⟨x, hx, ex⟩ := aCo_nI hX hY hL (-1)
    obtain ⟨z, hz, ez⟩ := aCo_nI hX hY hL (nI i)
    rw [ex, ez, nI_ltI (by omega) (by omega)] at h4
    rw [ex, ez]
    exact fun h => absurd (pk_sneg (by omega) h4) (nlt_le.mpr h)
theorem ent4 {L T K F S B : N2I} (i : Nat) : aEnt L T K F S B i 4 = aLast L T K F S B (i + 1) := rfl
theorem ent3 {L T K F S B : N2I} (i : Nat) : aEnt L T K F S B i 3 = if B i = 0 then 0 else 1 := rfl
theorem ent0 {L T K F S B : N2I} (i : Nat) : aEnt L T K F S B i 0 = K i := rfl
theorem ent1 {L T K F S B : N2I} (i : Nat) : aEnt L T K F S B i 1 = F i := rfl
theorem ent2 {L T K F S B : N2I} (i : Nat) : aEnt L T K F S B i 2 = S i := rfl
theorem beh_n {L T K F S B : N2I} {k j c y : Nat} {co pl st fi fe : Int32} {U : N2I} (e : (co, pl, st, nI j, nI c, nI y, fi, fe, U) = cRec L T K F S B k) : aBehind 0 (cRec L T K F S B k) = co ∧ aBehind 1 (cRec L T K F S B k) = pl ∧ aBehind 2 (cRec L T K F S B k) = st ∧ aBehind 3 (cRec L T K F S B k) = nI j ∧ aBehind 5 (cRec L T K F S B k) = nI c ∧ aBehind 6 (cRec L T K F S B k) = nI y := by
  rw [← e]; exact ⟨rfl, rfl, rfl, rfl, rfl, rfl⟩
theorem cnt_n {L T K F S B : N2I} {n j c y : Nat} {co pl st fi fe : Int32} {U : N2I} (hn : n ≤ 60) (e : (co, pl, st, nI j, nI c, nI y, fi, fe, U) = cRec L T K F S B n) (hc : c + y + cS B n = n) : aCount n 1 (cRec L T K F S B n) = nI (cS B n) ∧ aCount n 2 (cRec L T K F S B n) = nI c ∧ aCount n 3 (cRec L T K F S B n) = co ∧ aCount n 5 (cRec L T K F S B n) = fe := by
  rw [← e]
  refine ⟨?_, rfl, rfl, rfl⟩
  show nI n - nI c - nI y = nI (cS B n)
  rw [pk_sub (by omega), pk_sub (by omega)]
  congr 1
  omega
theorem aCount0 (n : Nat) (s : T9) : aCount n 0 s = nI n := by
  obtain ⟨co, pl, st, jo, cn, ii, fi, fe, U⟩ := s
  rfl
theorem six_sub {k c y s : Nat} (hk : k ≤ 60) (h : c + y + s = k + 1) : nI y = nI (k + 1) - nI c - nI s := by
  rw [pk_sub (by omega), pk_sub (by omega)]
  congr 1
  omega
