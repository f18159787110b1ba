/-! pure facts of the reckoning -/
theorem one_ne : ¬ (1 : Int32) = 0 := by decide
theorem six_lt {j : Nat} (h : j ≤ 6) : (nI j) < 6 ↔ j < 6 := by
  have e : (6 : Int32) = nI 6 := rfl
  rw [e, nI_ltI (by omega) (by omega)]
theorem jd_cases {j : Nat} {p : Int32} (hj : j ≤ 6) (hp : vp_in p 6) : mJd (nI j) p = 0 ∨ ∃ q, q < j ∧ p = nI q ∧ mJd (nI j) p = 1 := by
  obtain ⟨q, hq, rfl⟩ := vp_in_of hp (by omega)
  rcases Nat.lt_or_ge q j with h | h
  · refine Or.inr ⟨q, h, rfl, ?_⟩
    unfold mJd
    rw [if_neg (nI_ge h (by omega))]
  · refine Or.inl ?_
    unfold mJd
    rw [if_pos (nI_le h (by omega))]
def simU (j : Nat) (U U' : N2I) : Prop := ∀ i, i < j → U i = U' i
theorem simU_upd {j q : Nat} {U U' : N2I} {x x' : Int32} (h : simU j U U') (e : x = x') : simU j (upd U q x) (upd U' q x') := by
  intro i hi
  unfold upd
  by_cases hq : i = q
  · simp only [hq, if_true]; exact e
  · simp only [hq, if_false]; exact h i hi
theorem simU_add {j q : Nat} {U U' : N2I} (h : simU j U U') (hq : q < j) (hj : j ≤ 6) (b : Int32) : simU j (mAdd U (nI q) b) (mAdd U' (nI q) b) := by
  unfold mAdd
  rw [nI_clamp (by omega)]
  exact simU_upd h (by rw [h q hq])
theorem simU_push {j : Nat} {U U' : N2I} (h : simU j U U') (hj : j ≤ 6) (a : Int32) : simU (j + 1) (upd U (nI j).toNatClampNeg a) (upd U' (nI j).toNatClampNeg a) := by
  rw [nI_clamp (by omega)]
  intro i hi
  unfold upd
  by_cases hq : i = j
  · simp only [hq, if_true]
  · simp only [hq, if_false]; exact h i (by omega)
theorem simU_can {j : Nat} {U U' : N2I} (h : simU j U U') (hj : j ≤ 6) {p : Int32} (hp : vp_in p 6) (T : N2I) (st : Int32) : mCan T st (nI j) U p = mCan T st (nI j) U' p := by
  unfold mCan
  rcases jd_cases hj hp with h0 | ⟨q, hq, rfl, h1⟩
  · rw [h0, if_pos rfl, if_pos rfl]
  · rw [h1, if_neg one_ne, if_neg one_ne, nI_clamp (by omega), h q hq]
theorem can_q {j : Nat} {U : N2I} (hj : j ≤ 6) {p : Int32} (hp : vp_in p 6) {T : N2I} {st : Int32} (h : ¬ mCan T st (nI j) U p = 0) : ∃ q, q < j ∧ p = nI q := by
  rcases jd_cases hj hp with h0 | ⟨q, hq, rfl, h1⟩
  · exact absurd (by unfold mCan; rw [h0, if_pos rfl]) h
  · exact ⟨q, hq, rfl⟩
def simS (h h' : Int32 × T5) : Prop := h.1 = h'.1 ∧ h.2.1 = h'.2.1 ∧ h.2.2.1 = h'.2.2.1 ∧ h.2.2.2.1 = h'.2.2.2.1 ∧ h.2.2.2.2.1 = h'.2.2.2.2.1 ∧ ∃ j, j ≤ 6 ∧ h.2.2.2.2.1 = nI j ∧ simU j h.2.2.2.2.2 h'.2.2.2.2.2
theorem simS_mk {r co pl st : Int32} {j : Nat} {U U' : N2I} (hj : j ≤ 6) (h : simU j U U') : simS (r, co, pl, st, nI j, U) (r, co, pl, st, nI j, U') := ⟨rfl, rfl, rfl, rfl, rfl, j, hj, rfl, h⟩
set_option maxHeartbeats 1000000 in
theorem mHap_sim {L T U U' : N2I} {k a b co pl st : Int32} {j : Nat} (hj : j ≤ 6) (h : simU j U U') (hok : okE k a b) : simS (mHap L T k a b co pl st (nI j) U) (mHap L T k a b co pl st (nI j) U') := by
  unfold mHap
  by_cases h0 : k = 0
  · rw [if_pos h0, if_pos h0]
    unfold mJoin
    by_cases h6 : nI j < 6
    · rw [if_pos h6, if_pos h6, nI_1]
      exact simS_mk (by have := (six_lt hj).mp h6; omega) (simU_push h hj a)
    · rw [if_neg h6, if_neg h6]
      exact simS_mk hj h
  rw [if_neg h0, if_neg h0]
  by_cases h1 : k = 1
  · have hp := hok.2.1 (Or.inl h1)
    rw [if_pos h1, if_pos h1]
    unfold mToss
    rw [← simU_can h hj hp]
    by_cases hc : mCan T st (nI j) U a = 0
    · rw [if_pos hc, if_pos hc]; exact simS_mk hj h
    · rw [if_neg hc, if_neg hc]
      obtain ⟨q, hq, rfl⟩ := can_q hj hp hc
      by_cases t0 : b = 0
      · rw [if_pos t0, if_pos t0]
        unfold mScr
        by_cases hl : pl ≤ 0
        · rw [if_pos hl, if_pos hl]; exact simS_mk hj (simU_add h hq hj _)
        · rw [if_neg hl, if_neg hl]; exact simS_mk hj (simU_add h hq hj _)
      rw [if_neg t0, if_neg t0]
      by_cases t3 : 3 < b
      · rw [if_pos t3, if_pos t3]
        by_cases t9 : 9 < b
        · rw [if_pos t9, if_pos t9]; exact simS_mk hj (simU_add h hq hj _)
        · rw [if_neg t9, if_neg t9]; exact simS_mk hj (simU_add h hq hj _)
      · rw [if_neg t3, if_neg t3]; exact simS_mk hj (simU_add h hq hj _)
  rw [if_neg h1, if_neg h1]
  by_cases h2 : k = 2
  · have hp := hok.2.1 (Or.inr (Or.inl h2))
    rw [if_pos h2, if_pos h2]
    unfold mRest
    rcases jd_cases hj hp with e | ⟨q, hq, rfl, e⟩
    · rw [e, if_pos rfl, if_pos rfl]; exact simS_mk hj h
    · rw [e, if_neg one_ne, if_neg one_ne]; exact simS_mk hj (simU_add h hq hj _)
  rw [if_neg h2, if_neg h2]
  by_cases h3 : k = 3
  · rw [if_pos h3, if_pos h3]; exact simS_mk hj h
  rw [if_neg h3, if_neg h3]
  by_cases h4 : k = 4
  · have hp := hok.2.1 (Or.inr (Or.inr h4))
    rw [if_pos h4, if_pos h4]
    unfold mPay
    rcases jd_cases hj hp with e | ⟨q, hq, rfl, e⟩
    · rw [e, if_pos rfl, if_pos rfl]; exact simS_mk hj h
    · rw [e, if_neg one_ne, if_neg one_ne]
      by_cases hb : b ≤ co
      · rw [if_pos hb, if_pos hb]; exact simS_mk hj (simU_add h hq hj _)
      · rw [if_neg hb, if_neg hb]; exact simS_mk hj h
  rw [if_neg h4, if_neg h4]
  unfold mBuy
  by_cases hb : 2 * a ≤ co
  · rw [if_pos hb, if_pos hb]; exact simS_mk hj h
  · rw [if_neg hb, if_neg hb]; exact simS_mk hj h
/-- what a step keeps: the stage is one of four, at most six have joined, plasters are not less than none -/
def inv5 (p : Nat) (h : Int32 × T5) : Prop := ∃ j q, j ≤ 6 ∧ q ≤ p ∧ h.2.2.1 = nI q ∧ vp_in h.2.2.2.1 4 ∧ h.2.2.2.2.1 = nI j
theorem inv5_mk {r co st : Int32} {j q p : Nat} {U : N2I} (hj : j ≤ 6) (hq : q ≤ p) (hs : vp_in st 4) : inv5 p (r, co, nI q, st, nI j, U) := ⟨j, q, hj, hq, rfl, hs, rfl⟩
theorem pl_pos {q : Nat} (hq : q < 2000) (h : ¬ nI q ≤ 0) : ∃ x, q = x + 1 ∧ nI q - 1 = nI x := by
  rcases q with _ | x
  · exact absurd (by decide) h
  · exact ⟨x, rfl, nI_pred x⟩
set_option maxHeartbeats 1000000 in
theorem mHap_inv {L T U : N2I} {k a b co st : Int32} {j q p : Nat} (hj : j ≤ 6) (hq : q ≤ p) (hp9 : p < 1900) (hs : vp_in st 4) (hok : okE k a b) : inv5 (p + 21) (mHap L T k a b co (nI q) st (nI j) U) := by
  unfold mHap
  by_cases h0 : k = 0
  · rw [if_pos h0]
    unfold mJoin
    by_cases h6 : nI j < 6
    · rw [if_pos h6, nI_1]
      exact inv5_mk (by have := (six_lt hj).mp h6; omega) (by omega) hs
    · rw [if_neg h6]
      exact inv5_mk hj (by omega) hs
  rw [if_neg h0]
  by_cases h1 : k = 1
  · rw [if_pos h1]
    unfold mToss
    by_cases hc : mCan T st (nI j) U a = 0
    · rw [if_pos hc]; exact inv5_mk hj (by omega) hs
    · rw [if_neg hc]
      by_cases t0 : b = 0
      · rw [if_pos t0]
        unfold mScr
        by_cases hl : nI q ≤ 0
        · rw [if_pos hl]; exact inv5_mk hj (by omega) hs
        · rw [if_neg hl]
          obtain ⟨x, e1, e2⟩ := pl_pos (by omega) hl
          rw [e2]; exact inv5_mk hj (by omega) hs
      rw [if_neg t0]
      by_cases t3 : 3 < b
      · rw [if_pos t3]
        by_cases t9 : 9 < b
        · rw [if_pos t9]; exact inv5_mk hj (by omega) hs
        · rw [if_neg t9]; exact inv5_mk hj (by omega) hs
      · rw [if_neg t3]; exact inv5_mk hj (by omega) hs
  rw [if_neg h1]
  by_cases h2 : k = 2
  · rw [if_pos h2]
    unfold mRest
    split <;> exact inv5_mk hj (by omega) hs
  rw [if_neg h2]
  by_cases h3 : k = 3
  · rw [if_pos h3]; exact inv5_mk hj (by omega) (hok.1 h3)
  rw [if_neg h3]
  by_cases h4 : k = 4
  · rw [if_pos h4]
    unfold mPay
    split
    · exact inv5_mk hj (by omega) hs
    · split <;> exact inv5_mk hj (by omega) hs
  rw [if_neg h4]
  unfold mBuy
  obtain ⟨x, hx, rfl⟩ := vp_in_of (hok.2.2.2 h0 h1 h2 h3 h4) (by omega)
  split
  · rw [nI_add]; exact inv5_mk hj (by omega) hs
  · exact inv5_mk hj (by omega) hs
/-- what holds of a reckoning of i entries -/
def inv9 (i : Nat) (s : T9) : Prop := ∃ j q x, j ≤ 6 ∧ q ≤ 21 * i ∧ x ≤ i ∧ s.2.1 = nI q ∧ vp_in s.2.2.1 4 ∧ s.2.2.2.1 = nI j ∧ s.2.2.2.2.2.1 = nI x ∧ (x = 0 → s.2.2.2.2.2.2.1 = -1) ∧ (0 < x → ∃ y, y < i ∧ s.2.2.2.2.2.2.1 = nI y)
theorem inv9_step {L T : N2I} {k a b : Int32} {i : Nat} (hi : i < 60) (hok : okE k a b) (s : T9) (h : inv9 i s) : inv9 (i + 1) (mStep9 L T (nI i) k a b s) := by
  obtain ⟨co, pl, st, jo, cn, ii, fi, fe, U⟩ := s
  obtain ⟨j, q, x, hj, hq, hx, e1, e2, e3, e4, e5, e6⟩ := h
  dsimp only at e1 e2 e3 e4 e5 e6
  subst e1; subst e3; subst e4
  have h5 := mHap_inv (L := L) (T := T) (U := U) (co := co) hj hq (by omega) e2 hok
  show inv9 (i + 1) (mFin (nI i) cn (nI x) fi fe (mHap L T k a b co (nI q) st (nI j) U))
  generalize mHap L T k a b co (nI q) st (nI j) U = g at h5 ⊢
  obtain ⟨r, co', pl', st', jo', U'⟩ := g
  obtain ⟨j', q', hj', hq', f1, f2, f3⟩ := h5
  dsimp only at f1 f2 f3
  subst f1; subst f3
  unfold mFin
  dsimp only
  by_cases hr : r = 0
  · rw [if_pos hr]
    refine ⟨j', q', x + 1, hj', by omega, by omega, rfl, f2, rfl, nI_1 x, fun h => absurd h (by omega), fun _ => ?_⟩
    by_cases hx0 : x = 0
    · subst hx0
      exact ⟨i, by omega, (if_pos rfl : (if nI 0 = 0 then nI i else fi) = nI i)⟩
    · obtain ⟨y, hy, hy2⟩ := e6 (by omega)
      exact ⟨y, by omega, (if_neg (nI_ne0 (by omega) (by omega))).trans hy2⟩
  · rw [if_neg hr]
    refine ⟨j', q', x, hj', by omega, by omega, rfl, f2, rfl, rfl, e5, fun h => ?_⟩
    obtain ⟨y, hy, hy2⟩ := e6 h
    exact ⟨y, by omega, hy2⟩
theorem mRec_skip {L T K F S B U : N2I} {i : Nat} (h : ¬ B i = 0) : mRec L T K F S B U (i + 1) = mRec L T K F S B U i := if_neg h
theorem mRec_take {L T K F S B U : N2I} {i : Nat} (h : B i = 0) : mRec L T K F S B U (i + 1) = mStep9 L T (nI i) (K i) (F i) (S i) (mRec L T K F S B U i) := if_pos h
theorem mRec_inv {L T K F S B U : N2I} {n : Nat} (hn : n ≤ 60) (hok : ∀ i, i < n → okE (K i) (F i) (S i)) : ∀ i, i ≤ n → inv9 i (mRec L T K F S B U i) := by
  intro i
  induction i with
  | zero => intro _; exact ⟨0, 0, 0, by omega, by omega, by omega, rfl, vp_in_nI (n := 0) (by omega) (by omega), rfl, rfl, fun _ => rfl, fun h => absurd h (by omega)⟩
  | succ i ih =>
    intro hi
    have h := ih (by omega)
    by_cases hb : B i = 0
    · rw [mRec_take hb]; exact inv9_step (by omega) (hok i (by omega)) _ h
    · rw [mRec_skip hb]
      obtain ⟨j, q, x, h1, h2, h3, h4, h5, h6, h7, h8, h9⟩ := h
      refine ⟨j, q, x, h1, by omega, by omega, h4, h5, h6, h7, h8, fun h => ?_⟩
      obtain ⟨y, hy, hy2⟩ := h9 h
      exact ⟨y, by omega, hy2⟩
def sim9 (s s' : T9) : Prop := s.1 = s'.1 ∧ s.2.1 = s'.2.1 ∧ s.2.2.1 = s'.2.2.1 ∧ s.2.2.2.1 = s'.2.2.2.1 ∧ s.2.2.2.2.1 = s'.2.2.2.2.1 ∧ s.2.2.2.2.2.1 = s'.2.2.2.2.2.1 ∧ s.2.2.2.2.2.2.1 = s'.2.2.2.2.2.2.1 ∧ s.2.2.2.2.2.2.2.1 = s'.2.2.2.2.2.2.2.1 ∧ ∃ j, j ≤ 6 ∧ s.2.2.2.1 = nI j ∧ simU j s.2.2.2.2.2.2.2.2 s'.2.2.2.2.2.2.2.2
theorem sim9_step {L T : N2I} {e k a b : Int32} (hok : okE k a b) (s s' : T9) (h : sim9 s s') : sim9 (mStep9 L T e k a b s) (mStep9 L T e k a b s') := by
  obtain ⟨co, pl, st, jo, cn, ii, fi, fe, U⟩ := s
  obtain ⟨co', pl', st', jo', cn', ii', fi', fe', U'⟩ := s'
  obtain ⟨rfl, rfl, rfl, rfl, rfl, rfl, rfl, rfl, j, hj, e1, e2⟩ := h
  dsimp only at e1 e2
  subst e1
  have h5 := mHap_sim (L := L) (T := T) (co := co) (pl := pl) (st := st) hj e2 hok
  show sim9 (mFin e cn ii fi fe (mHap L T k a b co pl st (nI j) U)) (mFin e cn ii fi fe (mHap L T k a b co pl st (nI j) U'))
  generalize mHap L T k a b co pl st (nI j) U = g at h5 ⊢
  generalize mHap L T k a b co pl st (nI j) U' = g' at h5 ⊢
  obtain ⟨r, co1, pl1, st1, jo1, U1⟩ := g
  obtain ⟨r', co2, pl2, st2, jo2, U2⟩ := g'
  obtain ⟨rfl, rfl, rfl, rfl, rfl, j', hj', f1, f2⟩ := h5
  unfold mFin
  dsimp only at f1 f2 ⊢
  by_cases hr : r = 0
  · rw [if_pos hr, if_pos hr]; exact ⟨rfl, rfl, rfl, rfl, rfl, rfl, rfl, rfl, j', hj', f1, f2⟩
  · rw [if_neg hr, if_neg hr]; exact ⟨rfl, rfl, rfl, rfl, rfl, rfl, rfl, rfl, j', hj', f1, f2⟩
theorem mRec_sim {L T K F S B : N2I} {n : Nat} (U U' : N2I) (hok : ∀ i, i < n → okE (K i) (F i) (S i)) : ∀ i, i ≤ n → sim9 (mRec L T K F S B U i) (mRec L T K F S B U' i) := by
  intro i
  induction i with
  | zero => intro _; exact ⟨rfl, rfl, rfl, rfl, rfl, rfl, rfl, rfl, 0, by omega, rfl, fun i hi => absurd hi (by omega)⟩
  | succ i ih =>
    intro hi
    have h := ih (by omega)
    by_cases hb : B i = 0
    · rw [mRec_take hb, mRec_take hb]; exact sim9_step (hok i (by omega)) _ _ h
    · rw [mRec_skip hb, mRec_skip hb]; exact h
theorem mRec_congr {L T K F S B B' U : N2I} : ∀ i, (∀ e, e < i → B e = B' e) → mRec L T K F S B U i = mRec L T K F S B' U i := by
  intro i
  induction i with
  | zero => intro _; rfl
  | succ i ih =>
    intro h
    have h1 := ih (fun e he => h e (by omega))
    have h2 := h i (by omega)
    by_cases hb : B i = 0
    · rw [mRec_take hb, mRec_take (by rw [← h2]; exact hb), h1]
    · rw [mRec_skip hb, mRec_skip (by rw [← h2]; exact hb), h1]
/-- one entry struck out or restored -/
def mFl (B : N2I) (f : Int32) : N2I := fun i => if nI i = f then (if B i = 0 then 1 else 0) else B i
theorem nI_neg1 {i : Nat} (h : i < 100) : ¬ nI i = -1 := by
  intro e
  have h1 : (nI i).toInt = (-1 : Int32).toInt := by rw [e]
  rw [nI_toInt (by omega)] at h1
  have h2 : (-1 : Int32).toInt = -1 := rfl
  omega
theorem mRec_noFl {L T K F S B U : N2I} {n : Nat} (hn : n ≤ 60) : mRec L T K F S (mFl B (-1)) U n = mRec L T K F S B U n :=
  mRec_congr n fun e he => if_neg (nI_neg1 (by omega))
abbrev cRec (L T K F S B : N2I) (n : Nat) : T9 := mRec L T K F S B (fun _ => 0) n
def okX (K F S B : N2I) (n : Nat) : Prop := n ≤ 60 ∧ (∀ i, i < n → okE (K i) (F i) (S i)) ∧ ∀ i, B i = 0 ∨ B i = 1
theorem okX_hap {L T K F S B B' U : N2I} {n i : Nat} (h : okX K F S B n) (hi : i ≤ n) {co pl st jo cn ii fi fe : Int32} {U1 : N2I} (hs : (co, pl, st, jo, cn, ii, fi, fe, U1) = mRec L T K F S B' U i) : vp_in st 4 ∧ vp_in jo 7 ∧ ∃ j, jo = nI j ∧ j ≤ 6 := by
  have h9 := mRec_inv (L := L) (T := T) (B := B') (U := U) h.1 h.2.1 i hi
  rw [← hs] at h9
  obtain ⟨j, q, x, h1, -, -, -, h5, h6, -⟩ := h9
  dsimp only at h5 h6
  exact ⟨h5, by rw [h6]; exact vp_in_nI (by omega) (by omega), j, h6, h1⟩
theorem fl_in0 {B : N2I} {f : Int32} {i : Nat} (h : nI i = f) (hb : B i = 1) : mFl B f i = 0 := by unfold mFl; rw [if_pos h, if_neg (by rw [hb]; decide)]
theorem fl_in1 {B : N2I} {f : Int32} {i : Nat} (h : ¬ nI i = f) (hb : B i = 0) : mFl B f i = 0 := by unfold mFl; rw [if_neg h, hb]
theorem fl_out0 {B : N2I} {f : Int32} {i : Nat} (h : nI i = f) (h01 : B i = 0 ∨ B i = 1) (hb : ¬ B i = 1) : ¬ mFl B f i = 0 := by unfold mFl; rw [if_pos h, if_pos (h01.resolve_right hb)]; decide
theorem fl_out1 {B : N2I} {f : Int32} {i : Nat} (h : ¬ nI i = f) (hb : ¬ B i = 0) : ¬ mFl B f i = 0 := by unfold mFl; rw [if_neg h]; exact hb
theorem vp_nb {x : Int32} (h : x = 0 ∨ x = 1) : vp_nar .boolean x = x := by rcases h with rfl | rfl <;> rfl
def swp (f : N2I) (a b : Nat) : N2I := upd (upd f a (f b)) b (f a)
def mHap9 (L T : N2I) (k a b : Int32) (s : T9) : Int32 × T5 := match s with | (co, pl, st, jo, _, _, _, _, U) => mHap L T k a b co pl st jo U
theorem mHap9_sim {L T : N2I} {k a b : Int32} (hok : okE k a b) (s s' : T9) (h : sim9 s s') : (mHap9 L T k a b s).1 = (mHap9 L T k a b s').1 := by
  obtain ⟨co, pl, st, jo, cn, ii, fi, fe, U⟩ := s
  obtain ⟨co', pl', st', jo', cn', ii', fi', fe', U'⟩ := s'
  obtain ⟨rfl, rfl, rfl, rfl, rfl, rfl, rfl, rfl, j, hj, e1, e2⟩ := h
  dsimp only at e1 e2
  subst e1
  exact (mHap_sim (L := L) (T := T) (co := co) (pl := pl) (st := st) hj e2 hok).1
def aCnt (L T K F S B : N2I) (i : Nat) : Int32 := if B i = 0 then (mHap9 L T (K i) (F i) (S i) (cRec L T K F S B i)).1 else 0
theorem aCnt_of {L T K F S B U : N2I} {n i : Nat} (hX : okX K F S B n) (hi : i < n) (c : B i = 0) {co pl st jo cn ii fi fe : Int32} {U1 : N2I} (h1 : (co, pl, st, jo, cn, ii, fi, fe, U1) = mRec L T K F S B U i) {r : Int32} {g : T5} (h2 : (r, g) = mHap L T (K i) (F i) (S i) co pl st jo U1) : r = aCnt L T K F S B i := by
  unfold aCnt
  rw [if_pos c, ← mHap9_sim (hX.2.1 i hi) _ _ (mRec_sim (L := L) (T := T) (B := B) U (fun _ => 0) hX.2.1 i (by omega)), ← h1]
  show r = (mHap L T (K i) (F i) (S i) co pl st jo U1).1
  rw [← h2]
theorem aCnt_01 (L T K F S B : N2I) (i : Nat) : aCnt L T K F S B i = 0 ∨ aCnt L T K F S B i = 1 := by
  unfold aCnt; split
  · exact mHap_01 L T (K i) (F i) (S i) _ _ _ _ _
  · exact Or.inl rfl
