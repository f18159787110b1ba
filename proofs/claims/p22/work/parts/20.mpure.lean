/-! the reference's own words, tied to the same functions -/
def mIn (v lo hi : Int32) : Int32 := if v < lo then 0 else if hi < v then 0 else 1
theorem mIn_ok {v lo hi : Int32} (h0 : ¬ v < lo) (h1 : ¬ hi < v) : mIn v lo hi = 1 := by unfold mIn; rw [if_neg h0, if_neg h1]
theorem mIn_lo {v lo hi : Int32} (h0 : v < lo) : mIn v lo hi = 0 := by unfold mIn; rw [if_pos h0]
theorem mIn_hi {v lo hi : Int32} (h1 : hi < v) : mIn v lo hi = 0 := by unfold mIn; split <;> first | rfl | rw [if_pos h1]
theorem mIn_bad {v lo hi : Int32} (h : v < lo ∨ hi < v) : mIn v lo hi = 0 := h.elim mIn_lo mIn_hi
theorem mIn_01 (v lo hi : Int32) : mIn v lo hi = 0 ∨ mIn v lo hi = 1 := by
  unfold mIn; split
  · exact Or.inl rfl
  · split
    · exact Or.inl rfl
    · exact Or.inr rfl
theorem ge4 {th : Int32} : 4 ≤ th ↔ 3 < th := by
  rw [Int32.le_iff_toInt_le, Int32.lt_iff_toInt_lt, show (4 : Int32).toInt = 4 from rfl, show (3 : Int32).toInt = 3 from rfl]; omega
theorem ge10 {th : Int32} : 10 ≤ th ↔ 9 < th := by
  rw [Int32.le_iff_toInt_le, Int32.lt_iff_toInt_lt, show (10 : Int32).toInt = 10 from rfl, show (9 : Int32).toInt = 9 from rfl]; omega
theorem nlt_le {a b : Int32} : ¬ a < b ↔ b ≤ a := by
  rw [Int32.le_iff_toInt_le, Int32.lt_iff_toInt_lt]; omega
theorem nle_lt {a b : Int32} : ¬ a ≤ b ↔ b < a := by
  rw [Int32.le_iff_toInt_le, Int32.lt_iff_toInt_lt]; omega
theorem mIn_ent {i n : Nat} (hi : i < n) (hn : n ≤ 60) : mIn (nI i) 0 (nI n - 1) = 1 := by
  obtain ⟨k, rfl⟩ : ∃ k, n = k + 1 := ⟨n - 1, by omega⟩
  rw [nI_pred]
  exact mIn_ok (nI_pos (by omega)) (nI_nlt (by omega) (by omega))
theorem mIn_nent {e : Int32} {n : Nat} (hn : n ≤ 60) (h : ¬ vp_in e n) : mIn e 0 (nI n - 1) = 0 := by
  rw [vp_in_iff] at h
  by_cases h0 : e < 0
  · exact mIn_lo h0
  · refine mIn_hi ?_
    rw [Int32.lt_iff_toInt_lt] at h0 ⊢
    rw [show (0 : Int32).toInt = 0 from rfl] at h0
    rcases n with _ | k
    · rw [show (nI 0 - 1).toInt = -1 from rfl]; omega
    · rw [nI_pred, nI_toInt (by omega)]; omega
theorem mToss_fst (L T : N2I) (co pl st jo : Int32) (U : N2I) (p th : Int32) : (mToss L T co pl st jo U p th).1 = mCan T st jo U p := by
  unfold mToss
  rcases mCan_01 T st jo U p with h | h
  · rw [if_pos h, h]
  · rw [if_neg (by rw [h]; exact one_ne), h]
    repeat' split
    all_goals rfl
theorem mRest_fst (co pl st jo : Int32) (U : N2I) (p : Int32) : (mRest co pl st jo U p).1 = mJd jo p := by
  unfold mRest
  rcases mJd_01 jo p with h | h
  · rw [if_pos h, h]
  · rw [if_neg (by rw [h]; exact one_ne), h]
/-- what counts for nothing changes nothing -/
theorem mHap_no {L T : N2I} {k a b co pl st jo : Int32} {U : N2I} (h : (mHap L T k a b co pl st jo U).1 = 0) : mHap L T k a b co pl st jo U = (0, co, pl, st, jo, U) := by
  revert h
  unfold mHap mJoin mToss mRest mPay mBuy
  repeat' split
  all_goals intro h
  all_goals first | rfl | exact absurd h one_ne
def hStk (L : N2I) (co pl st : Int32) (U : N2I) (p th : Int32) : Int32 × Int32 × N2I :=
  if th ≤ 0 then (co + mTak L st th, kmax 0 (pl - 1), mAdd U p (if pl ≤ 0 then -60 else -30))
  else if 4 ≤ th then (if 10 ≤ th then (co + mTak L st th, pl, mAdd U p 3) else (co + mTak L st th, pl, mAdd U p 1))
  else (co + mTak L st th, pl, mAdd U p (-4))
theorem kmax_pl {q : Nat} (hq : q < 2000) : kmax 0 (nI q - 1) = if nI q ≤ 0 then nI q else nI q - 1 := by
  rcases q with _ | x
  · rfl
  · rw [nI_pred, if_neg (nI_nle (by omega) (by omega))]
    unfold kmax
    rcases x with _ | y
    · rfl
    · rw [if_pos (show (0 : Int32) < nI (y + 1) from nI_lt (a := 0) (b := y + 1) (by omega) (by omega))]
theorem hStk_eq {L T : N2I} {co st jo : Int32} {q : Nat} {U : N2I} {p th : Int32} (hq : q < 2000) (ht : vp_in th 21) (hc : ¬ mCan T st jo U p = 0) : mToss L T co (nI q) st jo U p th = (1, (hStk L co (nI q) st U p th).1, (hStk L co (nI q) st U p th).2.1, st, jo, (hStk L co (nI q) st U p th).2.2) := by
  obtain ⟨x, hx, rfl⟩ := vp_in_of ht (by omega)
  unfold mToss hStk
  rw [if_neg hc]
  by_cases h0 : nI x = 0
  · rw [if_pos h0, if_pos (show nI x ≤ 0 by rw [h0]; decide)]
    unfold mScr
    dsimp only
    rw [kmax_pl hq]
    by_cases hl : nI q ≤ 0
    · rw [if_pos hl, if_pos hl, if_pos hl]
    · rw [if_neg hl, if_neg hl, if_neg hl]
  · have hp : ¬ nI x ≤ 0 := by
      rcases x with _ | y
      · exact absurd rfl h0
      · exact nI_nle (by omega) (by omega)
    rw [if_neg h0, if_neg hp]
    by_cases h3 : 3 < nI x
    · rw [if_pos h3, if_pos (ge4.mpr h3)]
      by_cases h9 : 9 < nI x
      · rw [if_pos h9, if_pos (ge10.mpr h9)]
      · rw [if_neg h9, if_neg (fun h => h9 (ge10.mp h))]
    · rw [if_neg h3, if_neg (fun h => h3 (ge4.mp h))]
def mDoes (L T K F S B : N2I) (U : N2I) : Nat → Int32
  | 0 => 0
  | e + 1 => if B e = 0 then (mHap9 L T (K e) (F e) (S e) (mRec L T K F S B U e)).1 else 0
theorem mDoes_cnt {L T K F S B U : N2I} {n i : Nat} (hX : okX K F S B n) (hi : i < n) : mDoes L T K F S B U (i + 1) = aCnt L T K F S B i := by
  unfold aCnt
  show (if B i = 0 then (mHap9 L T (K i) (F i) (S i) (mRec L T K F S B U i)).1 else 0) = _
  rw [mHap9_sim (hX.2.1 i hi) _ _ (mRec_sim (L := L) (T := T) (B := B) U (fun _ => 0) hX.2.1 i (by omega))]
theorem okX_fi {L T K F S B B' U : N2I} {n i : Nat} (h : okX K F S B n) (hi : i ≤ n) {co pl st jo cn ii fi fe : Int32} {U1 : N2I} (hs : (co, pl, st, jo, cn, ii, fi, fe, U1) = mRec L T K F S B' U i) : ii = 0 ↔ fi = -1 := by
  have h9 := mRec_inv (L := L) (T := T) (B := B') (U := U) h.1 h.2.1 i hi
  have hn := h.1
  rw [← hs] at h9
  obtain ⟨j, q, x, -, -, h3, -, -, -, h7, h8, h10⟩ := h9
  dsimp only at h7 h8 h10
  subst h7
  constructor
  · intro e
    have : x = 0 := by
      rcases x with _ | y
      · rfl
      · exact absurd e (nI_ne0 (by omega) (by omega))
    exact h8 this
  · intro e
    by_cases hx : x = 0
    · subst hx; rfl
    · obtain ⟨y, hy, hy2⟩ := h10 (by omega)
      exact absurd (hy2.symm.trans e) (nI_neg1 (by omega))
theorem okX_pl {L T K F S B B' U : N2I} {n i : Nat} (h : okX K F S B n) (hi : i ≤ n) {co pl st jo cn ii fi fe : Int32} {U1 : N2I} (hs : (co, pl, st, jo, cn, ii, fi, fe, U1) = mRec L T K F S B' U i) : ∃ q, pl = nI q ∧ q < 2000 := by
  have h9 := mRec_inv (L := L) (T := T) (B := B') (U := U) h.1 h.2.1 i hi
  have hn := h.1
  rw [← hs] at h9
  obtain ⟨j, q, x, -, h2, -, h4, -⟩ := h9
  exact ⟨q, h4, by omega⟩
