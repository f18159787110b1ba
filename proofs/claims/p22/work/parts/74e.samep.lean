/-! what isSame asks, as facts of the reckoning -/
def fiR (s : T9) : Int32 := s.2.2.2.2.2.2.1
def feR (s : T9) : Int32 := s.2.2.2.2.2.2.2.1
def cS (B : N2I) : Nat → Nat
  | 0 => 0
  | i + 1 => if B i = 0 then cS B i else cS B i + 1
theorem cS_step {B : N2I} {i n : Nat} (h : B i = 0 ∨ B i = 1) (_ : i < n) : nI (cS B i) + B i = nI (cS B (i + 1)) := by
  show _ = nI (if B i = 0 then cS B i else cS B i + 1)
  rcases h with e | e
  · rw [e, if_pos rfl, Int32.add_zero]
  · rw [e, if_neg (by decide), nI_1]
theorem told_ok {L T K F S B : N2I} {k j : Nat} {xc xp xs xn xi fi fe : Int32} {U : N2I} (e : (xc, xp, xs, nI j, xn, xi, fi, fe, U) = cRec L T K F S B k) (hj : j ≤ 6) : ∀ w, w < 7 → (upd (upd (upd (upd (upd (upd (upd (fun _ => 0) 0 xc) 1 xp) 2 xs) 3 (nI j)) 4 (mSum U j)) 5 xn) 6 xi) w = aBehind (nI w) (cRec L T K F S B k) := by
  intro w hw
  rw [← e]
  have c : w = 0 ∨ w = 1 ∨ w = 2 ∨ w = 3 ∨ w = 4 ∨ w = 5 ∨ w = 6 := by omega
  rcases c with rfl | rfl | rfl | rfl | rfl | rfl | rfl
  · rfl
  · rfl
  · rfl
  · rfl
  · show mSum U j = mSum U (nI j).toNatClampNeg
    rw [nI_clamp (by omega)]
  · rfl
  · rfl
theorem tr_ans {L T K F S B tr : N2I} {k j p : Nat} {xc xp xs xn xi fi fe : Int32} {U : N2I} (e : (xc, xp, xs, nI j, xn, xi, fi, fe, U) = cRec L T K F S B k) (hT : TrV tr j U) (hp : p < 6) : aTrust (nI p) (cRec L T K F S B k) = tr p := by
  have hj := hT.1
  rw [← e, hT.2.1 p hp]
  unfold aTrust mJd
  dsimp only
  by_cases h : p < j
  · rw [if_neg (nI_ge h (by omega)), if_neg one_ne, if_pos h, nI_clamp (by omega)]
  · rw [if_pos (nI_le (by omega) (by omega)), if_pos rfl, if_neg h]
theorem ent_ok {L T K F S B : N2I} {n i : Nat} {v : Int32} (hX : okX K F S B n) (_ : i < n) (hl : v = aLast L T K F S B (i + 1)) : ∀ w, w < 5 → aEnt L T K F S B i (nI w) = (upd (upd (upd (upd (upd (fun _ => 0) 0 (K i)) 1 (F i)) 2 (S i)) 3 (B i)) 4 v) w := by
  intro w hw
  have c : w = 0 ∨ w = 1 ∨ w = 2 ∨ w = 3 ∨ w = 4 := by omega
  rcases c with rfl | rfl | rfl | rfl | rfl
  · rfl
  · rfl
  · rfl
  · show (if B i = 0 then (0 : Int32) else 1) = B i
    rcases hX.2.2 i with e | e
    · rw [e]; rfl
    · rw [e]; rfl
  · exact hl.symm
theorem aLast_1 {L T K F S B : N2I} {k : Nat} {x : Int32} (h : x = aLast L T K F S B k) (c : ¬ x = 0) : x = 1 := by
  rw [h] at c ⊢
  rcases k with _ | k
  · exact absurd rfl c
  · show (if aCnt L T K F S B k = 0 then (0 : Int32) else 1) = 1
    by_cases e : aCnt L T K F S B k = 0
    · exact absurd (if_pos e) c
    · exact if_neg e
/-- who counts, who counts for nothing, who is struck out: all -/
theorem cnt3 {L T K F S B : N2I} : ∀ k, ∃ c y, (cRec L T K F S B k).2.2.2.2.1 = nI c ∧ (cRec L T K F S B k).2.2.2.2.2.1 = nI y ∧ c + y + cS B k = k := by
  intro k
  induction k with
  | zero => exact ⟨0, 0, rfl, rfl, rfl⟩
  | succ k ih =>
    obtain ⟨c, y, h1, h2, h3⟩ := ih
    by_cases hb : B k = 0
    · have e : cS B (k + 1) = cS B k := if_pos hb
      rw [cRec_take hb, e]
      generalize hg : cRec L T K F S B k = g at h1 h2
      obtain ⟨co, pl, st, jo, cn, ii, fi, fe, U⟩ := g
      dsimp only at h1 h2
      subst h1; subst h2
      show ∃ c9 y9, (mFin (nI k) (nI c) (nI y) fi fe (mHap L T (K k) (F k) (S k) co pl st jo U)).2.2.2.2.1 = nI c9 ∧ (mFin (nI k) (nI c) (nI y) fi fe (mHap L T (K k) (F k) (S k) co pl st jo U)).2.2.2.2.2.1 = nI y9 ∧ _
      generalize mHap L T (K k) (F k) (S k) co pl st jo U = h
      obtain ⟨r, co', pl', st', jo', U'⟩ := h
      unfold mFin
      dsimp only
      by_cases hr : r = 0
      · rw [if_pos hr]; exact ⟨c, y + 1, rfl, nI_1 y, by omega⟩
      · rw [if_neg hr]; exact ⟨c + 1, y, nI_1 c, rfl, by omega⟩
    · have e : cS B (k + 1) = cS B k + 1 := if_neg hb
      rw [cRec_skip hb, e]
      exact ⟨c, y, h1, h2, by omega⟩
theorem mFin_y {i cn ii fi fe r co pl st jo : Int32} {U : N2I} (hr : ¬ r = 0) : mFin i cn ii fi fe (r, co, pl, st, jo, U) = (co, pl, st, jo, cn + 1, ii, fi, kmin fe co, U) := if_neg hr
theorem mFin_n {i cn ii fi fe r co pl st jo : Int32} {U : N2I} (hr : r = 0) : mFin i cn ii fi fe (r, co, pl, st, jo, U) = (co, pl, st, jo, cn, ii + 1, (if ii = 0 then i else fi), fe, U) := if_pos hr
theorem fe_le {L T K F S B : N2I} : ∀ k, feR (cRec L T K F S B k) ≤ (cRec L T K F S B k).1 := by
  intro k
  induction k with
  | zero => show (10 : Int32) ≤ 10; decide
  | succ k ih =>
    by_cases hb : B k = 0
    · rw [cRec_take hb]
      generalize hg : cRec L T K F S B k = g at ih
      obtain ⟨co, pl, st, jo, cn, ii, fi, fe, U⟩ := g
      show feR (mFin (nI k) cn ii fi fe (mHap L T (K k) (F k) (S k) co pl st jo U)) ≤ (mFin (nI k) cn ii fi fe (mHap L T (K k) (F k) (S k) co pl st jo U)).1
      by_cases hr : (mHap L T (K k) (F k) (S k) co pl st jo U).1 = 0
      · rw [mHap_no hr]
        rw [mFin_n rfl]; exact ih
      · generalize mHap L T (K k) (F k) (S k) co pl st jo U = h at hr
        obtain ⟨r, co', pl', st', jo', U'⟩ := h
        unfold mFin feR
        dsimp only at hr ⊢
        rw [if_neg hr]
        show kmin fe co' ≤ co'
        unfold kmin
        by_cases c : co' < fe
        · rw [if_pos c]; exact Int32.le_refl _
        · rw [if_neg c]; exact nlt_le.mp c
    · rw [cRec_skip hb]; exact ih
theorem fe_0 {L T K F S B : N2I} {xc xp xs xn xi : Int32} (hs : (xc, xp, xs, xn, xi) = five (cRec L T K F S B 0)) : (if (10 : Int32) ≤ xc then 10 else xc) = feR (cRec L T K F S B 0) := by
  unfold five at hs
  cases hs
  rfl
theorem fe_upd {L T K F S B : N2I} (i : Nat) : feR (cRec L T K F S B (i + 1)) = if feR (cRec L T K F S B i) ≤ (cRec L T K F S B (i + 1)).1 then feR (cRec L T K F S B i) else (cRec L T K F S B (i + 1)).1 := by
  have ih := fe_le (L := L) (T := T) (K := K) (F := F) (S := S) (B := B) i
  by_cases hb : B i = 0
  · rw [cRec_take hb]
    generalize cRec L T K F S B i = g at ih ⊢
    obtain ⟨co, pl, st, jo, cn, ii, fi, fe, U⟩ := g
    have ih : fe ≤ co := ih
    show feR (mFin (nI i) cn ii fi fe (mHap L T (K i) (F i) (S i) co pl st jo U)) = if fe ≤ (mFin (nI i) cn ii fi fe (mHap L T (K i) (F i) (S i) co pl st jo U)).1 then fe else (mFin (nI i) cn ii fi fe (mHap L T (K i) (F i) (S i) co pl st jo U)).1
    by_cases hr : (mHap L T (K i) (F i) (S i) co pl st jo U).1 = 0
    · rw [mHap_no hr, mFin_n rfl]
      show fe = if fe ≤ co then fe else co
      rw [if_pos ih]
    · generalize mHap L T (K i) (F i) (S i) co pl st jo U = h at hr
      obtain ⟨r, co', pl', st', jo', U'⟩ := h
      rw [mFin_y hr]
      show kmin fe co' = if fe ≤ co' then fe else co'
      unfold kmin
      by_cases c : co' < fe
      · rw [if_pos c, if_neg (fun h => nlt_le.mpr h c)]
      · rw [if_neg c, if_pos (nlt_le.mp c)]
  · rw [cRec_skip hb]
    exact (if_pos ih).symm
theorem fe_step {L T K F S B : N2I} {n k : Nat} {fe0 xc xp xs xn xi : Int32} (_ : okX K F S B n) (hk : k - 1 < n) (hfe : fe0 = feR (cRec L T K F S B (k - 1))) (hs : (xc, xp, xs, xn, xi) = five (cRec L T K F S B (k - 1 + 1))) : (if fe0 ≤ xc then fe0 else xc) = feR (cRec L T K F S B (k - 1 + 1)) := by
  have e : xc = (cRec L T K F S B (k - 1 + 1)).1 := by unfold five at hs; exact congrArg Prod.fst hs
  rw [fe_upd, hfe, e]
theorem fi_upd {L T K F S B : N2I} (i : Nat) : fiR (cRec L T K F S B (i + 1)) = if B i = 0 ∧ aCnt L T K F S B i = 0 then (if (cRec L T K F S B i).2.2.2.2.2.1 = 0 then nI i else fiR (cRec L T K F S B i)) else fiR (cRec L T K F S B i) := by
  by_cases hb : B i = 0
  · rw [cRec_take hb]
    unfold aCnt
    rw [if_pos hb]
    show fiR (mStep9 L T (nI i) (K i) (F i) (S i) (cRec L T K F S B i)) = if B i = 0 ∧ (mHap9 L T (K i) (F i) (S i) (cRec L T K F S B i)).1 = 0 then (if (cRec L T K F S B i).2.2.2.2.2.1 = 0 then nI i else fiR (cRec L T K F S B i)) else fiR (cRec L T K F S B i)
    generalize cRec L T K F S B i = g
    obtain ⟨co, pl, st, jo, cn, ii, fi, fe, U⟩ := g
    show fiR (mFin (nI i) cn ii fi fe (mHap L T (K i) (F i) (S i) co pl st jo U)) = if B i = 0 ∧ (mHap L T (K i) (F i) (S i) co pl st jo U).1 = 0 then (if ii = 0 then nI i else fi) else fi
    generalize mHap L T (K i) (F i) (S i) co pl st jo U = h
    obtain ⟨r, co', pl', st', jo', U'⟩ := h
    by_cases hr : r = 0
    · rw [mFin_n hr]
      exact (if_pos (show B i = 0 ∧ r = 0 from ⟨hb, hr⟩)).symm
    · rw [mFin_y hr]
      exact (if_neg (show ¬ (B i = 0 ∧ r = 0) from fun h => hr h.2)).symm
  · rw [cRec_skip hb, if_neg (fun h => hb h.1)]
theorem fi_ii {L T K F S B : N2I} {n i : Nat} (hX : okX K F S B n) (hi : i ≤ n) : (cRec L T K F S B i).2.2.2.2.2.1 = 0 ↔ fiR (cRec L T K F S B i) = -1 := by
  generalize hg : cRec L T K F S B i = g
  obtain ⟨co, pl, st, jo, cn, ii, fi, fe, U⟩ := g
  exact okX_fi hX hi hg.symm
theorem fi_ge {L T K F S B : N2I} {n i : Nat} (hX : okX K F S B n) (hi : i ≤ n) : fiR (cRec L T K F S B i) = -1 ∨ 0 ≤ fiR (cRec L T K F S B i) := by
  have h9 := mRec_inv (L := L) (T := T) (B := B) (U := fun _ => 0) hX.1 hX.2.1 i hi
  have hn := hX.1
  obtain ⟨j, q, x, -, -, h3, -, -, -, -, h8, h10⟩ := h9
  rcases Nat.eq_zero_or_pos x with h | h
  · exact Or.inl (h8 h)
  · obtain ⟨y, hy, e⟩ := h10 h
    exact Or.inr (by show (0 : Int32) ≤ (mRec L T K F S B (fun _ => 0) i).2.2.2.2.2.2.1; rw [e]; exact le_nI (by omega))
theorem fi_a {L T K F S B : N2I} {n k : Nat} {fi0 : Int32} (hX : okX K F S B n) (hk : k - 1 < n) (h : fi0 = fiR (cRec L T K F S B (k - 1))) (c : 0 ≤ fi0) : fi0 = fiR (cRec L T K F S B (k - 1 + 1)) := by
  rw [fi_upd]
  split
  · rw [if_neg (fun e => by
      have e2 := (fi_ii (L := L) (T := T) hX (show k - 1 ≤ n by omega)).mp e
      rw [h, e2] at c; exact absurd c (by decide))]
    exact h
  · exact h
theorem fi_b {L T K F S B : N2I} {n k : Nat} {fi0 : Int32} (_ : okX K F S B n) (_ : k - 1 < n) (h : fi0 = fiR (cRec L T K F S B (k - 1))) (c : ¬ B (k - 1) = 0) : fi0 = fiR (cRec L T K F S B (k - 1 + 1)) := by
  rw [fi_upd, if_neg (fun e => c e.1)]; exact h
theorem fi_c {L T K F S B : N2I} {n k : Nat} {fi0 : Int32} (_ : okX K F S B n) (_ : k - 1 < n) (h : fi0 = fiR (cRec L T K F S B (k - 1))) (_ : B (k - 1) = 0) (c : ¬ aLast L T K F S B (k - 1 + 1) = 0) : fi0 = fiR (cRec L T K F S B (k - 1 + 1)) := by
  rw [fi_upd, if_neg (fun e => c (if_pos e.2))]; exact h
theorem fi_d {L T K F S B : N2I} {n k : Nat} {fi0 : Int32} (hX : okX K F S B n) (hk : k - 1 < n) (h : fi0 = fiR (cRec L T K F S B (k - 1))) (c0 : ¬ 0 ≤ fi0) (c : B (k - 1) = 0) (c2 : aLast L T K F S B (k - 1 + 1) = 0) : nI (k - 1) = fiR (cRec L T K F S B (k - 1 + 1)) := by
  have h0 : aCnt L T K F S B (k - 1) = 0 := by
    by_cases e : aCnt L T K F S B (k - 1) = 0
    · exact e
    · exact absurd ((if_neg e).symm.trans c2) (by decide)
  have h1 : fiR (cRec L T K F S B (k - 1)) = -1 := (fi_ge hX (show k - 1 ≤ n by omega)).resolve_right (fun e => c0 (by rw [h]; exact e))
  rw [fi_upd, if_pos ⟨c, h0⟩, if_pos ((fi_ii hX (by omega)).mpr h1)]
theorem cnt_ok {L T K F S B : N2I} {n j : Nat} {xc xp xs xn xi fi fe fi0 fe0 : Int32} {U : N2I} (hX : okX K F S B n) (e : (xc, xp, xs, nI j, xn, xi, fi, fe, U) = cRec L T K F S B n) (hfi : fi0 = fiR (cRec L T K F S B n)) (hfe : fe0 = feR (cRec L T K F S B n)) : ∀ w, w < 6 → aCount n (nI w) (cRec L T K F S B n) = (upd (upd (upd (upd (upd (upd (fun _ => 0) 0 (nI n)) 1 (nI (cS B n))) 2 xn) 3 xc) 4 fi0) 5 fe0) w := by
  intro w hw
  have hn := hX.1
  obtain ⟨c9, y9, h1, h2, h3⟩ := cnt3 (L := L) (T := T) (K := K) (F := F) (S := S) (B := B) n
  rw [← e] at h1 h2 hfi hfe ⊢
  dsimp only at h1 h2
  subst h1; subst h2
  have c : w = 0 ∨ w = 1 ∨ w = 2 ∨ w = 3 ∨ w = 4 ∨ w = 5 := by omega
  rcases c with rfl | rfl | rfl | rfl | rfl | rfl
  · rfl
  · show nI n - nI c9 - nI y9 = nI (cS B n)
    rw [pk_sub (by omega), pk_sub (by omega)]
    congr 1
    omega
  · rfl
  · rfl
  · exact hfi.symm
  · exact hfe.symm
theorem mean_0 {L T K F S B : N2I} {n j : Nat} {xc xp xs xn xi fi fe : Int32} {U : N2I} (e : (xc, xp, xs, nI j, xn, xi, fi, fe, U) = cRec L T K F S B n) (c : nI j = 0) : aMean (cRec L T K F S B n) = FP.dconst0 := by
  rw [← e]; exact if_pos c
theorem mean_1 {L T K F S B : N2I} {n j : Nat} {xc xp xs xn xi fi fe : Int32} {U : N2I} (e : (xc, xp, xs, nI j, xn, xi, fi, fe, U) = cRec L T K F S B n) (hj : j ≤ 6) (c : ¬ nI j = 0) : aMean (cRec L T K F S B n) = FP.ddiv (FP.i2d (mSum U j)) (FP.i2d (nI j)) := by
  rw [← e]
  refine (if_neg c).trans ?_
  rw [nI_clamp (by omega)]
theorem dc_0 : Op.cmpValue (FP.dcmp FP.dconst0 FP.dconst0) .l = 0 := by decide +kernel
theorem dc_1 (x j : Int32) (hj : ¬ j = 0) : Op.cmpValue (FP.dcmp (FP.ddiv (FP.i2d x) (FP.i2d j)) (FP.ddiv (FP.i2d x) (FP.i2d j))) .l = 0 := by
  have h := Jvm.FP.Core.ddiv_out (Jvm.FP.Core.DFin.notNaN (Jvm.FP.Core.i2d_fin x)) (Jvm.FP.Core.i2d_fin j) (fun z => Jvm.FP.Core.i2d_ne_zero hj ((Jvm.FP.Core.zero_bits2 _).mp z))
  have h2 := Jvm.FP.Core.dcmp_self ((Jvm.FP.Core.notNaN_iff _).mp h)
  show Op.cmpValue (Jvm.FP.Core.dcmp (Jvm.FP.Core.ddiv (Jvm.FP.Core.i2d x) (Jvm.FP.Core.i2d j)) (Jvm.FP.Core.ddiv (Jvm.FP.Core.i2d x) (Jvm.FP.Core.i2d j))) .l = 0
  rw [h2]
  rfl
