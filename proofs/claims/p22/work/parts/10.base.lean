/-! the common words of the contracts: what holds before, and how a call hands it on -/
def pc_ (D : va_G) (tys : List (ClassId × FieldType)) (ws : va_W) (sz : Nat) (U : State) : Prop := U.heap.size = sz ∧ va_P D vwCl ws U.heap ∧ va_K D vwCl tys U ∧ va_D (fun _ => True) ws
theorem pc_blind {av : List Value} {D : va_G} {tys : List (ClassId × FieldType)} {ws : va_W} {sz : Nat} : FrameBlind (va_Pc av (pc_ D tys ws sz)) := fun a U g mk q => by
  obtain ⟨q0, q1, qP, qK, qD⟩ := q
  exact ⟨q0, q1, qP, va_K.moved (u := U) (U := U.calling g mk a) (Vm.Alike.refl U.vm) qK, qD⟩
theorem pc_mk {s : State} {H : Heap} {D : va_G} {tys : List (ClassId × FieldType)} {wc : va_W} {A : Nat → Prop} {av : List Value} (hK : va_K D vwCl tys s) (hP : va_P D vwCl wc H) (hD : va_D A wc) : ∀ U : State, U.heap = H → s.WarmedH U.vm → va_Pc av (pc_ D tys wc H.size) av.toArray U := fun U hU hW => ⟨rfl, by rw [hU], by rw [hU]; exact hP, va_K.moved hW.alike hK, hD.weaken (fun _ _ _ _ => trivial)⟩
theorem pc_S {s : State} {H : Heap} {D : va_G} {tys : List (ClassId × FieldType)} {wc : va_W} {A : Nat → Prop} {av : List Value} (hK : va_K D vwCl tys s) (hP : va_P D vwCl wc H) (hD : va_D A wc) : PreS s H (va_Pc av (pc_ D tys wc H.size)) av := ⟨pc_blind, pc_mk hK hP hD⟩
theorem pc_V {s : State} {H : Heap} {D : va_G} {tys : List (ClassId × FieldType)} {wc : va_W} {A : Nat → Prop} {a : Nat} {As : List Value} (hK : va_K D vwCl tys s) (hP : va_P D vwCl wc H) (hD : va_D A wc) {ci q0 N : Nat} {C : String} {T : u_T} {fs : List Value} (hc : vwCl[ci]? = some (C, T, N)) (he : wc[q0]? = some (a, .inr (ci, fs))) : PreV s H C a (va_Pc (.ref a :: As) (pc_ D tys wc H.size)) As := ⟨pc_blind, va_recv hK hP hc he, pc_mk hK hP hD⟩
/-! the words that link nest mates -/
def nw_all : List Cond := [.fieldLinkNest RX1 42 "KnifeLedger$Reckoning" "lights" "[I" "KnifeLedger", .fieldLinkNest RX1 45 "KnifeLedger$Reckoning" "trembles" "[I" "KnifeLedger", .fieldLinkNest RX1 94 "KnifeLedger$Reckoning" "trusts" "[I" "KnifeLedger", .fieldLinkNest RX1 69 "KnifeLedger$Reckoning" "coins" "I" "KnifeLedger", .fieldLinkNest RX1 72 "KnifeLedger$Reckoning" "plasters" "I" "KnifeLedger", .fieldLinkNest RX1 75 "KnifeLedger$Reckoning" "stage" "I" "KnifeLedger", .fieldLinkNest RX1 78 "KnifeLedger$Reckoning" "joined" "I" "KnifeLedger", .fieldLinkNest RX1 85 "KnifeLedger$Reckoning" "counting" "I" "KnifeLedger", .fieldLinkNest RX1 88 "KnifeLedger$Reckoning" "idle" "I" "KnifeLedger", .fieldLinkNest RX1 97 "KnifeLedger$Reckoning" "firstIdle" "I" "KnifeLedger", .fieldLinkNest RX1 100 "KnifeLedger$Reckoning" "fewestCoins" "I" "KnifeLedger", .methodLinkNest RX1 29 yX0_init "KnifeLedger", .methodLinkNest RX1 146 yX0_begin "KnifeLedger", .methodLinkNest RX1 149 yX0_happens "KnifeLedger", .methodLinkNest RX1 153 yX0_tally "KnifeLedger", .methodLinkNest RX1 81 yX0_trustOfAll "KnifeLedger", .methodLinkNest RX1 91 yX0_hasJoined "KnifeLedger", .methodLinkNest RL 76 yX2_init "KnifeLedgerLaw"]
def nw_ (U : State) : Prop := ∀ w ∈ nw_all, va_Nw w U
theorem nw_tab : ∀ w ∈ nw_all, w.onTables = true := by decide +kernel
set_option maxRecDepth 20000 in
theorem nw_warm {s U : State} (hW : s.WarmedH U.vm) (h : nw_ s) : nw_ U := by
  unfold nw_ nw_all
  exact List.forall_mem_cons.mpr ⟨va_Nw.warmF hW (h _ (by decide +kernel)), List.forall_mem_cons.mpr ⟨va_Nw.warmF hW (h _ (by decide +kernel)), List.forall_mem_cons.mpr ⟨va_Nw.warmF hW (h _ (by decide +kernel)), List.forall_mem_cons.mpr ⟨va_Nw.warmF hW (h _ (by decide +kernel)), List.forall_mem_cons.mpr ⟨va_Nw.warmF hW (h _ (by decide +kernel)), List.forall_mem_cons.mpr ⟨va_Nw.warmF hW (h _ (by decide +kernel)), List.forall_mem_cons.mpr ⟨va_Nw.warmF hW (h _ (by decide +kernel)), List.forall_mem_cons.mpr ⟨va_Nw.warmF hW (h _ (by decide +kernel)), List.forall_mem_cons.mpr ⟨va_Nw.warmF hW (h _ (by decide +kernel)), List.forall_mem_cons.mpr ⟨va_Nw.warmF hW (h _ (by decide +kernel)), List.forall_mem_cons.mpr ⟨va_Nw.warmF hW (h _ (by decide +kernel)), List.forall_mem_cons.mpr ⟨va_Nw.warmM hW (h _ (by decide +kernel)), List.forall_mem_cons.mpr ⟨va_Nw.warmM hW (h _ (by decide +kernel)), List.forall_mem_cons.mpr ⟨va_Nw.warmM hW (h _ (by decide +kernel)), List.forall_mem_cons.mpr ⟨va_Nw.warmM hW (h _ (by decide +kernel)), List.forall_mem_cons.mpr ⟨va_Nw.warmM hW (h _ (by decide +kernel)), List.forall_mem_cons.mpr ⟨va_Nw.warmM hW (h _ (by decide +kernel)), List.forall_mem_cons.mpr ⟨va_Nw.warmM hW (h _ (by decide +kernel)), fun _ h => absurd h List.not_mem_nil⟩⟩⟩⟩⟩⟩⟩⟩⟩⟩⟩⟩⟩⟩⟩⟩⟩⟩
theorem nw_use {U : State} {A : Array Value} {w : Cond} (h : nw_ U) (hw : w ∈ nw_all) : w.before A U = true := va_Nw.use (nw_tab w hw) (h w hw)
theorem nw_use0 {U : State} {w : Cond} (h : nw_ U) (hw : w ∈ nw_all) : va_Nw w U := h w hw
def pn_ (D : va_G) (tys : List (ClassId × FieldType)) (ws : va_W) (sz : Nat) (U : State) : Prop := U.heap.size = sz ∧ va_P D vwCl ws U.heap ∧ va_K D vwCl tys U ∧ va_D (fun _ => True) ws ∧ nw_ U
theorem pn_blind {av : List Value} {D : va_G} {tys : List (ClassId × FieldType)} {ws : va_W} {sz : Nat} : FrameBlind (va_Pc av (pn_ D tys ws sz)) := fun a U g mk q => by
  obtain ⟨q0, q1, qP, qK, qD, qN⟩ := q
  exact ⟨q0, q1, qP, va_K.moved (u := U) (U := U.calling g mk a) (Vm.Alike.refl U.vm) qK, qD, fun w hw => va_Nw.same (u := U) (U := U.calling g mk a) (nw_tab w hw) rfl (qN w hw)⟩
theorem pn_mk {s : State} {H : Heap} {D : va_G} {tys : List (ClassId × FieldType)} {wc : va_W} {A : Nat → Prop} {av : List Value} (hN : nw_ s) (hK : va_K D vwCl tys s) (hP : va_P D vwCl wc H) (hD : va_D A wc) : ∀ U : State, U.heap = H → s.WarmedH U.vm → va_Pc av (pn_ D tys wc H.size) av.toArray U := fun U hU hW => ⟨rfl, by rw [hU], by rw [hU]; exact hP, va_K.moved hW.alike hK, hD.weaken (fun _ _ _ _ => trivial), nw_warm hW hN⟩
theorem pn_S {s : State} {H : Heap} {D : va_G} {tys : List (ClassId × FieldType)} {wc : va_W} {A : Nat → Prop} {av : List Value} (hN : nw_ s) (hK : va_K D vwCl tys s) (hP : va_P D vwCl wc H) (hD : va_D A wc) : PreS s H (va_Pc av (pn_ D tys wc H.size)) av := ⟨pn_blind, pn_mk hN hK hP hD⟩
theorem pn_V {s : State} {H : Heap} {D : va_G} {tys : List (ClassId × FieldType)} {wc : va_W} {A : Nat → Prop} {a : Nat} {As : List Value} (hN : nw_ s) (hK : va_K D vwCl tys s) (hP : va_P D vwCl wc H) (hD : va_D A wc) {ci q0 N : Nat} {C : String} {T : u_T} {fs : List Value} (hc : vwCl[ci]? = some (C, T, N)) (he : wc[q0]? = some (a, .inr (ci, fs))) : PreV s H C a (va_Pc (.ref a :: As) (pn_ D tys wc H.size)) As := ⟨pn_blind, va_recv hK hP hc he, pn_mk hN hK hP hD⟩
/-! what the two programs reckon, as pure functions over whole numbers of 32 bits -/
theorem sw_out5 {k : Int32} (h0 : ¬ k = 0) (h1 : ¬ k = 1) (h2 : ¬ k = 2) (h3 : ¬ k = 3) (h4 : ¬ k = 4) : k.toInt < 0 ∨ 4 < k.toInt := by
  by_cases h : k.toInt < 0 ∨ 4 < k.toInt
  · exact h
  · exfalso
    have e : k.toInt = 0 ∨ k.toInt = 1 ∨ k.toInt = 2 ∨ k.toInt = 3 ∨ k.toInt = 4 := by omega
    rcases e with e | e | e | e | e
    · exact h0 (Int32.toInt_inj.mp e)
    · exact h1 (Int32.toInt_inj.mp e)
    · exact h2 (Int32.toInt_inj.mp e)
    · exact h3 (Int32.toInt_inj.mp e)
    · exact h4 (Int32.toInt_inj.mp e)
def kmin (x y : Int32) : Int32 := if y < x then y else x
def kmax (x y : Int32) : Int32 := if x < y then y else x
abbrev N2I : Type := Nat → Int32
abbrev T5 : Type := Int32 × Int32 × Int32 × Int32 × N2I
abbrev T9 : Type := Int32 × Int32 × Int32 × Int32 × Int32 × Int32 × Int32 × Int32 × N2I
def mAdd (U : N2I) (p by_ : Int32) : N2I := upd U p.toNatClampNeg (kmax 0 (kmin 100 (U p.toNatClampNeg + by_)))
def mJd (jo p : Int32) : Int32 := if jo ≤ p then 0 else 1
def mCan (T : N2I) (st jo : Int32) (U : N2I) (p : Int32) : Int32 := if mJd jo p = 0 then 0 else if U p.toNatClampNeg < 20 + T st.toNatClampNeg then 0 else 1
def mTak (L : N2I) (st th : Int32) : Int32 := if th = 0 then 0 else if 3 < th then (if 9 < th then 1 else 5 + L st.toNatClampNeg / 2) else 12 + L st.toNatClampNeg
def mScr (pl : Int32) (U : N2I) (p : Int32) : Int32 × N2I := if pl ≤ 0 then (pl, mAdd U p (-60)) else (pl - 1, mAdd U p (-30))
def mToss (L T : N2I) (co pl st jo : Int32) (U : N2I) (p th : Int32) : Int32 × T5 :=
  if mCan T st jo U p = 0 then (0, co, pl, st, jo, U)
  else if th = 0 then (1, co + mTak L st th, (mScr pl U p).1, st, jo, (mScr pl U p).2)
  else if 3 < th then (if 9 < th then (1, co + mTak L st th, pl, st, jo, mAdd U p 3) else (1, co + mTak L st th, pl, st, jo, mAdd U p 1))
  else (1, co + mTak L st th, pl, st, jo, mAdd U p (-4))
def mJoin (co pl st jo : Int32) (U : N2I) (a : Int32) : Int32 × T5 := if jo < 6 then (1, co, pl, st, jo + 1, upd U jo.toNatClampNeg a) else (0, co, pl, st, jo, U)
def mRest (co pl st jo : Int32) (U : N2I) (p : Int32) : Int32 × T5 := if mJd jo p = 0 then (0, co, pl, st, jo, U) else (1, co, pl, st, jo, mAdd U p 6)
def mPay (co pl st jo : Int32) (U : N2I) (p b : Int32) : Int32 × T5 := if mJd jo p = 0 then (0, co, pl, st, jo, U) else if b ≤ co then (1, co - b, pl, st, jo, mAdd U p (b / 3)) else (0, co, pl, st, jo, U)
def mBuy (co pl st jo : Int32) (U : N2I) (b : Int32) : Int32 × T5 := if 2 * b ≤ co then (1, co - 2 * b, pl + b, st, jo, U) else (0, co, pl, st, jo, U)
def mHap (L T : N2I) (k a b co pl st jo : Int32) (U : N2I) : Int32 × T5 :=
  if k = 0 then mJoin co pl st jo U a else if k = 1 then mToss L T co pl st jo U a b else if k = 2 then mRest co pl st jo U a
  else if k = 3 then (1, co, pl, a, jo, U) else if k = 4 then mPay co pl st jo U a b else mBuy co pl st jo U a
def mFin (e cn id fi fe : Int32) (h : Int32 × T5) : T9 := match h with
  | (r, co, pl, st, jo, U) => if r = 0 then (co, pl, st, jo, cn, id + 1, (if id = 0 then e else fi), fe, U) else (co, pl, st, jo, cn + 1, id, fi, kmin fe co, U)
def mStep (L T : N2I) (e k a b co pl st jo cn id fi fe : Int32) (U : N2I) : T9 := mFin e cn id fi fe (mHap L T k a b co pl st jo U)
def mStep9 (L T : N2I) (e k a b : Int32) (s : T9) : T9 := match s with
  | (co, pl, st, jo, cn, id, fi, fe, U) => mStep L T e k a b co pl st jo cn id fi fe U
def mRec (L T K F S B : N2I) (U : N2I) : Nat → T9
  | 0 => (10, 0, 0, 0, 0, 0, -1, 10, U)
  | e + 1 => if B e = 0 then mStep9 L T (nI e) (K e) (F e) (S e) (mRec L T K F S B U e) else mRec L T K F S B U e
def mTm (pl th : Int32) : Int32 := if th = 0 then (if pl ≤ 0 then -60 else -30) else if 3 < th then (if 9 < th then 3 else 1) else -4
def mTal (e r co cn id fi fe : Int32) : Int32 × Int32 × Int32 × Int32 := if r = 0 then (cn, id + 1, (if id = 0 then e else fi), fe) else (cn + 1, id, fi, kmin fe co)
theorem mToss_eq {L T : N2I} {co pl st jo : Int32} {U : N2I} {p th : Int32} (h : ¬ mCan T st jo U p = 0) : mToss L T co pl st jo U p th = (1, co + mTak L st th, (if th = 0 then (if pl ≤ 0 then pl else pl - 1) else pl), st, jo, mAdd U p (mTm pl th)) := by
  unfold mToss mTm mScr
  rw [if_neg h]
  repeat' split
  all_goals rfl
theorem mStep_of {L T : N2I} {e k a b co pl st jo cn ii fi fe : Int32} {U : N2I} {r co1 pl1 st1 jo1 cn1 ii1 fi1 fe1 : Int32} {U1 : N2I} (h : (r, co1, pl1, st1, jo1, U1) = mHap L T k a b co pl st jo U) (h2 : (cn1, ii1, fi1, fe1) = mTal e r co1 cn ii fi fe) : (co1, pl1, st1, jo1, cn1, ii1, fi1, fe1, U1) = mStep L T e k a b co pl st jo cn ii fi fe U := by
  unfold mStep
  rw [← h]
  unfold mFin
  unfold mTal at h2
  dsimp only
  by_cases hr : r = 0
  · rw [if_pos hr] at h2 ⊢; cases h2; rfl
  · rw [if_neg hr] at h2 ⊢; cases h2; rfl
theorem mJoin_01 (co pl st jo : Int32) (U : N2I) (a : Int32) : (mJoin co pl st jo U a).1 = 0 ∨ (mJoin co pl st jo U a).1 = 1 := by
  unfold mJoin; repeat' split
  all_goals first | exact Or.inl rfl | exact Or.inr rfl
theorem mToss_01 (L T : N2I) (co pl st jo : Int32) (U : N2I) (p th : Int32) : (mToss L T co pl st jo U p th).1 = 0 ∨ (mToss L T co pl st jo U p th).1 = 1 := by
  unfold mToss; repeat' split
  all_goals first | exact Or.inl rfl | exact Or.inr rfl
theorem mRest_01 (co pl st jo : Int32) (U : N2I) (a : Int32) : (mRest co pl st jo U a).1 = 0 ∨ (mRest co pl st jo U a).1 = 1 := by
  unfold mRest; repeat' split
  all_goals first | exact Or.inl rfl | exact Or.inr rfl
theorem mPay_01 (co pl st jo : Int32) (U : N2I) (a b : Int32) : (mPay co pl st jo U a b).1 = 0 ∨ (mPay co pl st jo U a b).1 = 1 := by
  unfold mPay; repeat' split
  all_goals first | exact Or.inl rfl | exact Or.inr rfl
theorem mBuy_01 (co pl st jo : Int32) (U : N2I) (a : Int32) : (mBuy co pl st jo U a).1 = 0 ∨ (mBuy co pl st jo U a).1 = 1 := by
  unfold mBuy; repeat' split
  all_goals first | exact Or.inl rfl | exact Or.inr rfl
/-- what holds of an entry that was written -/
def okE (k a b : Int32) : Prop := (k = 3 → vp_in a 4) ∧ (k = 1 ∨ k = 2 ∨ k = 4 → vp_in a 6) ∧ (k = 1 → vp_in b 21) ∧ (¬ k = 0 → ¬ k = 1 → ¬ k = 2 → ¬ k = 3 → ¬ k = 4 → vp_in a 21)
def mSum (U : N2I) : Nat → Int32
  | 0 => 0
  | j + 1 => mSum U j + U j
theorem mCan_01 (T : N2I) (st jo : Int32) (U : N2I) (p : Int32) : mCan T st jo U p = 0 ∨ mCan T st jo U p = 1 := by
  unfold mCan; split
  · exact Or.inl rfl
  · split
    · exact Or.inl rfl
    · exact Or.inr rfl
theorem mJd_01 (jo p : Int32) : mJd jo p = 0 ∨ mJd jo p = 1 := by
  unfold mJd; split
  · exact Or.inl rfl
  · exact Or.inr rfl
theorem nz_01 {r : Int32} (h : r = 0 ∨ r = 1) : narrow .boolean (.int r) = .int r := by rcases h with rfl | rfl <;> rfl
theorem mHap_01 (L T : N2I) (k a b co pl st jo : Int32) (U : N2I) : (mHap L T k a b co pl st jo U).1 = 0 ∨ (mHap L T k a b co pl st jo U).1 = 1 := by
  unfold mHap mJoin mToss mRest mPay mBuy
  repeat' split
  all_goals first | exact Or.inl rfl | exact Or.inr rfl

theorem arr_same {D : va_G} {cl : List vw_C} {tys : List (ClassId × FieldType)} {U : State} (h : va_K D cl tys U) (i j : Nat) {a b : ClassId} {ty : FieldType} (hi : tys[i]? = some (a, ty)) (hj : tys[j]? = some (b, ty)) : a = b := by
  have h1 := (h.2 i _ hi).2
  have h2 := (h.2 j _ hj).2
  cases ty with
  | object C =>
    obtain ⟨_, _, _, _, _, e1⟩ := h1
    obtain ⟨_, _, _, _, _, e2⟩ := h2
    exact Option.some.inj (e1.symm.trans e2)
  | _ => exact Option.some.inj (h1.symm.trans h2)

