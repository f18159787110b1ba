/-! the law's own callers: all that they want of the start -/
def nc_ (U : State) : Prop := va_Nc E_i E_a U ∧ va_Nc E_i E_s U ∧ va_Nc E_a E_i U ∧ va_Nc E_a E_s U ∧ va_Nc E_s E_i U ∧ va_Nc E_s E_a U
theorem nc_moved {u U : State} (hvm : u.vm.Alike U.vm) (h : nc_ u) : nc_ U := ⟨h.1.moved hvm, h.2.1.moved hvm, h.2.2.1.moved hvm, h.2.2.2.1.moved hvm, h.2.2.2.2.1.moved hvm, h.2.2.2.2.2.moved hvm⟩
def pw_ (a1 a2 a3 a4 : Nat) (D : va_G) (tys : List (ClassId × FieldType)) (ws : va_W) (sz : Nat) (U : State) : Prop := U.heap.size = sz ∧ va_P D vwCl ws U.heap ∧ va_K D vwCl tys U ∧ va_D (fun _ => True) ws ∧ nw_ U ∧ zz_ (va_A ws sz) U U.heap ∧ str_ a1 a2 a3 a4 U ∧ bw_ U ∧ nc_ U
theorem pw_blind {a1 a2 a3 a4 : Nat} {av : List Value} {D : va_G} {tys : List (ClassId × FieldType)} {ws : va_W} {sz : Nat} : FrameBlind (va_Pc av (pw_ a1 a2 a3 a4 D tys ws sz)) := fun a U g mk q => by
  obtain ⟨q0, q1, qP, qK, qD, qN, qZ, qS, qB, qC⟩ := q
  exact ⟨q0, q1, qP, va_K.moved (u := U) (U := U.calling g mk a) (Vm.Alike.refl U.vm) qK, qD, fun w hw => va_Nw.same (u := U) (U := U.calling g mk a) (nw_tab w hw) rfl (qN w hw), ⟨vx_Zq.moved (u := U) (U := U.calling g mk a) (Vm.Alike.refl U.vm) qZ.1, vx_Zq.moved (u := U) (U := U.calling g mk a) (Vm.Alike.refl U.vm) qZ.2⟩, ⟨vk_R.same (u := U) (U := U.calling g mk a) rfl qS.1, vk_R.same (u := U) (U := U.calling g mk a) rfl qS.2.1, vk_R.same (u := U) (U := U.calling g mk a) rfl qS.2.2.1, vk_R.same (u := U) (U := U.calling g mk a) rfl qS.2.2.2⟩, fun w hw => va_Nw.same (u := U) (U := U.calling g mk a) (bw_tab w hw) rfl (qB w hw), nc_moved (u := U) (U := U.calling g mk a) (Vm.Alike.refl U.vm) qC⟩
theorem pw_S {a1 a2 a3 a4 : Nat} {s : State} {H : Heap} {locs : List Loc} {D : va_G} {tys : List (ClassId × FieldType)} {wc : va_W} {A : Nat → Prop} {av : List Value} (hN : nw_ s) (hZ : zz_ A s s.heap) (hT : str_ a1 a2 a3 a4 s) (hW9 : bw_ s) (hC : nc_ s) (hS : va_S A s.heap H locs) (hF : ∀ q, va_A wc H.size q → A q) (hK : va_K D vwCl tys s) (hP : va_P D vwCl wc H) (hD : va_D A wc) : PreS s H (va_Pc av (pw_ a1 a2 a3 a4 D tys wc H.size)) av := ⟨pw_blind, fun U hU hW => ⟨rfl, by rw [hU], by rw [hU]; exact hP, va_K.moved hW.alike hK, hD.weaken (fun _ _ _ _ => trivial), nw_warm hW hN, zz_mk hZ hS hF hU hW, str_warm hW hT, bw_warm hW hW9, nc_moved hW.alike hC⟩⟩
theorem lt3 {a : Int32} : 3 < a ↔ 4 ≤ a := by
  rw [Int32.le_iff_toInt_le, Int32.lt_iff_toInt_lt, show (4 : Int32).toInt = 4 from rfl, show (3 : Int32).toInt = 3 from rfl]; omega
theorem lt4 {a : Int32} : 4 < a ↔ 5 ≤ a := by
  rw [Int32.le_iff_toInt_le, Int32.lt_iff_toInt_lt, show (4 : Int32).toInt = 4 from rfl, show (5 : Int32).toInt = 5 from rfl]; omega
theorem lt5 {a : Int32} : 5 < a ↔ 6 ≤ a := by
  rw [Int32.le_iff_toInt_le, Int32.lt_iff_toInt_lt, show (6 : Int32).toInt = 6 from rfl, show (5 : Int32).toInt = 5 from rfl]; omega
theorem lt6 {a : Int32} : 6 < a ↔ 7 ≤ a := by
  rw [Int32.le_iff_toInt_le, Int32.lt_iff_toInt_lt, show (6 : Int32).toInt = 6 from rfl, show (7 : Int32).toInt = 7 from rfl]; omega
