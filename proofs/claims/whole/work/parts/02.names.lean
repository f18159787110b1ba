/-! ===== BEGIN words of one list among another's, by their places ===== -/
theorem goodIn_r {big : List Cond} (ws : List Cond) (ps : List Nat) (hp : ws = ps.filterMap (fun i => big[i]?)) (h : ws.all goodWord = true) : GoodIn big ws := by
  intro w hw
  have h1 := List.all_eq_true.mp h w hw
  rw [hp] at hw
  obtain ⟨i, -, hi⟩ := List.mem_filterMap.mp hw
  have hm : w ∈ big := by first | exact List.mem_of_getElem? hi | exact List.getElem?_mem hi
  exact ⟨hm, good_of_word h1⟩
theorem goodIn_app {big a b : List Cond} (ha : GoodIn big a) (hb : GoodIn big b) : GoodIn big (a ++ b) := fun w h => (List.mem_append.mp h).elim (ha w) (hb w)
theorem goodIn_ca {big a b : List Cond} {c : Cond} (ha : GoodIn big (c :: a)) (hb : GoodIn big b) : GoodIn big (c :: (a ++ b)) := fun w h => (List.mem_cons.mp h).elim (fun e => ha w (List.mem_cons.mpr (Or.inl e))) (fun h => (List.mem_append.mp h).elim (fun h => ha w (List.mem_cons.mpr (Or.inr h))) (hb w))
theorem goodIn_sub {big ws : List Cond} (hm : ∀ w ∈ ws, w ∈ big) (h : ws.all goodWord = true) : GoodIn big ws := fun w hw => ⟨hm w hw, good_of_word (List.all_eq_true.mp h w hw)⟩
/-! ===== END ===== -/

/-! ===== BEGIN exceptions that leave a method, and their catching by the caller (launches without stack traces) ===== -/
section VXA
/-! The laws vx_back, vx_callV, vx_callS, vx_callSW, vx_throw0, vx_throwS follow proofs of the library, with one case more: JvmDerived/Free/Laws.lean (Back.of_free), Shelf42/LK1.lean (callV, callS), Shelf/KitTraced.lean (throwNew0V, throwNewS). -/
/-- where a method has thrown q: the class by its name, the cell, what was written, the world -/
def vx_T (XC : String → State → State → Prop) (st : State) (q : Addr) (t : State) (mc ms : Nat) (free : Addr → Prop) : Prop :=
  ∃ (E : String) (ce : Cell) (L : List Loc), XC E st t ∧ t.heap[q]? = some ce ∧ ce.vm = .none ∧ st.vm.findClass E = some ce.cls ∧ st.WarmedH t.vm ∧ st.sameButNew ({ t with vm := st.vm } : State) L mc ms ∧ ∀ z ∈ L, free z.base
def vx_Q (Qc : Array Value → State → Outcome → State → Prop) (XC : String → State → State → Prop) (mc ms : Nat) (free : Addr → Prop) : Array Value → State → Outcome → State → Prop := fun a st o t =>
  (Qc a st o t ∧ ∃ L, FrameEnd st o t L mc ms ∧ ∀ q ∈ L, free q.base) ∨ ∃ q, o = .threw q ∧ vx_T XC st q t mc ms free
/-- a callee that returns or throws -/
def vx_Met (l : Launch) (y : MethodName) (ws : List Cond) (rm : Room) (Pc : Array Value → State → Prop) (Qc : Array Value → State → Outcome → State → Prop) (XC : String → State → State → Prop) (mc ms : Nat) (free : Addr → Prop) : Prop :=
  MetFree l y (headSpec ws rm) Pc (fun _ _ _ _ _ => True) (vx_Q Qc XC mc ms free)
def vx_Post (XC : String → State → State → Prop) (mc ms : Nat) (free : Addr → Prop) : Pt → Array Value → Addr → Pt → Prop := fun A a q B =>
  ∃ (g : JFrame) (mk : MethodId) (t : State) (L : List Loc) (E : String) (ce : Cell), B.U.heap = t.heap ∧ B.U.vm = t.vm ∧ XC E (A.U.calling g mk a) t ∧ t.heap[q]? = some ce ∧ ce.vm = .none ∧ A.U.vm.findClass E = some ce.cls ∧ B.locs = A.locs ++ L ∧ (∀ z ∈ L, free z.base) ∧ B.cells = A.cells + mc ∧ B.slots = A.slots + ms
def vx_Back (l : Launch) (R : Room) (p : Program) (e : Env) (below : List Frame) (s : State) (sargs : Array Value) (y : MethodName) (len W9 : Nat)
    (Pre : Pt → Array Value → Prop) (Post : Pt → Array Value → Option Value → Pt → Prop) (PostX : Pt → Array Value → Addr → Pt → Prop) : Prop :=
  ∀ (m : MethodId) (meth : Method) (c : Code) (A : Pt) (g : JFrame) (ig : Instr) (mk : MethodId) (a : Array Value),
    Stand p l e R s m sargs below meth c A.U A.locs A.cells A.slots → g.method = m → g.locals.size = c.maxLocals → decode c.code g.pc = .ok (ig, len) →
    2 * g.monitorRoom + (g.stack.map fun v => v.category).sum ≤ W9 → A.U.methodNamed? y = some mk → Pre A a →
    (∃ (v : Option Value) (B : Pt), Stand p l e R s m sargs below meth c B.U B.locs B.cells B.slots ∧ Post A a v B ∧
      Steps p.tables e below (doInvoke e (A.U.setTop g) [] mk a).1 (B.U.setTop { g with pc := g.pc + len, stack := v.toList ++ g.stack })) ∨
    (∃ (q : Addr) (B : Pt), Stand p l e R s m sargs below meth c B.U B.locs B.cells B.slots ∧ PostX A a q B ∧
      Steps p.tables e below (doInvoke e (A.U.setTop g) [] mk a).1 ((B.U.setTop g).pushFrame (.throwing q)))
section Payer
variable {l : Launch} {R : Room} {p : Program} {e : Env} {below : List Frame} {s : State} {sargs : Array Value} {y : MethodName} {len W9 : Nat}
theorem vx_back {ws : List Cond} {rm : Room} {Pc : Array Value → State → Prop} {Qc : Array Value → State → Outcome → State → Prop} {XC : String → State → State → Prop} {mc ms : Nat} {free : Addr → Prop} {bytes : ByteArray} {maxL : Nat} {ret : Option FieldType}
    (hM : vx_Met l y ws rm Pc Qc XC mc ms free) (hblind : FrameBlind Pc) (hrc : rm.cells = mc) (hrs : rm.slots = ms)
    (hframes : rm.frames + 1 ≤ R.frames) (hlocals : W9 + (maxL + 11) + rm.locals ≤ R.locals)
    (hws : ∀ w ∈ ws, ∀ a' U, s.WarmedH U.vm → w.before a' U = true) (hcode : Cond.code y bytes maxL ret ∈ ws) (hinit : ∀ a' U, s.WarmedH U.vm → (Cond.initialized y.cls).before a' U = true) :
    vx_Back l R p e below s sargs y len W9 (PreOf R mc ms Pc) (PostOf Qc mc ms free) (vx_Post XC mc ms free) := by
  intro m meth c A g ig mk a X hg hsize hdg hW hn hp
  have h1 : (headSpec ws rm).pre.before a A.U = true := atoms_intro fun w hw => hws w hw _ _ X.warmed
  have h2 : (Cond.code y bytes maxL ret).before a A.U = true := hws _ hcode _ _ X.warmed
  have h3 : (Cond.initialized y.cls).before a A.U = true := hinit _ _ X.warmed
  have h4 : A.cells + (headSpec ws rm).room.cells ≤ R.cells := by rw [show (headSpec ws rm).room.cells = mc from hrc]; exact hp.1
  have h5 : A.slots + (headSpec ws rm).room.slots ≤ R.slots := by rw [show (headSpec ws rm).room.slots = ms from hrs]; exact hp.2.1
  have hPc : Pc a (A.U.calling g mk a) := hblind _ _ _ _ hp.2.2
  obtain ⟨U, Ls, c0, s0⟩ := A
  dsimp only [Pt.U, Pt.locs, Pt.cells, Pt.slots] at h1 h2 h3 h4 h5 X hn hPc ⊢
  obtain ⟨methY, cY, hmY, hcY, -, hlY, -, -, -, -⟩ := Cond.code_spec hn h2
  obtain ⟨kY, hkY, -⟩ := className_of_methodNamed hn
  have hinitY : kY.init = .initialized := Cond.initialized_spec (findClass_of_methodNamed hn) hkY h3
  have h : At U g.method c below := by rw [hg]; exact X.here
  have hlocals9 : W9 + (maxL + 11) + (headSpec ws rm).room.locals ≤ R.locals := hlocals
  have happ : (headSpec ws rm).appliesLoose y e.platform (U.calling g mk a) = true :=
    Spec.appliesLoose_calling (g := g) h hdg hn hkY hinitY
      (X.room_calling (g := g) (R' := (headSpec ws rm).room) hsize hmY hcY hframes (by rw [hlY]; omega) h4 h5) h1
  obtain ⟨mid, hmid⟩ := h.above
  have hfr : (U.setTop g).frames = (.java g :: mid) ++ below := by rw [State.frames_setTop' g h.top, hmid]; rfl
  obtain ⟨o, s₂, hsteps, -, hend, hq⟩ := Steps.callFree hM p X.admits X.cas X.clock (acts := []) hfr happ hPc trivial
  have hq' : vx_Q Qc XC mc ms free a (U.calling g mk a) o s₂ := hq
  rw [State.frames_setTop' g h.top] at hend
  obtain ⟨g₀, hg0⟩ := Option.isSome_iff_exists.mp h.top
  obtain ⟨r, hr⟩ := State.topJava?_eq_some.mp hg0
  have hr' : (({ U with heap := s₂.heap, slotsUsed := s₂.slotsUsed } : State).setVm s₂.vm).frames = .java g₀ :: r := hr
  rcases hq' with ⟨hqc, L, hfe, hL⟩ | ⟨q, rfl, E, ce, L, hx, hce, hcv, hcl, hW₂, hsm, hL⟩
  · obtain ⟨⟨v, rfl⟩, hW₂, e2, q2, q3, q4, q5, q6⟩ := id hfe
    have e3 : s₂ = ({ (U.calling g mk a).setFrames s₂.frames with heap := s₂.heap, slotsUsed := s₂.slotsUsed } : State).setVm s₂.vm := by
      have : s₂ = ({ s₂ with vm := (U.calling g mk a).vm } : State).setVm s₂.vm := rfl
      rw [e2] at this
      exact this
    obtain ⟨c₂, i₂, len₂, hc₂, hd₂, hf₂⟩ := hend
    have hW' : U.WarmedH s₂.vm := hW₂
    have hcc : c₂ = c := by
      have h1 : s₂.code? g.method = U.code? g.method := by
        rw [State.code?_eq, State.code?_eq, hW'.alike.method?]
      exact Option.some.inj (hc₂.symm.trans (h1.trans h.code))
    subst hcc
    have hlen : len₂ = len := by rw [hdg] at hd₂; cases hd₂; rfl
    subst hlen
    have hs₂ : s₂ = (({ U with heap := s₂.heap, slotsUsed := s₂.slotsUsed } : State).setVm s₂.vm).setTop { g with pc := g.pc + len₂, stack := v.toList ++ g.stack } := by
      refine e3.trans ?_
      rw [hf₂, State.calling_eq h.top, State.setFrames_setFrames, State.setTop_of_frames _ hr', hr]
      rfl
    have hsame : U.sameButNew ({ U with heap := s₂.heap, slotsUsed := s₂.slotsUsed } : State) L mc ms := by
      refine ⟨?_, q2, q3, q4, q5, q6⟩
      obtain ⟨t, ht, -⟩ := State.frames_cons hr
      show ({ U with heap := s₂.heap, slotsUsed := s₂.slotsUsed } : State) = { U.setFrames U.frames with heap := s₂.heap, slotsUsed := s₂.slotsUsed }
      rw [State.setFrames_self ht]
    subst hg
    refine Or.inl ⟨v, ⟨(({ U with heap := s₂.heap, slotsUsed := s₂.slotsUsed } : State).setVm s₂.vm), Ls ++ L, c0 + mc, s0 + ms⟩,
      ⟨X.admits, X.cas, X.clock, X.frames, X.room, X.hears, X.method, X.code, (X.here.setHeapUsed s₂.heap s₂.slotsUsed).setVm hW'.alike, X.tail, State.WarmedH.trans X.warmed hW', X.limits, X.bytes, X.same.trans (hsame.setVm s.vm)⟩,
      ⟨g, mk, s₂, L, rfl, rfl, hqc, rfl, hL, rfl, rfl⟩, ?_⟩
    show Steps p.tables e below _ ((({ U with heap := s₂.heap, slotsUsed := s₂.slotsUsed } : State).setVm s₂.vm).setTop { g with pc := g.pc + len₂, stack := v.toList ++ g.stack })
    rw [← hs₂]
    exact hsteps
  · obtain ⟨e2, q2, q3, q4, q5, q6⟩ := id hsm
    have e3 : s₂ = ({ (U.calling g mk a).setFrames s₂.frames with heap := s₂.heap, slotsUsed := s₂.slotsUsed } : State).setVm s₂.vm := by
      have : s₂ = ({ s₂ with vm := (U.calling g mk a).vm } : State).setVm s₂.vm := rfl
      rw [e2] at this
      exact this
    have hf₂ : s₂.frames = .throwing q :: .java g :: U.frames.tail := hend
    have hW' : U.WarmedH s₂.vm := hW₂
    have hs₂ : s₂ = ((({ U with heap := s₂.heap, slotsUsed := s₂.slotsUsed } : State).setVm s₂.vm).setTop g).pushFrame (.throwing q) := by
      refine e3.trans ?_
      rw [hf₂, State.calling_eq h.top, State.setFrames_setFrames, State.pushFrame, State.frames_setTop _ hr', State.setTop_of_frames _ hr', State.setFrames_setFrames, hr]
      rfl
    have hsame : U.sameButNew ({ U with heap := s₂.heap, slotsUsed := s₂.slotsUsed } : State) L mc ms := by
      refine ⟨?_, q2, q3, q4, q5, q6⟩
      obtain ⟨t, ht, -⟩ := State.frames_cons hr
      show ({ U with heap := s₂.heap, slotsUsed := s₂.slotsUsed } : State) = { U.setFrames U.frames with heap := s₂.heap, slotsUsed := s₂.slotsUsed }
      rw [State.setFrames_self ht]
    subst hg
    refine Or.inr ⟨q, ⟨(({ U with heap := s₂.heap, slotsUsed := s₂.slotsUsed } : State).setVm s₂.vm), Ls ++ L, c0 + mc, s0 + ms⟩,
      ⟨X.admits, X.cas, X.clock, X.frames, X.room, X.hears, X.method, X.code, (X.here.setHeapUsed s₂.heap s₂.slotsUsed).setVm hW'.alike, X.tail, State.WarmedH.trans X.warmed hW', X.limits, X.bytes, X.same.trans (hsame.setVm s.vm)⟩,
      ⟨g, mk, s₂, L, E, ce, rfl, rfl, hx, hce, hcv, hcl, rfl, hL, rfl, rfl⟩, ?_⟩
    show Steps p.tables e below _ (((({ U with heap := s₂.heap, slotsUsed := s₂.slotsUsed } : State).setVm s₂.vm).setTop g).pushFrame (.throwing q))
    rw [← hs₂]
    exact hsteps
end Payer
section Calls
variable {p : Program} {l : Launch} {e : Env} {R : Room} {s : State} {m : MethodId} {args : Array Value} {below : List Frame} {meth : Method} {c : Code} {T : State} {locs : List Loc} {cells slots : Nat}
theorem vx_callV (X : Stand p l e R s m args below meth c T locs cells slots) (hexec : p.tables.exec = Jvm.exec) {own C : String} {index : Nat} {y : MethodName} {bytes : ByteArray} {maxL : Nat} {ret : Option FieldType}
    (hown : s.vm.findClass own = some m.cls) (hlink : (Cond.methodLink own index y).before args s = true) (hinst : (Cond.instanceMethod y).before args s = true) (hsel : (Cond.selects C y y).before args s = true)
    (hcode : (Cond.code y bytes maxL ret).before args s = true) (hy : y.cls ≠ "java/lang/invoke/MethodHandle" ∧ y.cls ≠ "java/lang/invoke/VarHandle")
    {W9 : Nat} {Pre : Pt → Array Value → Prop} {Post : Pt → Array Value → Option Value → Pt → Prop} {PostX : Pt → Array Value → Addr → Pt → Prop} (hK : vx_Back l R p e below s args y 3 W9 Pre Post PostX)
    {b : Addr} {cellB : Cell} (hcell : T.heap[b]? = some cellB) (hobj : cellB.vm.isStatics = false) (hcls : s.vm.findClass C = some cellB.cls)
    {g : JFrame} (hg : g.method = m) (hsize : g.locals.size = c.maxLocals) {argsL rest : List Value} (hlen : ∀ sig, parseMethodDescriptor y.desc = some sig → argsL.length = sig.parameters.length)
    (hstack : g.stack = argsL.reverse ++ .ref b :: rest) (hW : 2 * g.monitorRoom + (rest.map fun v => v.category).sum ≤ W9) (hdg : decode c.code g.pc = .ok (.invokevirtual index, 3))
    (hpre : ∀ vm₁, s.WarmedH vm₁ → Pre ⟨T.setVm vm₁, locs, cells, slots⟩ (Value.ref b :: argsL).toArray) :
    (∃ (v : Option Value) (vm₁ : Vm) (B : Pt), s.WarmedH vm₁ ∧ Stand p l e R s m args below meth c B.U B.locs B.cells B.slots ∧ Post ⟨T.setVm vm₁, locs, cells, slots⟩ (Value.ref b :: argsL).toArray v B ∧
      ∀ target, Steps p.tables e below (B.U.setTop { g with pc := g.pc + 3, stack := v.toList ++ rest }) target → Steps p.tables e below (T.setTop g) target) ∨
    (∃ (q : Addr) (vm₁ : Vm) (B : Pt), s.WarmedH vm₁ ∧ Stand p l e R s m args below meth c B.U B.locs B.cells B.slots ∧ PostX ⟨T.setVm vm₁, locs, cells, slots⟩ (Value.ref b :: argsL).toArray q B ∧
      Steps p.tables e below (T.setTop g) ((B.U.setTop { g with stack := rest }).pushFrame (.throwing q))) := by
  obtain ⟨mk, methM, hnamed, hmethM, hstM, habM⟩ := Cond.instanceMethod_spec hinst
  obtain ⟨methM', cM, hmethM', -, -, -, -, -, -, hsigM⟩ := Cond.code_spec hnamed hcode
  cases hmethM.symm.trans hmethM'
  obtain ⟨c2, r2, m2, q1, q2, q3, q4, kP, hkP, hkPi⟩ := Cond.selects_spec hsel
  cases hcls.symm.trans q1
  cases (State.methodFound?_of_named hnamed hy).symm.trans q2
  cases hnamed.symm.trans q3
  have hselP : selectMethod e.platform s.vm cellB.cls mk = .method mk := by rw [Launch.admits_selectMethod X.admits]; exact q4
  obtain ⟨vm₁, X₁, hstep₁⟩ := X.invokevirtual hexec hown hlink hnamed hmethM hstM hkP hkPi hy (a := b) (cell := cellB) hcell
    (fun z h => by rw [h] at hobj; cases hobj) hselP hmethM habM hkP hkPi (g := g) hg (argsL := argsL) (rest := rest) (hlen _ hsigM) hstack hdg
  rcases hK m meth c ⟨T.setVm vm₁, locs, cells, slots⟩ { g with stack := rest } (.invokevirtual index) mk (Value.ref b :: argsL).toArray X₁ hg hsize hdg hW (X₁.named hnamed) (hpre vm₁ X₁.warmed) with ⟨v, B, X', hpost, hsteps⟩ | ⟨q, B, X', hpost, hsteps⟩
  · exact Or.inl ⟨v, vm₁, B, X₁.warmed, X', hpost, fun target h => hstep₁ _ fun acts => by rw [doInvoke_state]; exact hsteps.trans h⟩
  · exact Or.inr ⟨q, vm₁, B, X₁.warmed, X', hpost, hstep₁ _ fun acts => by rw [doInvoke_state]; exact hsteps⟩
theorem vx_callS (X : Stand p l e R s m args below meth c T locs cells slots) (hexec : p.tables.exec = Jvm.exec) {own : String} {index : Nat} {y : MethodName} {bytes : ByteArray} {maxL : Nat} {ret : Option FieldType}
    (hown : s.vm.findClass own = some m.cls) (hlink : (Cond.methodLink own index y).before args s = true) (hstat : (Cond.static y).before args s = true) (hinit : (Cond.initialized y.cls).before args s = true)
    (hcode : (Cond.code y bytes maxL ret).before args s = true) (hy : y.cls ≠ "java/lang/invoke/MethodHandle" ∧ y.cls ≠ "java/lang/invoke/VarHandle")
    {W9 : Nat} {Pre : Pt → Array Value → Prop} {Post : Pt → Array Value → Option Value → Pt → Prop} {PostX : Pt → Array Value → Addr → Pt → Prop} (hK : vx_Back l R p e below s args y 3 W9 Pre Post PostX)
    {g : JFrame} (hg : g.method = m) (hsize : g.locals.size = c.maxLocals) {argsL rest : List Value} (hlen : ∀ sig, parseMethodDescriptor y.desc = some sig → argsL.length = sig.parameters.length)
    (hstack : g.stack = argsL.reverse ++ rest) (hW : 2 * g.monitorRoom + (rest.map fun v => v.category).sum ≤ W9) (hdg : decode c.code g.pc = .ok (.invokestatic index, 3))
    (hpre : ∀ vm₁, s.WarmedH vm₁ → Pre ⟨T.setVm vm₁, locs, cells, slots⟩ argsL.toArray) :
    (∃ (v : Option Value) (vm₁ : Vm) (B : Pt), s.WarmedH vm₁ ∧ Stand p l e R s m args below meth c B.U B.locs B.cells B.slots ∧ Post ⟨T.setVm vm₁, locs, cells, slots⟩ argsL.toArray v B ∧
      ∀ target, Steps p.tables e below (B.U.setTop { g with pc := g.pc + 3, stack := v.toList ++ rest }) target → Steps p.tables e below (T.setTop g) target) ∨
    (∃ (q : Addr) (vm₁ : Vm) (B : Pt), s.WarmedH vm₁ ∧ Stand p l e R s m args below meth c B.U B.locs B.cells B.slots ∧ PostX ⟨T.setVm vm₁, locs, cells, slots⟩ argsL.toArray q B ∧
      Steps p.tables e below (T.setTop g) ((B.U.setTop { g with stack := rest }).pushFrame (.throwing q))) := by
  obtain ⟨mk, hnamed⟩ := Cond.code_named hcode
  obtain ⟨methM, cM, hmethM, -, -, -, -, -, -, hsigM⟩ := Cond.code_spec hnamed hcode
  have hstatic : methM.isStatic = true := Cond.static_spec hnamed hmethM hstat
  obtain ⟨kP, hkP, -⟩ := className_of_methodNamed hnamed
  have hinitP : kP.init = .initialized := Cond.initialized_spec (findClass_of_methodNamed hnamed) hkP hinit
  obtain ⟨vm₁, X₁, hstep₁⟩ := X.invokestatic hexec hown hlink hnamed hmethM hstatic hkP hinitP hy (g := g) hg (argsL := argsL) (rest := rest) (hlen _ hsigM) hstack hdg
  rcases hK m meth c ⟨T.setVm vm₁, locs, cells, slots⟩ { g with stack := rest } (.invokestatic index) mk argsL.toArray X₁ hg hsize hdg hW (X₁.named hnamed) (hpre vm₁ X₁.warmed) with ⟨v, B, X', hpost, hsteps⟩ | ⟨q, B, X', hpost, hsteps⟩
  · exact Or.inl ⟨v, vm₁, B, X₁.warmed, X', hpost, fun target h => hstep₁ _ fun acts => by rw [doInvoke_state]; exact hsteps.trans h⟩
  · exact Or.inr ⟨q, vm₁, B, X₁.warmed, X', hpost, hstep₁ _ fun acts => by rw [doInvoke_state]; exact hsteps⟩
end Calls
theorem vx_cls {s : State} {T : State} {vm₁ : Vm} {E : String} {k : ClassId} (hW : s.WarmedH vm₁) (h : (T.setVm vm₁).vm.findClass E = some k) : s.vm.findClass E = some k := by
  have h1 : vm₁.findClass E = some k := h
  rw [hW.alike.findClass] at h1
  exact h1
/-- the method's frame g, with q thrown over it -/
def vx_W (p : Program) (l : Launch) (e : Env) (R : Room) (s : State) (m : MethodId) (args : Array Value) (below : List Frame) (meth : Method) (c : Code) (H : Heap) (locs : List Loc) (cells slots : Nat) (Q : State → Prop) (g : JFrame) (q : Addr) : Prop :=
  ∀ T : State, T.heap = H → Stand p l e R s m args below meth c T locs cells slots → ∃ t, Steps p.tables e below ((T.setTop g).pushFrame (.throwing q)) t ∧ Q t
def vx_Run (p : Program) (l : Launch) (e : Env) (R : Room) (s : State) (m : MethodId) (args : Array Value) (below : List Frame) (meth : Method) (c : Code) (H : Heap) (locs : List Loc) (cells slots mc ms : Nat) (g : JFrame) (rest : List Value) (Qa : State → Outcome → State → Prop) (XC : String → State → State → Prop) (free : Addr → Prop) : Prop :=
  ∀ T : State, T.heap = H → Stand p l e R s m args below meth c T locs cells slots →
    (∃ (v : Option Value) (st₀ t T' : State) (L : List Loc), st₀.heap = H ∧ Stand p l e R s m args below meth c T' (locs ++ L) (cells + mc) (slots + ms) ∧ (∀ q ∈ L, free q.base) ∧ T'.heap = t.heap ∧ T'.vm = t.vm ∧ Qa st₀ (.returned v) t ∧
      Goes p e below T g T' { g with pc := g.pc + 3, stack := v.toList ++ rest }) ∨
    (∃ (q : Addr) (st₀ t T' : State) (L : List Loc) (E : String) (ce : Cell), st₀.heap = H ∧ Stand p l e R s m args below meth c T' (locs ++ L) (cells + mc) (slots + ms) ∧ (∀ z ∈ L, free z.base) ∧ T'.heap = t.heap ∧ T'.vm = t.vm ∧ XC E st₀ t ∧ t.heap[q]? = some ce ∧ ce.vm = .none ∧ s.vm.findClass E = some ce.cls ∧
      Steps p.tables e below (T.setTop g) ((T'.setTop { g with stack := rest }).pushFrame (.throwing q)))
def vx_X {S : Type} (px : S → Prop) (B : String → S → State → Prop) (A : Nat → Prop) : String → State → State → Prop := fun E st t => ∃ u : S, px u ∧ B E u t ∧ va_F A st t
section Runs
variable {p : Program} {l : Launch} {e : Env} {R : Room} {s : State} {m : MethodId} {args : Array Value} {below : List Frame} {meth : Method} {c : Code} {H : Heap} {locs : List Loc} {cells slots : Nat}
variable {y : MethodName} {bytes cc : ByteArray} {maxL nL mc ms n index : Nat} {ret : Option FieldType} {ws : List Cond} {rm : Room} {Pc : Array Value → State → Prop} {Qc : Array Value → State → Outcome → State → Prop} {XC : String → State → State → Prop} {free : Addr → Prop} {Ts : List Cond} {own C : String} {b : Addr} {As rest : List Value} {g : JFrame}
theorem vx_callBack (cb : CallB R s args own index y bytes maxL ret ws rm mc ms n) (hM : vx_Met l y ws rm Pc Qc XC mc ms free) (hbl : FrameBlind Pc) : vx_Back l R p e below s args y 3 8 (PreOf R mc ms Pc) (PostOf Qc mc ms free) (vx_Post XC mc ms free) := by
  obtain ⟨hrc, hrs, hfr, hlo, hws, hcw, -, hini, -⟩ := cb
  exact vx_back (bytes := bytes) (maxL := maxL) (ret := ret) hM hbl hrc hrs hfr hlo hws hcw (fun a' U hW => word_at hW (Or.inl (by first | rfl | simp [Cond.onTables, Cond.keeps, Cond.steady])) hini)
theorem vx_runV (S : CallFix p m c cc nL s args Ts own) (hM : vx_Met l y ws rm Pc Qc XC mc ms free) (cw : CallW R s args own C index y bytes maxL ret ws rm mc ms n) (hp : PreV s H C b Pc As)
    (hg : g.method = m) (hn : As.length = n) (hsize : g.locals.size = nL) (hstack : g.stack = As.reverse ++ .ref b :: rest) (hW : 2 * g.monitorRoom + (rest.map fun v => v.category).sum ≤ 8) (hdg : decode cc g.pc = .ok (.invokevirtual index, 3)) (hf : cells + mc ≤ R.cells ∧ slots + ms ≤ R.slots) :
    vx_Run p l e R s m args below meth c H locs cells slots mc ms g rest (Qc (Value.ref b :: As).toArray) XC free := by
  have hK : vx_Back l R p e below s args y 3 8 (PreOf R mc ms Pc) (PostOf Qc mc ms free) (vx_Post XC mc ms free) := vx_callBack cw.1 hM hp.1
  obtain ⟨⟨-, -, -, -, -, -, hcode, -, hy, hlen, hl⟩, hin, hse⟩ := cw
  obtain ⟨hx, hb, hml, ho, -⟩ := S
  obtain ⟨-, ⟨cellB, hcB, hoB, hclB⟩, hPc⟩ := hp
  intro T hT X
  rcases vx_callV X hx (C := C) (bytes := bytes) (maxL := maxL) (ret := ret) ho hl hin hse hcode hy hK (by rw [hT]; exact hcB) hoB hclB hg (hsize.trans hml.symm) (argsL := As) (rest := rest) (fun sig h => hn.trans (hlen sig h)) hstack hW (by rw [hb]; exact hdg)
    (fun vm₁ hW₁ => ⟨hf.1, hf.2, hPc (T.setVm vm₁) hT hW₁⟩) with ⟨v, vm₁, ⟨U', l2, c2, s2⟩, hW₁, X', ⟨g', mk, t, L, e1, e2, hq, h1, hL, h2, h3⟩, st⟩ | ⟨q, vm₁, ⟨U', l2, c2, s2⟩, hW₁, X', ⟨g', mk, t, L, E, ce, e1, e2, hq, hce, hcv, hcl, h1, hL, h2, h3⟩, st⟩
  · dsimp only [Pt.U, Pt.locs, Pt.cells, Pt.slots] at X' e1 e2 h1 h2 h3 st
    subst h1; subst h2; subst h3
    exact Or.inl ⟨v, (T.setVm vm₁).calling g' mk (Value.ref b :: As).toArray, t, U', L, hT, X', hL, e1, e2, hq, st⟩
  · dsimp only [Pt.U, Pt.locs, Pt.cells, Pt.slots] at X' e1 e2 h1 h2 h3 st hcl
    subst h1; subst h2; subst h3
    exact Or.inr ⟨q, (T.setVm vm₁).calling g' mk (Value.ref b :: As).toArray, t, U', L, E, ce, hT, X', hL, e1, e2, hq, hce, hcv, vx_cls hW₁ hcl, st⟩
theorem vx_runS (S : CallFix p m c cc nL s args Ts own) (hM : vx_Met l y ws rm Pc Qc XC mc ms free) (cw : CallB R s args own index y bytes maxL ret ws rm mc ms n ∧ (Cond.static y).before args s = true) (hp : PreS s H Pc As)
    (hg : g.method = m) (hn : As.length = n) (hsize : g.locals.size = nL) (hstack : g.stack = As.reverse ++ rest) (hW : 2 * g.monitorRoom + (rest.map fun v => v.category).sum ≤ 8) (hdg : decode cc g.pc = .ok (.invokestatic index, 3)) (hf : cells + mc ≤ R.cells ∧ slots + ms ≤ R.slots) :
    vx_Run p l e R s m args below meth c H locs cells slots mc ms g rest (Qc As.toArray) XC free := by
  have hK : vx_Back l R p e below s args y 3 8 (PreOf R mc ms Pc) (PostOf Qc mc ms free) (vx_Post XC mc ms free) := vx_callBack cw.1 hM hp.1
  obtain ⟨⟨-, -, -, -, -, -, hcode, hini, hy, hlen, hl⟩, hstt⟩ := cw
  obtain ⟨hx, hb, hml, ho, -⟩ := S
  intro T hT X
  rcases vx_callS X hx (bytes := bytes) (maxL := maxL) (ret := ret) ho hl hstt hini hcode hy hK hg (hsize.trans hml.symm) (argsL := As) (rest := rest) (fun sig h => hn.trans (hlen sig h)) hstack hW (by rw [hb]; exact hdg)
    (fun vm₁ hW₁ => ⟨hf.1, hf.2, hp.2 (T.setVm vm₁) hT hW₁⟩) with ⟨v, vm₁, ⟨U', l2, c2, s2⟩, hW₁, X', ⟨g', mk, t, L, e1, e2, hq, h1, hL, h2, h3⟩, st⟩ | ⟨q, vm₁, ⟨U', l2, c2, s2⟩, hW₁, X', ⟨g', mk, t, L, E, ce, e1, e2, hq, hce, hcv, hcl, h1, hL, h2, h3⟩, st⟩
  · dsimp only [Pt.U, Pt.locs, Pt.cells, Pt.slots] at X' e1 e2 h1 h2 h3 st
    subst h1; subst h2; subst h3
    exact Or.inl ⟨v, (T.setVm vm₁).calling g' mk As.toArray, t, U', L, hT, X', hL, e1, e2, hq, st⟩
  · dsimp only [Pt.U, Pt.locs, Pt.cells, Pt.slots] at X' e1 e2 h1 h2 h3 st hcl
    subst h1; subst h2; subst h3
    exact Or.inr ⟨q, (T.setVm vm₁).calling g' mk As.toArray, t, U', L, E, ce, hT, X', hL, e1, e2, hq, hce, hcv, vx_cls hW₁ hcl, st⟩
end Runs
section Rows
variable {p : Program} {l : Launch} {e : Env} {R : Room} {s : State} {m : MethodId} {args : Array Value} {below : List Frame} {meth : Method} {c : Code} {H : Heap} {locs : List Loc} {cells slots : Nat} {Q : State → Prop}
variable {mc ms : Nat} {free : Addr → Prop} {A0 A1 : Nat → Prop} {H0 : Heap} {a : Array Value} {pc : Nat} {ls : Array Slot} {st0 rest : List Value}
theorem vx_keep {st₀ t T' : State} {L : List Loc} (h0 : st₀.heap = H) (e1 : T'.heap = t.heap) (hS : va_S A0 H0 H locs) (hA : ∀ q, q < H.size → A1 q → A0 q) (hf : ∀ q, free q → A0 q) (hL : ∀ q ∈ L, free q.base) (hF : va_F A1 st₀ t) :
    H.size ≤ T'.heap.size ∧ (∀ q : Nat, q < H.size → ¬ A1 q → T'.heap[q]? = H[q]?) ∧ va_S A0 H0 T'.heap (locs ++ L) := by
  obtain ⟨hz, hk⟩ := hF
  rw [h0] at hz hk
  exact ⟨by rw [e1]; exact hz, fun q h1 h2 => by rw [e1]; exact hk q h1 h2,
    ⟨Nat.le_trans hS.1 (by rw [e1]; exact hz), fun q h1 h2 => by rw [e1, hk q (Nat.lt_of_lt_of_le h1 hS.1) (fun z => h2 (hA q (Nat.lt_of_lt_of_le h1 hS.1) z))]; exact hS.2.1 q h1 h2, fun q hq => by
      rcases List.mem_append.mp hq with h | h
      · exact hS.2.2 q h
      · exact hf _ (hL q h)⟩⟩
theorem vx_calli {S SX : Type} {post : Int32 → S → Prop} {px : SX → Prop} {B : S → State → Prop} {BX : String → SX → State → Prop} {AX : Nat → Prop} (hr : vx_Run p l e R s m args below meth c H locs cells slots mc ms (F0 m pc ls st0) rest (va_Qi post B A1 a) (vx_X px BX AX) free) (hS : va_S A0 H0 H locs) (hA : ∀ q, q < H.size → A1 q → A0 q) (hf : ∀ q, free q → A0 q) (hAX : ∀ q, q < H.size → AX q → A0 q)
    (kx : ∀ (E : String) (ce : Cell) (q9 : Addr) (u : SX) (t : State) (H1 : Heap) (locs1 : List Loc), t.heap = H1 → s.vm.Alike t.vm → px u → BX E u t → H.size ≤ H1.size → (∀ q : Nat, q < H.size → ¬ AX q → H1[q]? = H[q]?) → va_S A0 H0 H1 locs1 → H1[q9]? = some ce → ce.vm = .none → s.vm.findClass E = some ce.cls → vx_W p l e R s m args below meth c H1 locs1 (cells + mc) (slots + ms) Q (F0 m pc ls rest) q9)
    (kk : ∀ (r : Int32) (u : S) (t : State) (H1 : Heap) (locs1 : List Loc), t.heap = H1 → s.vm.Alike t.vm → post r u → B u t → H.size ≤ H1.size → (∀ q : Nat, q < H.size → ¬ A1 q → H1[q]? = H[q]?) → va_S A0 H0 H1 locs1 → W p l e R s m args below meth c H1 locs1 (cells + mc) (slots + ms) Q (F0 m (pc + 3) ls (.int r :: rest))) : W p l e R s m args below meth c H locs cells slots Q (F0 m pc ls st0) := by
  intro T hT X
  rcases hr T hT X with ⟨v, st₀, t, T', L, h0, X', hL, e1, e2, ⟨⟨r, u, hv, hp, hb⟩, hF⟩, st⟩ | ⟨q, st₀, t, T', L, E, ce, h0, X', hL, e1, e2, ⟨u, hp, hb, hF⟩, hce, hcv, hcl, st⟩
  · cases hv
    obtain ⟨k1, k2, k3⟩ := vx_keep h0 e1 hS hA hf hL hF
    obtain ⟨t2, a1, b1⟩ := kk r u t T'.heap (locs ++ L) e1.symm (by rw [← e2]; exact X'.warmed.alike) hp hb k1 k2 k3 T' rfl X'
    exact ⟨t2, st t2 a1, b1⟩
  · obtain ⟨k1, k2, k3⟩ := vx_keep h0 e1 hS hAX hf hL hF
    obtain ⟨t2, a1, b1⟩ := kx E ce q u t T'.heap (locs ++ L) e1.symm (by rw [← e2]; exact X'.warmed.alike) hp hb k1 k2 k3 (by rw [e1]; exact hce) hcv hcl T' rfl X'
    exact ⟨t2, st.trans a1, b1⟩
theorem vx_calll {S SX : Type} {post : Int64 → S → Prop} {px : SX → Prop} {B : S → State → Prop} {BX : String → SX → State → Prop} {AX : Nat → Prop} (hr : vx_Run p l e R s m args below meth c H locs cells slots mc ms (F0 m pc ls st0) rest (va_Ql post B A1 a) (vx_X px BX AX) free) (hS : va_S A0 H0 H locs) (hA : ∀ q, q < H.size → A1 q → A0 q) (hf : ∀ q, free q → A0 q) (hAX : ∀ q, q < H.size → AX q → A0 q)
    (kx : ∀ (E : String) (ce : Cell) (q9 : Addr) (u : SX) (t : State) (H1 : Heap) (locs1 : List Loc), t.heap = H1 → s.vm.Alike t.vm → px u → BX E u t → H.size ≤ H1.size → (∀ q : Nat, q < H.size → ¬ AX q → H1[q]? = H[q]?) → va_S A0 H0 H1 locs1 → H1[q9]? = some ce → ce.vm = .none → s.vm.findClass E = some ce.cls → vx_W p l e R s m args below meth c H1 locs1 (cells + mc) (slots + ms) Q (F0 m pc ls rest) q9)
    (kk : ∀ (r : Int64) (u : S) (t : State) (H1 : Heap) (locs1 : List Loc), t.heap = H1 → s.vm.Alike t.vm → post r u → B u t → H.size ≤ H1.size → (∀ q : Nat, q < H.size → ¬ A1 q → H1[q]? = H[q]?) → va_S A0 H0 H1 locs1 → W p l e R s m args below meth c H1 locs1 (cells + mc) (slots + ms) Q (F0 m (pc + 3) ls (.long r :: rest))) : W p l e R s m args below meth c H locs cells slots Q (F0 m pc ls st0) := by
  intro T hT X
  rcases hr T hT X with ⟨v, st₀, t, T', L, h0, X', hL, e1, e2, ⟨⟨r, u, hv, hp, hb⟩, hF⟩, st⟩ | ⟨q, st₀, t, T', L, E, ce, h0, X', hL, e1, e2, ⟨u, hp, hb, hF⟩, hce, hcv, hcl, st⟩
  · cases hv
    obtain ⟨k1, k2, k3⟩ := vx_keep h0 e1 hS hA hf hL hF
    obtain ⟨t2, a1, b1⟩ := kk r u t T'.heap (locs ++ L) e1.symm (by rw [← e2]; exact X'.warmed.alike) hp hb k1 k2 k3 T' rfl X'
    exact ⟨t2, st t2 a1, b1⟩
  · obtain ⟨k1, k2, k3⟩ := vx_keep h0 e1 hS hAX hf hL hF
    obtain ⟨t2, a1, b1⟩ := kx E ce q u t T'.heap (locs ++ L) e1.symm (by rw [← e2]; exact X'.warmed.alike) hp hb k1 k2 k3 (by rw [e1]; exact hce) hcv hcl T' rfl X'
    exact ⟨t2, st.trans a1, b1⟩
theorem vx_callf {S SX : Type} {post : UInt32 → S → Prop} {px : SX → Prop} {B : S → State → Prop} {BX : String → SX → State → Prop} {AX : Nat → Prop} (hr : vx_Run p l e R s m args below meth c H locs cells slots mc ms (F0 m pc ls st0) rest (va_Qf post B A1 a) (vx_X px BX AX) free) (hS : va_S A0 H0 H locs) (hA : ∀ q, q < H.size → A1 q → A0 q) (hf : ∀ q, free q → A0 q) (hAX : ∀ q, q < H.size → AX q → A0 q)
    (kx : ∀ (E : String) (ce : Cell) (q9 : Addr) (u : SX) (t : State) (H1 : Heap) (locs1 : List Loc), t.heap = H1 → s.vm.Alike t.vm → px u → BX E u t → H.size ≤ H1.size → (∀ q : Nat, q < H.size → ¬ AX q → H1[q]? = H[q]?) → va_S A0 H0 H1 locs1 → H1[q9]? = some ce → ce.vm = .none → s.vm.findClass E = some ce.cls → vx_W p l e R s m args below meth c H1 locs1 (cells + mc) (slots + ms) Q (F0 m pc ls rest) q9)
    (kk : ∀ (r : UInt32) (u : S) (t : State) (H1 : Heap) (locs1 : List Loc), t.heap = H1 → s.vm.Alike t.vm → post r u → B u t → H.size ≤ H1.size → (∀ q : Nat, q < H.size → ¬ A1 q → H1[q]? = H[q]?) → va_S A0 H0 H1 locs1 → W p l e R s m args below meth c H1 locs1 (cells + mc) (slots + ms) Q (F0 m (pc + 3) ls (.float r :: rest))) : W p l e R s m args below meth c H locs cells slots Q (F0 m pc ls st0) := by
  intro T hT X
  rcases hr T hT X with ⟨v, st₀, t, T', L, h0, X', hL, e1, e2, ⟨⟨r, u, hv, hp, hb⟩, hF⟩, st⟩ | ⟨q, st₀, t, T', L, E, ce, h0, X', hL, e1, e2, ⟨u, hp, hb, hF⟩, hce, hcv, hcl, st⟩
  · cases hv
    obtain ⟨k1, k2, k3⟩ := vx_keep h0 e1 hS hA hf hL hF
    obtain ⟨t2, a1, b1⟩ := kk r u t T'.heap (locs ++ L) e1.symm (by rw [← e2]; exact X'.warmed.alike) hp hb k1 k2 k3 T' rfl X'
    exact ⟨t2, st t2 a1, b1⟩
  · obtain ⟨k1, k2, k3⟩ := vx_keep h0 e1 hS hAX hf hL hF
    obtain ⟨t2, a1, b1⟩ := kx E ce q u t T'.heap (locs ++ L) e1.symm (by rw [← e2]; exact X'.warmed.alike) hp hb k1 k2 k3 (by rw [e1]; exact hce) hcv hcl T' rfl X'
    exact ⟨t2, st.trans a1, b1⟩
theorem vx_calld {S SX : Type} {post : UInt64 → S → Prop} {px : SX → Prop} {B : S → State → Prop} {BX : String → SX → State → Prop} {AX : Nat → Prop} (hr : vx_Run p l e R s m args below meth c H locs cells slots mc ms (F0 m pc ls st0) rest (va_Qd post B A1 a) (vx_X px BX AX) free) (hS : va_S A0 H0 H locs) (hA : ∀ q, q < H.size → A1 q → A0 q) (hf : ∀ q, free q → A0 q) (hAX : ∀ q, q < H.size → AX q → A0 q)
    (kx : ∀ (E : String) (ce : Cell) (q9 : Addr) (u : SX) (t : State) (H1 : Heap) (locs1 : List Loc), t.heap = H1 → s.vm.Alike t.vm → px u → BX E u t → H.size ≤ H1.size → (∀ q : Nat, q < H.size → ¬ AX q → H1[q]? = H[q]?) → va_S A0 H0 H1 locs1 → H1[q9]? = some ce → ce.vm = .none → s.vm.findClass E = some ce.cls → vx_W p l e R s m args below meth c H1 locs1 (cells + mc) (slots + ms) Q (F0 m pc ls rest) q9)
    (kk : ∀ (r : UInt64) (u : S) (t : State) (H1 : Heap) (locs1 : List Loc), t.heap = H1 → s.vm.Alike t.vm → post r u → B u t → H.size ≤ H1.size → (∀ q : Nat, q < H.size → ¬ A1 q → H1[q]? = H[q]?) → va_S A0 H0 H1 locs1 → W p l e R s m args below meth c H1 locs1 (cells + mc) (slots + ms) Q (F0 m (pc + 3) ls (.double r :: rest))) : W p l e R s m args below meth c H locs cells slots Q (F0 m pc ls st0) := by
  intro T hT X
  rcases hr T hT X with ⟨v, st₀, t, T', L, h0, X', hL, e1, e2, ⟨⟨r, u, hv, hp, hb⟩, hF⟩, st⟩ | ⟨q, st₀, t, T', L, E, ce, h0, X', hL, e1, e2, ⟨u, hp, hb, hF⟩, hce, hcv, hcl, st⟩
  · cases hv
    obtain ⟨k1, k2, k3⟩ := vx_keep h0 e1 hS hA hf hL hF
    obtain ⟨t2, a1, b1⟩ := kk r u t T'.heap (locs ++ L) e1.symm (by rw [← e2]; exact X'.warmed.alike) hp hb k1 k2 k3 T' rfl X'
    exact ⟨t2, st t2 a1, b1⟩
  · obtain ⟨k1, k2, k3⟩ := vx_keep h0 e1 hS hAX hf hL hF
    obtain ⟨t2, a1, b1⟩ := kx E ce q u t T'.heap (locs ++ L) e1.symm (by rw [← e2]; exact X'.warmed.alike) hp hb k1 k2 k3 (by rw [e1]; exact hce) hcv hcl T' rfl X'
    exact ⟨t2, st.trans a1, b1⟩
theorem vx_callv {S SX : Type} {post : S → Prop} {px : SX → Prop} {B : S → State → Prop} {BX : String → SX → State → Prop} {AX : Nat → Prop} (hr : vx_Run p l e R s m args below meth c H locs cells slots mc ms (F0 m pc ls st0) rest (va_Qv post B A1 a) (vx_X px BX AX) free) (hS : va_S A0 H0 H locs) (hA : ∀ q, q < H.size → A1 q → A0 q) (hf : ∀ q, free q → A0 q) (hAX : ∀ q, q < H.size → AX q → A0 q)
    (kx : ∀ (E : String) (ce : Cell) (q9 : Addr) (u : SX) (t : State) (H1 : Heap) (locs1 : List Loc), t.heap = H1 → s.vm.Alike t.vm → px u → BX E u t → H.size ≤ H1.size → (∀ q : Nat, q < H.size → ¬ AX q → H1[q]? = H[q]?) → va_S A0 H0 H1 locs1 → H1[q9]? = some ce → ce.vm = .none → s.vm.findClass E = some ce.cls → vx_W p l e R s m args below meth c H1 locs1 (cells + mc) (slots + ms) Q (F0 m pc ls rest) q9)
    (kk : ∀ (u : S) (t : State) (H1 : Heap) (locs1 : List Loc), t.heap = H1 → s.vm.Alike t.vm → post u → B u t → H.size ≤ H1.size → (∀ q : Nat, q < H.size → ¬ A1 q → H1[q]? = H[q]?) → va_S A0 H0 H1 locs1 → W p l e R s m args below meth c H1 locs1 (cells + mc) (slots + ms) Q (F0 m (pc + 3) ls (rest))) : W p l e R s m args below meth c H locs cells slots Q (F0 m pc ls st0) := by
  intro T hT X
  rcases hr T hT X with ⟨v, st₀, t, T', L, h0, X', hL, e1, e2, ⟨⟨u, hv, hp, hb⟩, hF⟩, st⟩ | ⟨q, st₀, t, T', L, E, ce, h0, X', hL, e1, e2, ⟨u, hp, hb, hF⟩, hce, hcv, hcl, st⟩
  · cases hv
    obtain ⟨k1, k2, k3⟩ := vx_keep h0 e1 hS hA hf hL hF
    obtain ⟨t2, a1, b1⟩ := kk u t T'.heap (locs ++ L) e1.symm (by rw [← e2]; exact X'.warmed.alike) hp hb k1 k2 k3 T' rfl X'
    exact ⟨t2, st t2 a1, b1⟩
  · obtain ⟨k1, k2, k3⟩ := vx_keep h0 e1 hS hAX hf hL hF
    obtain ⟨t2, a1, b1⟩ := kx E ce q u t T'.heap (locs ++ L) e1.symm (by rw [← e2]; exact X'.warmed.alike) hp hb k1 k2 k3 (by rw [e1]; exact hce) hcv hcl T' rfl X'
    exact ⟨t2, st.trans a1, b1⟩
/-- caught by the row x of this method's table; the rows ahead don't take it -/
theorem vx_catch {own name : String} {E : String} {ce : Cell} {q : Addr} (hown : s.vm.findClass own = some m.cls) (pre : List ExceptionTableEntry) (x : ExceptionTableEntry) (suf : List ExceptionTableEntry) (hsplit : c.exceptionTable.toList = pre ++ x :: suf)
    (hpass : ∀ z ∈ pre, covers z pc = false ∨ (z.catchType ≠ 0 ∧ ∃ nm : String, (Cond.classLink own z.catchType nm).before args s = true ∧ va_Nc E nm s)) (hx : covers x pc = true) (h0 : x.catchType ≠ 0)
    (hlink : (Cond.classLink own x.catchType name).before args s = true) (hcast : (Cond.castable E name).before args s = true) (hcell : H[q]? = some ce) (hv : ce.vm = .none) (hcl : s.vm.findClass E = some ce.cls)
    (kk : W p l e R s m args below meth c H locs cells slots Q (F0 m x.handlerPc ls [.ref q])) : vx_W p l e R s m args below meth c H locs cells slots Q (F0 m pc ls rest) q := by
  intro T hT X
  have hpl : e.platform.magicAccessors = ({} : Platform).magicAccessors := by rw [X.admits.platform]
  obtain ⟨c3, c4, hc3, hc4, hasg⟩ := Cond.castable_spec hcast
  cases Option.some.inj (hc3.symm.trans hcl)
  obtain ⟨c5, hc5, hcl5⟩ := Cond.classLink_spec hown hlink e.platform hpl
  cases Option.some.inj (hc4.symm.trans hc5)
  obtain ⟨vm', X', st⟩ := X.thenCaughtThrough q (g := F0 m pc ls rest) rfl (Steps.refl _) (by rw [hT]; exact hcell) (by rw [hv]; rfl) (by obtain ⟨k9, h9, -⟩ := Vm.findClass_spec hcl; exact ⟨k9, h9⟩) pre x suf hsplit
    (fun z hz => by
      rcases hpass z hz with h | ⟨hz0, nm, hl1, hn1⟩
      · exact Or.inl h
      · obtain ⟨c6, hc6, hcl6⟩ := Cond.classLink_spec hown hl1 e.platform hpl
        obtain ⟨a8, b8, h1, h2, h3⟩ := hn1
        cases Option.some.inj (h1.symm.trans hcl)
        cases Option.some.inj (h2.symm.trans hc6)
        exact Or.inr ⟨hz0, _, hcl6, h3⟩) hx (Or.inr ⟨h0, c4, hcl5, hasg⟩)
  obtain ⟨t, a1, b1⟩ := kk (T.setVm vm') hT X'
  exact ⟨t, st.trans a1, b1⟩
end Rows
section Ends
variable {p : Program} {l : Launch} {e : Env} {R : Room} {s : State} {m : MethodId} {args : Array Value} {below : List Frame} {meth : Method} {c : Code} {H : Heap} {locs : List Loc} {cells slots : Nat} {Q : State → Prop}
variable {mc ms : Nat} {free : Addr → Prop} {A0 A1 : Nat → Prop} {H0 : Heap} {a : Array Value} {ls : Array Slot} {st0 rest : List Value}
variable {Qc : Array Value → State → Outcome → State → Prop} {XC : String → State → State → Prop}
/-- what a body that may throw owes at its end -/
def vx_MQ (below : List Frame) (Qc : Array Value → State → Outcome → State → Prop) (XC : String → State → State → Prop) (a : Array Value) (s : State) (mc ms : Nat) (free : Addr → Prop) : State → Prop := fun t =>
  ∃ o, t.status = .running ∧ Ended t below o ∧ vx_Q Qc XC mc ms free a s o t
theorem vx_ret {g : JFrame} {mc ms : Nat} (k : W p l e R s m args below meth c H locs cells slots (MQ below Qc args s mc ms free) g) : W p l e R s m args below meth c H locs cells slots (vx_MQ below Qc XC args s mc ms free) g := by
  intro T hT X
  obtain ⟨t, a1, o, b1, b2, b3, b4⟩ := k T hT X
  exact ⟨t, a1, o, b1, b2, Or.inl ⟨b3, b4⟩⟩
/-- not caught here: it goes on to the caller -/
theorem vx_widen {g : JFrame} {q : Addr} {k n : Nat} (h1 : cells ≤ k) (h2 : slots ≤ n) (kk : vx_W p l e R s m args below meth c H locs k n Q g q) : vx_W p l e R s m args below meth c H locs cells slots Q g q := fun T hT X => kk T hT (stand_widen X h1 h2)
theorem vx_out {pc : Nat} {E : String} {ce : Cell} {q : Addr} {mc ms : Nat} (hout : ∀ x ∈ c.exceptionTable.toList, covers x pc = false) (hlocks : meth.locks = false) (hcell : H[q]? = some ce) (hv : ce.vm = .none) (hcl : s.vm.findClass E = some ce.cls)
    (hx : ∀ t : State, t.heap = H → s.vm.Alike t.vm → XC E s t) (hf : ∀ z ∈ locs, free z.base) (hc : cells ≤ mc) (hs : slots ≤ ms) :
    vx_W p l e R s m args below meth c H locs cells slots (vx_MQ below Qc XC args s mc ms free) (F0 m pc ls rest) q := by
  intro T hT X
  obtain ⟨st1, hrun, hend, hW, hsm⟩ := X.leaveThrown q (g := F0 m pc ls rest) rfl rfl rfl hout hlocks
  have hcell9 : (T.setFrames (.throwing q :: below)).heap[q]? = some ce := by
    show T.heap[q]? = some ce
    rw [hT]; exact hcell
  exact ⟨_, st1, .threw q, hrun, hend, Or.inr ⟨q, rfl, E, ce, locs, hx _ hT hW.alike, hcell9, hv, hcl, hW, hsm.mono hc hs, hf⟩⟩
theorem vx_frame {U : State} {k n : Nat} (h : s.sameButNew ({ U with vm := s.vm } : State) locs k n) : s.heap.size ≤ U.heap.size ∧ ∀ q : Nat, q < s.heap.size → (∀ z ∈ locs, z.base ≠ q) → U.heap[q]? = s.heap[q]? := by
  obtain ⟨-, h2, -, -, -, h6⟩ := h
  refine ⟨h2, fun q hq hz => ?_⟩
  obtain ⟨c9, e1, e2, e3, e4⟩ := h6 q _ (Array.getElem?_eq_getElem hq)
  have hs : c9.slots = (s.heap[q]).slots := Array.ext_getElem? fun i => e4 i fun hm => hz _ hm rfl
  have h9 : c9 = s.heap[q] := by
    rw [hs] at e2
    exact e2
  have e5 : U.heap[q]? = some c9 := e1
  rw [e5, h9, Array.getElem?_eq_getElem hq]
/-- the words of a throw but the four that speak of the heap -/
def vx_no (w : Cond) : Bool := decide (w ≠ .isRef (.static Bundle.tN "UNASSIGNED_STACK" Bundle.steD)) && decide (w ≠ .isRef (.static Bundle.tN "SUPPRESSED_SENTINEL" Bundle.listD)) && decide (w ≠ .laysStatic Bundle.tN "UNASSIGNED_STACK" Bundle.steD) && decide (w ≠ .laysStatic Bundle.tN "SUPPRESSED_SENTINEL" Bundle.listD)
def vx_at0 (own : String) (ic : Nat) (X : String) (names : List String) : List Cond := (Bundle.ownAtoms0 own ic X names).filter vx_no
def vx_atS (own : String) (ic : Nat) (X : String) (names : List String) : List Cond := (Bundle.ownAtoms own ic X names).filter vx_no
/-- a word that the tables alone decide, or a good one -/
def vx_ot (w : Cond) : Bool := w.onTables || goodWord w
theorem vx_ot_at {args a' : Array Value} {s U : State} {w : Cond} (hW : s.WarmedH U.vm) (hvm : s.vm = U.vm) (hg : vx_ot w = true) (h : w.before args s = true) : w.before a' U = true := by
  simp only [vx_ot, Bool.or_eq_true] at hg
  rcases hg with hg | hg
  · exact va_tabs hg hvm h
  · exact word_at hW (good_of_word hg) h
/-- a list's words: the good ones out of the method's own list, the others by premises of their own -/
theorem vx_hat {args : Array Value} {s : State} {L B : List Cond} (h1 : ∀ w ∈ L.filter goodWord, w.before args s = true) (h2 : ∀ w ∈ L.filter (fun w => !goodWord w), w ∈ B) (h3 : ∀ w ∈ B, w.before args s = true) : ∀ w ∈ L, w.before args s = true := by
  intro w hw
  by_cases g : goodWord w = true
  · exact h1 w (List.mem_filter.mpr ⟨hw, g⟩)
  · refine h3 w (h2 w (List.mem_filter.mpr ⟨hw, ?_⟩))
    show (!goodWord w) = true
    cases hgw : goodWord w
    · rfl
    · exact absurd hgw g
theorem vx_c {args : Array Value} {s : State} {w : Cond} {B : List Cond} (h : w.before args s = true) (t : ∀ w ∈ B, w.before args s = true) : ∀ w' ∈ w :: B, w'.before args s = true := fun w' h' => (List.mem_cons.mp h').elim (fun e => by rw [e]; exact h) (t w')
theorem vx_n {args : Array Value} {s : State} : ∀ w ∈ ([] : List Cond), w.before args s = true := fun _ h => nomatch h
theorem vx_own {args : Array Value} {s : State} {L : List Cond} (h1 : ∀ w ∈ L.filter vx_no, w.before args s = true)
    (hU : (Cond.isRef (.static Bundle.tN "UNASSIGNED_STACK" Bundle.steD)).before args s = true) (hN : (Cond.isRef (.static Bundle.tN "SUPPRESSED_SENTINEL" Bundle.listD)).before args s = true)
    (lU : (Cond.laysStatic Bundle.tN "UNASSIGNED_STACK" Bundle.steD).before args s = true) (lN : (Cond.laysStatic Bundle.tN "SUPPRESSED_SENTINEL" Bundle.listD).before args s = true) : ∀ w ∈ L, w.before args s = true := by
  intro w hw
  by_cases e1 : w = .isRef (.static Bundle.tN "UNASSIGNED_STACK" Bundle.steD)
  · rw [e1]; exact hU
  · by_cases e2 : w = .isRef (.static Bundle.tN "SUPPRESSED_SENTINEL" Bundle.listD)
    · rw [e2]; exact hN
    · by_cases e3 : w = .laysStatic Bundle.tN "UNASSIGNED_STACK" Bundle.steD
      · rw [e3]; exact lU
      · by_cases e4 : w = .laysStatic Bundle.tN "SUPPRESSED_SENTINEL" Bundle.listD
        · rw [e4]; exact lN
        · exact h1 w (List.mem_filter.mpr ⟨hw, by unfold vx_no; rw [decide_eq_true e1, decide_eq_true e2, decide_eq_true e3, decide_eq_true e4]; rfl⟩)
/-- where a static field lies, its class's statics cell in H -/
def vx_L (C n d : String) (A : Nat → Prop) (U : State) (H : Heap) : Prop := ∃ (c : ClassId) (k : Class) (i : Nat) (f : Field) (a : Nat) (cell : Cell), U.vm.findClass C = some c ∧ U.fieldFound? C n d = some (c, k, i, f) ∧ f.isStatic = true ∧ k.statics = some a ∧ H[a]? = some cell ∧ cell.vm.isStatics = true ∧ cell.cls = c ∧ f.slot < cell.slots.size ∧ k.staticTypes[f.slot]? = some f.type ∧ ¬ A a
theorem vx_L.moved {C n d : String} {A : Nat → Prop} {u U : State} {H : Heap} (hvm : u.vm.Alike U.vm) (h : vx_L C n d A u H) : vx_L C n d A U H := by
  obtain ⟨c, k, i, f, a, cell, h1, h2, h3, h4, h5, h6, h7, h8, h9, h10⟩ := h
  obtain ⟨k', hi', he⟩ := State.fieldFound?_setVm hvm h2
  exact ⟨c, k', i, f, a, cell, by rw [hvm.findClass]; exact h1, hi', h3, by rw [he]; exact h4, h5, h6, h7, h8, by rw [he]; exact h9, h10⟩
theorem vx_L.kept {C n d : String} {A : Nat → Prop} {U : State} {H H1 : Heap} (h : vx_L C n d A U H) (hq : ∀ a : Nat, a < H.size → ¬ A a → H1[a]? = H[a]?) : vx_L C n d A U H1 := by
  obtain ⟨c, k, i, f, a, cell, h1, h2, h3, h4, h5, h6, h7, h8, h9, h10⟩ := h
  exact ⟨c, k, i, f, a, cell, h1, h2, h3, h4, by rw [hq a (Array.getElem?_eq_some_iff.mp h5).1 h10]; exact h5, h6, h7, h8, h9, h10⟩
theorem vx_L.narrow {C n d : String} {A B : Nat → Prop} {U : State} {H : Heap} (h : vx_L C n d A U H) (hAB : ∀ q, B q → A q) : vx_L C n d B U H := by
  obtain ⟨c, k, i, f, a, cell, h1, h2, h3, h4, h5, h6, h7, h8, h9, h10⟩ := h
  exact ⟨c, k, i, f, a, cell, h1, h2, h3, h4, h5, h6, h7, h8, h9, fun z => h10 (hAB _ z)⟩
theorem vx_L.word {C n d : String} {A : Nat → Prop} {s : State} {args : Array Value} (h : vx_L C n d A s s.heap) : (Cond.laysStatic C n d).before args s = true := by
  obtain ⟨c, k, i, f, a, cell, h1, h2, h3, h4, h5, h6, h7, h8, h9, -⟩ := h
  show (Cond.laysStatic C n d).holds args s none s [] = true
  exact Cond.laysStatic_of h1 h2 h3 h4 h5 h6 h7 h8 h9
/-- .. and what it holds: null or some reference -/
def vx_Zq (C n d : String) (A : Nat → Prop) (U : State) (H : Heap) : Prop := va_Zq C n d A U H ∧ vx_L C n d A U H
theorem vx_Zq.moved {C n d : String} {A : Nat → Prop} {u U : State} {H : Heap} (hvm : u.vm.Alike U.vm) (h : vx_Zq C n d A u H) : vx_Zq C n d A U H := ⟨va_Zq.moved hvm h.1, vx_L.moved hvm h.2⟩
theorem vx_Zq.kept {C n d : String} {A : Nat → Prop} {U : State} {H H1 : Heap} (h : vx_Zq C n d A U H) (hq : ∀ a : Nat, a < H.size → ¬ A a → H1[a]? = H[a]?) : vx_Zq C n d A U H1 := ⟨va_Zq.kept h.1 hq, vx_L.kept h.2 hq⟩
theorem vx_Zq.narrow {C n d : String} {A B : Nat → Prop} {U : State} {H : Heap} (h : vx_Zq C n d A U H) (hAB : ∀ q, B q → A q) : vx_Zq C n d B U H := ⟨va_Zq.narrow h.1 hAB, vx_L.narrow h.2 hAB⟩
theorem vx_Zqof {args : Array Value} {s : State} {C n d : String} {A : Nat → Prop} (hl : (Cond.laysStatic C n d).before args s = true) (hini : (Cond.initialized C).before args s = true) (h : (Cond.isRef (.static C n d)).before args s = true) (hA : ∀ a : Nat, a < s.heap.size → ¬ A a) : vx_Zq C n d A s s.heap := by
  refine ⟨va_Zqof hl hini h hA, ?_⟩
  obtain ⟨c, k, i, f, a, cell, h1, h2, h3, h4, h5, h6, h7, h8, h9⟩ := Cond.laysStatic_spec hl
  exact ⟨c, k, i, f, a, cell, h1, h2, h3, h4, h5, h6, h7, h8, h9, hA a (Array.getElem?_eq_some_iff.mp h5).1⟩
theorem vx_isRef {C n d : String} {v : Value} {A : Nat → Prop} {s : State} {args : Array Value} (h : va_Z C n d v A s s.heap) (hv : v.isRef = true) : (Cond.isRef (.static C n d)).before args s = true := by
  obtain ⟨cf, kf, fi, f, a, cell, h1, h2, h3, h4, h5, h6, h7, -⟩ := h
  have he : (Term.static C n d).eval args s none [] s = some v := by
    simp [Term.eval, State.fieldNamed?, h1, h2, h4, h5, h6, h7]
  simp only [Cond.before, Cond.holds, Cond.value, he]
  cases v <;> simp_all [Value.isRef]
theorem vx_isRefq {C n d : String} {A : Nat → Prop} {s : State} {args : Array Value} (h : va_Zq C n d A s s.heap) : (Cond.isRef (.static C n d)).before args s = true := by
  rcases h with h | ⟨t, h⟩
  · exact vx_isRef h rfl
  · exact vx_isRef h rfl
/-- the same frame, seen from here: as if the method were called anew in this heap -/
theorem vx_rebase {T : State} (X : Stand p l e R s m args below meth c T locs cells slots) {R' : Room} (hf : R'.frames ≤ R.frames) (hl : R'.locals ≤ R.locals) (hc : cells + R'.cells ≤ R.cells) (hs : slots + R'.slots ≤ R.slots) :
    Stand p l e R' ((T.setVm s.vm).setFrames (.invoking m args :: below)) m args below meth c T [] 0 0 := by
  have htop : (T.setVm s.vm).topJava?.isSome := X.here.top
  have hF : ((T.setVm s.vm).setFrames (.invoking m args :: below)).frames = .invoking m args :: below := State.frames_setFrames _ (State.cur_lt_of_top htop)
  obtain ⟨g₀, hg0⟩ := Option.isSome_iff_exists.mp htop
  obtain ⟨r, hr⟩ := State.topJava?_eq_some.mp hg0
  have hl9 : e.platform.stackLimits (T.setVm s.vm).me = e.platform.stackLimits s.me := X.limits
  have hb9 : (T.setVm s.vm).me.stackBytes = s.me.stackBytes := X.bytes
  refine ⟨X.admits, X.cas, X.clock, hF, ?_, X.hears, X.method, X.code, X.here, X.tail, X.warmed, ?_, ?_, ?_⟩
  · have h := X.room
    have hU : ((T.setVm s.vm).setFrames (.invoking m args :: below)).localsInUse = s.localsInUse := by
      rw [State.localsInUse_invoking hF (meth := meth) (c := c) X.method X.code, State.localsInUse_invoking X.frames X.method X.code]
    simp only [State.hasRoom, Bool.and_eq_true, decide_eq_true_eq] at h ⊢
    obtain ⟨⟨⟨⟨h1, h2, h3, h4, h5, h6⟩, h7⟩, h8⟩, h9⟩ := h
    rw [X.frames, List.length_cons] at h2 h3
    have q1 := X.heapSize
    have q2 := X.used
    simp only [hF, hU, List.length_cons, State.stackLimits_setFrames, State.stackBytes_setFrames, hl9, hb9]
    refine ⟨⟨⟨⟨by omega, by omega, by omega, by omega, by omega, h6⟩, ?_⟩, ?_⟩, X.book⟩
    · show T.heap.size + R'.cells ≤ e.platform.maxCells
      omega
    · show T.slotsUsed + R'.slots ≤ e.platform.maxSlots
      omega
  · rw [State.stackLimits_setFrames]; rfl
  · rw [State.stackBytes_setFrames]; rfl
  · refine ⟨?_, Nat.le_refl _, Nat.le_refl _, ?_, ?_, fun a c9 h9 => ⟨c9, h9, rfl, rfl, fun _ _ => rfl⟩⟩
    · obtain ⟨t, ht, -⟩ := State.frames_cons hr
      show T.setVm s.vm = { ((T.setVm s.vm).setFrames (.invoking m args :: below)).setFrames (T.setVm s.vm).frames with heap := T.heap, slotsUsed := T.slotsUsed }
      rw [State.setFrames_setFrames, State.setFrames_self ht]
      rfl
    · show T.slotsUsed = T.slotsUsed + ((T.heap.toList.drop T.heap.size).map (·.slots.size)).sum
      rw [List.drop_eq_nil_of_le (Nat.le_of_eq Array.length_toList)]
      rfl
    · show ((T.heap.toList.drop T.heap.size).map (·.slots.size)).sum ≤ 0
      rw [List.drop_eq_nil_of_le (Nat.le_of_eq Array.length_toList)]
      exact Nat.le_refl _
/-- 'throw new E()': new; dup; invokespecial; athrow -/
theorem vx_throw0 {cc : ByteArray} {pc : Nat} (hexec : p.tables.exec = Jvm.exec) (hb : c.code = cc) (hl : l.stackTraces = false) {own cls : String} {names : List String} {ik ic mc ms : Nat} {A : Nat → Prop}
    (hown : s.vm.findClass own = some m.cls) (hcls : Bundle.fit cls = true) (hnames : ∀ n ∈ names, Bundle.fit n = true)
    (hk : (Cond.classLink own ik cls).before args s = true) (hini : (Cond.initialized cls).before args s = true) (hat : ∀ w ∈ vx_at0 own ic cls names, w.before args s = true)
    (hgood : ∀ w ∈ Cond.classLink own ik cls :: Cond.initialized cls :: vx_at0 own ic cls names, vx_ot w = true)
    (hU : vx_Zq Bundle.tN "UNASSIGNED_STACK" Bundle.steD A s s.heap) (hN : vx_Zq Bundle.tN "SUPPRESSED_SENTINEL" Bundle.listD A s s.heap) (hS : va_S A s.heap H locs) (hsize : ls.size = c.maxLocals)
    (d0 : decode cc pc = .ok (.new ik, 3)) (d3 : decode cc (pc + 3) = .ok (.dup, 1)) (d4 : decode cc (pc + 4) = .ok (.invokespecial ic, 3)) (d7 : decode cc (pc + 7) = .ok (.athrow, 1))
    (hout : ∀ x ∈ c.exceptionTable.toList, covers x (pc + 7) = false)
    (hRframes : names.length + 3 < R.frames) (hRlocals : (rest.map fun v => v.category).sum + (13 * (names.length + 1) + 42) ≤ R.locals) (hRcells : cells + 1 ≤ R.cells) (hRslots : slots + 6 ≤ R.slots) (hlocks : meth.locks = false)
    (hx : ∀ t : State, s.vm.Alike t.vm → H.size ≤ t.heap.size → (∀ q : Nat, q < H.size → t.heap[q]? = H[q]?) → XC cls s t)
    (hf : ∀ z ∈ locs, free z.base) (hc : cells + 1 ≤ mc) (hs : slots + 6 ≤ ms) :
    W p l e R s m args below meth c H locs cells slots (vx_MQ below Qc XC args s mc ms free) (F0 m pc ls rest) := by
  intro T hT X
  have htr : e.platform.stackTraces = false := (show e.platform.stackTraces = l.stackTraces by rw [X.admits.platform]).trans hl
  have Y := vx_rebase X (R' := { frames := R.frames, locals := R.locals, cells := 1, slots := 6 }) (Nat.le_refl _) (Nat.le_refl _) hRcells hRslots
  obtain ⟨s', hA⟩ : ∃ z, z = (T.setVm s.vm).setFrames (.invoking m args :: below) := ⟨_, rfl⟩
  rw [← hA] at Y
  have hvm : s'.vm = s.vm := by rw [hA]; rfl
  have hhp : s'.heap = H := by rw [hA]; exact hT
  have hW0 : s.WarmedH s'.vm := by rw [hvm]; exact State.WarmedH.refl s
  have hat' : ∀ w ∈ vx_at0 own ic cls names, w.before args s' = true := fun w hw => vx_ot_at hW0 hvm.symm (hgood w (List.mem_cons_of_mem _ (List.mem_cons_of_mem _ hw))) (hat w hw)
  have hk' : (Cond.classLink own ik cls).before args s' = true := vx_ot_at hW0 hvm.symm (hgood _ List.mem_cons_self) hk
  have hini' : (Cond.initialized cls).before args s' = true := vx_ot_at hW0 hvm.symm (hgood _ (List.mem_cons_of_mem _ List.mem_cons_self)) hini
  have hU' : vx_Zq Bundle.tN "UNASSIGNED_STACK" Bundle.steD A s' s'.heap := by rw [hhp]; exact vx_Zq.moved hW0.alike (hU.kept hS.2.1)
  have hN' : vx_Zq Bundle.tN "SUPPRESSED_SENTINEL" Bundle.listD A s' s'.heap := by rw [hhp]; exact vx_Zq.moved hW0.alike (hN.kept hS.2.1)
  have h : ∀ w ∈ Bundle.ownAtoms0 own ic cls names, w.before args s' = true := vx_own hat' (vx_isRefq hU'.1) (vx_isRefq hN'.1) hU'.2.word hN'.2.word
  have hown' : s'.vm.findClass own = some m.cls := by rw [hvm]; exact hown
  have hins : (Cond.instantiable cls 6).before args s' = true := h _ (by simp [Bundle.ownAtoms0])
  obtain ⟨vm₁, cX, kX, hfX, hkX, -, -, X₁, st1⟩ := Y.newCold hexec (own := own) (C := cls) (index := ik) (n := 6) hown' hk' hins hini'
    (g := F0 m pc ls rest) rfl (by rw [hb]; exact d0) (Nat.le_refl _) (Nat.le_refl _)
  generalize hT1 : (T.setVm vm₁).pushCell { cls := cX, slots := kX.instanceTypes.map defaultValue, vm := .none } = T1 at X₁ st1
  have hcat : (Value.ref T.heap.size).category = 1 := rfl
  have hcellA : T1.heap[T.heap.size]? = some (freshCell cX kX) := by rw [← hT1]; exact State.heap_pushCell_size _ _
  have d3' : decode c.code (pc + 3) = .ok (.dup, 1) := by rw [hb]; exact d3
  obtain ⟨U, hsteps, hrun, hend, hW, hsame, ce, hce, hO⟩ := X₁.ctorThrow0 hexec htr (own := own) (cls := cls) (names := names) (ic := ic) hown' hcls hnames h (fun x hx => nomatch hx) hfX hkX hcellA (by rw [hhp, hT]; exact Nat.le_refl _)
    (g := { method := m, pc := pc + 4, locals := ls, stack := .ref T.heap.size :: .ref T.heap.size :: rest, locked := none }) rfl hsize rfl rfl (rest := rest) rfl
    (by rw [hb]; exact d4) (by rw [hb]; exact d7) hout hRframes (by simp only [List.map_cons, List.sum_cons, hcat]; omega) hlocks
  obtain ⟨f1, f2⟩ := vx_frame hsame
  rw [hhp] at f1 f2
  have hWs : s.WarmedH U.vm := State.WarmedH.trans hW0 hW
  have hcl : s.vm.findClass cls = some ce.cls := by
    have h9 := hO.cls
    rw [hvm] at h9
    exact h9
  have hall : s.sameButNew ({ U with vm := s.vm } : State) locs mc ms := by
    subst hA
    obtain ⟨e1, e2⟩ := hsame
    rw [State.setFrames_setFrames] at e1
    have h2 : (T.setVm s.vm).sameButNew ({ U with vm := s.vm } : State) [] (0 + 1) (0 + 6) := ⟨e1, e2⟩
    have h3 := X.same.trans h2
    rw [List.append_nil] at h3
    exact h3.mono hc hs
  refine ⟨U, ?_, .threw T.heap.size, hrun, hend, Or.inr ⟨T.heap.size, rfl, cls, ce, locs, hx U hWs.alike f1 (fun q hq => f2 q hq (fun z hz => nomatch hz)), hce, hO.vm, hcl, hWs, hall, hf⟩⟩
  refine st1 _ ?_
  show Steps p.tables e below (T1.setTop { method := m, pc := pc + 3, locals := ls, stack := .ref T.heap.size :: rest, locked := none }) _
  jvm_step X₁.here [X₁.here.top, hexec, d3', Value.category]
  exact hsteps
/-- 'throw new E("text")': new; dup; ldc; invokespecial; athrow -/
theorem vx_throwS {cc : ByteArray} {pc : Nat} (hexec : p.tables.exec = Jvm.exec) (hb : c.code = cc) (hl : l.stackTraces = false) {own cls text : String} {names : List String} {ik is ic mc ms sa : Nat} {A : Nat → Prop}
    (hown : s.vm.findClass own = some m.cls) (hcls : Bundle.fit cls = true) (hnames : ∀ n ∈ names, Bundle.fit n = true)
    (hk : (Cond.classLink own ik cls).before args s = true) (hini : (Cond.initialized cls).before args s = true) (hstr : vk_R own is text sa s) (hat : ∀ w ∈ vx_atS own ic cls names, w.before args s = true)
    (hgood : ∀ w ∈ Cond.classLink own ik cls :: Cond.initialized cls :: vx_atS own ic cls names, vx_ot w = true)
    (hU : vx_Zq Bundle.tN "UNASSIGNED_STACK" Bundle.steD A s s.heap) (hN : vx_Zq Bundle.tN "SUPPRESSED_SENTINEL" Bundle.listD A s s.heap) (hS : va_S A s.heap H locs) (hsize : ls.size = c.maxLocals)
    (d0 : decode cc pc = .ok (.new ik, 3)) (d3 : decode cc (pc + 3) = .ok (.dup, 1)) (d4 : decode cc (pc + 4) = .ok (.ldc is, 2)) (d6 : decode cc (pc + 6) = .ok (.invokespecial ic, 3)) (d9 : decode cc (pc + 9) = .ok (.athrow, 1))
    (hout : ∀ x ∈ c.exceptionTable.toList, covers x (pc + 9) = false)
    (hRframes : names.length + 3 < R.frames) (hRlocals : (rest.map fun v => v.category).sum + (13 * (names.length + 1) + 43) ≤ R.locals) (hRcells : cells + 1 ≤ R.cells) (hRslots : slots + 6 ≤ R.slots) (hlocks : meth.locks = false)
    (hx : ∀ t : State, s.vm.Alike t.vm → H.size ≤ t.heap.size → (∀ q : Nat, q < H.size → t.heap[q]? = H[q]?) → XC cls s t)
    (hf : ∀ z ∈ locs, free z.base) (hc : cells + 1 ≤ mc) (hs : slots + 6 ≤ ms) :
    W p l e R s m args below meth c H locs cells slots (vx_MQ below Qc XC args s mc ms free) (F0 m pc ls rest) := by
  intro T hT X
  have htr : e.platform.stackTraces = false := (show e.platform.stackTraces = l.stackTraces by rw [X.admits.platform]).trans hl
  have Y := vx_rebase X (R' := { frames := R.frames, locals := R.locals, cells := 1, slots := 6 }) (Nat.le_refl _) (Nat.le_refl _) hRcells hRslots
  obtain ⟨s', hA⟩ : ∃ z, z = (T.setVm s.vm).setFrames (.invoking m args :: below) := ⟨_, rfl⟩
  rw [← hA] at Y
  have hvm : s'.vm = s.vm := by rw [hA]; rfl
  have hhp : s'.heap = H := by rw [hA]; exact hT
  have hW0 : s.WarmedH s'.vm := by rw [hvm]; exact State.WarmedH.refl s
  have hat' : ∀ w ∈ vx_atS own ic cls names, w.before args s' = true := fun w hw => vx_ot_at hW0 hvm.symm (hgood w (List.mem_cons_of_mem _ (List.mem_cons_of_mem _ hw))) (hat w hw)
  have hk' : (Cond.classLink own ik cls).before args s' = true := vx_ot_at hW0 hvm.symm (hgood _ List.mem_cons_self) hk
  have hini' : (Cond.initialized cls).before args s' = true := vx_ot_at hW0 hvm.symm (hgood _ (List.mem_cons_of_mem _ List.mem_cons_self)) hini
  have hU' : vx_Zq Bundle.tN "UNASSIGNED_STACK" Bundle.steD A s' s'.heap := by rw [hhp]; exact vx_Zq.moved hW0.alike (hU.kept hS.2.1)
  have hN' : vx_Zq Bundle.tN "SUPPRESSED_SENTINEL" Bundle.listD A s' s'.heap := by rw [hhp]; exact vx_Zq.moved hW0.alike (hN.kept hS.2.1)
  have h : ∀ w ∈ Bundle.ownAtoms own ic cls names, w.before args s' = true := vx_own hat' (vx_isRefq hU'.1) (vx_isRefq hN'.1) hU'.2.word hN'.2.word
  have hown' : s'.vm.findClass own = some m.cls := by rw [hvm]; exact hown
  have hins : (Cond.instantiable cls 6).before args s' = true := h _ (by simp [Bundle.ownAtoms])
  obtain ⟨vm₁, cX, kX, hfX, hkX, -, -, X₁, st1⟩ := Y.newCold hexec (own := own) (C := cls) (index := ik) (n := 6) hown' hk' hins hini'
    (g := F0 m pc ls rest) rfl (by rw [hb]; exact d0) (Nat.le_refl _) (Nat.le_refl _)
  generalize hT1 : (T.setVm vm₁).pushCell { cls := cX, slots := kX.instanceTypes.map defaultValue, vm := .none } = T1 at X₁ st1
  have hcat : (Value.ref T.heap.size).category = 1 := rfl
  have hcellA : T1.heap[T.heap.size]? = some (freshCell cX kX) := by rw [← hT1]; exact State.heap_pushCell_size _ _
  have d3' : decode c.code (pc + 3) = .ok (.dup, 1) := by rw [hb]; exact d3
  have d4' : decode c.code (pc + 4) = .ok (.ldc is, 2) := by rw [hb]; exact d4
  have hstr' : vk_R own is text sa s' := vk_R.warm hW0 hstr
  obtain ⟨U, hsteps, hrun, hend, hW, hsame, ce, hce, hO⟩ := X₁.ctorThrowS hexec htr (own := own) (cls := cls) (names := names) (ic := ic) hown' hcls hnames h (fun x hx => nomatch hx) hfX hkX hcellA (by rw [hhp, hT]; exact Nat.le_refl _) (msg := .ref sa) rfl
    (g := { method := m, pc := pc + 6, locals := ls, stack := .ref sa :: .ref T.heap.size :: .ref T.heap.size :: rest, locked := none }) rfl hsize rfl rfl (rest := rest) rfl
    (by rw [hb]; exact d6) (by rw [hb]; exact d9) hout hRframes (by simp only [List.map_cons, List.sum_cons, hcat]; omega) hlocks
  obtain ⟨f1, f2⟩ := vx_frame hsame
  rw [hhp] at f1 f2
  have hWs : s.WarmedH U.vm := State.WarmedH.trans hW0 hW
  have hcl : s.vm.findClass cls = some ce.cls := by
    have h9 := hO.cls
    rw [hvm] at h9
    exact h9
  have hall : s.sameButNew ({ U with vm := s.vm } : State) locs mc ms := by
    subst hA
    obtain ⟨e1, e2⟩ := hsame
    rw [State.setFrames_setFrames] at e1
    have h2 : (T.setVm s.vm).sameButNew ({ U with vm := s.vm } : State) [] (0 + 1) (0 + 6) := ⟨e1, e2⟩
    have h3 := X.same.trans h2
    rw [List.append_nil] at h3
    exact h3.mono hc hs
  refine ⟨U, ?_, .threw T.heap.size, hrun, hend, Or.inr ⟨T.heap.size, rfl, cls, ce, locs, hx U hWs.alike f1 (fun q hq => f2 q hq (fun z hz => nomatch hz)), hce, hO.vm, hcl, hWs, hall, hf⟩⟩
  refine st1 _ ?_
  show Steps p.tables e below (T1.setTop { method := m, pc := pc + 3, locals := ls, stack := .ref T.heap.size :: rest, locked := none }) _
  jvm_step X₁.here [X₁.here.top, hexec, d3', Value.category]
  exact X₁.ldcString hexec (own := own) (text := text) (index := is) (a := sa) hown' hstr'.1 hstr'.2
    (g := { method := m, pc := pc + 4, locals := ls, stack := .ref T.heap.size :: .ref T.heap.size :: rest, locked := none }) rfl d4' _ hsteps
/-- 'throw new E("text")', the text by a wide index -/
theorem vx_throwSW {cc : ByteArray} {pc : Nat} (hexec : p.tables.exec = Jvm.exec) (hb : c.code = cc) (hl : l.stackTraces = false) {own cls text : String} {names : List String} {ik is ic mc ms sa : Nat} {A : Nat → Prop}
    (hown : s.vm.findClass own = some m.cls) (hcls : Bundle.fit cls = true) (hnames : ∀ n ∈ names, Bundle.fit n = true)
    (hk : (Cond.classLink own ik cls).before args s = true) (hini : (Cond.initialized cls).before args s = true) (hstr : vk_R own is text sa s) (hat : ∀ w ∈ vx_atS own ic cls names, w.before args s = true)
    (hgood : ∀ w ∈ Cond.classLink own ik cls :: Cond.initialized cls :: vx_atS own ic cls names, vx_ot w = true)
    (hU : vx_Zq Bundle.tN "UNASSIGNED_STACK" Bundle.steD A s s.heap) (hN : vx_Zq Bundle.tN "SUPPRESSED_SENTINEL" Bundle.listD A s s.heap) (hS : va_S A s.heap H locs) (hsize : ls.size = c.maxLocals)
    (d0 : decode cc pc = .ok (.new ik, 3)) (d3 : decode cc (pc + 3) = .ok (.dup, 1)) (d4 : decode cc (pc + 4) = .ok (.ldc_w is, 3)) (d7 : decode cc (pc + 7) = .ok (.invokespecial ic, 3)) (d10 : decode cc (pc + 10) = .ok (.athrow, 1))
    (hout : ∀ x ∈ c.exceptionTable.toList, covers x (pc + 10) = false)
    (hRframes : names.length + 3 < R.frames) (hRlocals : (rest.map fun v => v.category).sum + (13 * (names.length + 1) + 43) ≤ R.locals) (hRcells : cells + 1 ≤ R.cells) (hRslots : slots + 6 ≤ R.slots) (hlocks : meth.locks = false)
    (hx : ∀ t : State, s.vm.Alike t.vm → H.size ≤ t.heap.size → (∀ q : Nat, q < H.size → t.heap[q]? = H[q]?) → XC cls s t)
    (hf : ∀ z ∈ locs, free z.base) (hc : cells + 1 ≤ mc) (hs : slots + 6 ≤ ms) :
    W p l e R s m args below meth c H locs cells slots (vx_MQ below Qc XC args s mc ms free) (F0 m pc ls rest) := by
  intro T hT X
  have htr : e.platform.stackTraces = false := (show e.platform.stackTraces = l.stackTraces by rw [X.admits.platform]).trans hl
  have Y := vx_rebase X (R' := { frames := R.frames, locals := R.locals, cells := 1, slots := 6 }) (Nat.le_refl _) (Nat.le_refl _) hRcells hRslots
  obtain ⟨s', hA⟩ : ∃ z, z = (T.setVm s.vm).setFrames (.invoking m args :: below) := ⟨_, rfl⟩
  rw [← hA] at Y
  have hvm : s'.vm = s.vm := by rw [hA]; rfl
  have hhp : s'.heap = H := by rw [hA]; exact hT
  have hW0 : s.WarmedH s'.vm := by rw [hvm]; exact State.WarmedH.refl s
  have hat' : ∀ w ∈ vx_atS own ic cls names, w.before args s' = true := fun w hw => vx_ot_at hW0 hvm.symm (hgood w (List.mem_cons_of_mem _ (List.mem_cons_of_mem _ hw))) (hat w hw)
  have hk' : (Cond.classLink own ik cls).before args s' = true := vx_ot_at hW0 hvm.symm (hgood _ List.mem_cons_self) hk
  have hini' : (Cond.initialized cls).before args s' = true := vx_ot_at hW0 hvm.symm (hgood _ (List.mem_cons_of_mem _ List.mem_cons_self)) hini
  have hU' : vx_Zq Bundle.tN "UNASSIGNED_STACK" Bundle.steD A s' s'.heap := by rw [hhp]; exact vx_Zq.moved hW0.alike (hU.kept hS.2.1)
  have hN' : vx_Zq Bundle.tN "SUPPRESSED_SENTINEL" Bundle.listD A s' s'.heap := by rw [hhp]; exact vx_Zq.moved hW0.alike (hN.kept hS.2.1)
  have h : ∀ w ∈ Bundle.ownAtoms own ic cls names, w.before args s' = true := vx_own hat' (vx_isRefq hU'.1) (vx_isRefq hN'.1) hU'.2.word hN'.2.word
  have hown' : s'.vm.findClass own = some m.cls := by rw [hvm]; exact hown
  have hins : (Cond.instantiable cls 6).before args s' = true := h _ (by simp [Bundle.ownAtoms])
  obtain ⟨vm₁, cX, kX, hfX, hkX, -, -, X₁, st1⟩ := Y.newCold hexec (own := own) (C := cls) (index := ik) (n := 6) hown' hk' hins hini'
    (g := F0 m pc ls rest) rfl (by rw [hb]; exact d0) (Nat.le_refl _) (Nat.le_refl _)
  generalize hT1 : (T.setVm vm₁).pushCell { cls := cX, slots := kX.instanceTypes.map defaultValue, vm := .none } = T1 at X₁ st1
  have hcat : (Value.ref T.heap.size).category = 1 := rfl
  have hcellA : T1.heap[T.heap.size]? = some (freshCell cX kX) := by rw [← hT1]; exact State.heap_pushCell_size _ _
  have d3' : decode c.code (pc + 3) = .ok (.dup, 1) := by rw [hb]; exact d3
  have d4' : decode c.code (pc + 4) = .ok (.ldc_w is, 3) := by rw [hb]; exact d4
  have hstr' : vk_R own is text sa s' := vk_R.warm hW0 hstr
  obtain ⟨U, hsteps, hrun, hend, hW, hsame, ce, hce, hO⟩ := X₁.ctorThrowS hexec htr (own := own) (cls := cls) (names := names) (ic := ic) hown' hcls hnames h (fun x hx => nomatch hx) hfX hkX hcellA (by rw [hhp, hT]; exact Nat.le_refl _) (msg := .ref sa) rfl
    (g := { method := m, pc := pc + 7, locals := ls, stack := .ref sa :: .ref T.heap.size :: .ref T.heap.size :: rest, locked := none }) rfl hsize rfl rfl (rest := rest) rfl
    (by rw [hb]; exact d7) (by rw [hb]; exact d10) hout hRframes (by simp only [List.map_cons, List.sum_cons, hcat]; omega) hlocks
  obtain ⟨f1, f2⟩ := vx_frame hsame
  rw [hhp] at f1 f2
  have hWs : s.WarmedH U.vm := State.WarmedH.trans hW0 hW
  have hcl : s.vm.findClass cls = some ce.cls := by
    have h9 := hO.cls
    rw [hvm] at h9
    exact h9
  have hall : s.sameButNew ({ U with vm := s.vm } : State) locs mc ms := by
    subst hA
    obtain ⟨e1, e2⟩ := hsame
    rw [State.setFrames_setFrames] at e1
    have h2 : (T.setVm s.vm).sameButNew ({ U with vm := s.vm } : State) [] (0 + 1) (0 + 6) := ⟨e1, e2⟩
    have h3 := X.same.trans h2
    rw [List.append_nil] at h3
    exact h3.mono hc hs
  refine ⟨U, ?_, .threw T.heap.size, hrun, hend, Or.inr ⟨T.heap.size, rfl, cls, ce, locs, hx U hWs.alike f1 (fun q hq => f2 q hq (fun z hz => nomatch hz)), hce, hO.vm, hcl, hWs, hall, hf⟩⟩
  refine st1 _ ?_
  show Steps p.tables e below (T1.setTop { method := m, pc := pc + 3, locals := ls, stack := .ref T.heap.size :: rest, locked := none }) _
  jvm_step X₁.here [X₁.here.top, hexec, d3', Value.category]
  exact X₁.ldcStringW hexec (own := own) (text := text) (index := is) (a := sa) hown' hstr'.1 hstr'.2
    (g := { method := m, pc := pc + 4, locals := ls, stack := .ref T.heap.size :: .ref T.heap.size :: rest, locked := none }) rfl d4' _ hsteps
end Ends
section Bodies
variable {l : Launch}
theorem vx_ofW {y : MethodName} {ws ws' : List Cond} {rm : Room} {Pc : Array Value → State → Prop} {Qc : Array Value → State → Outcome → State → Prop} {XC : String → State → State → Prop} {mc ms : Nat} {free : Addr → Prop} {cc : ByteArray} {maxL : Nat} {ret : Option FieldType}
    (hy : plainName y.cls = true) (hw : ws = Cond.code y cc maxL ret :: ws')
    (body : ∀ p e s m args below meth c s₁, BodyLoose p l y (headSpec ws rm) cc maxL ret e s m args below meth c s₁ → c.maxLocals = maxL → (∀ x ∈ c.exceptionTable.toList, False) → Pc args s →
      W p l e (headSpec ws rm).room s m args below meth c s.heap [] 0 0 (vx_MQ below Qc XC args s mc ms free) (entryFrame m args maxL)) : vx_Met l y ws rm Pc Qc XC mc ms free := by
  refine MetFree.of_bodyS (code := cc) (maxLocals := maxL) (ret := ret) hy ?_ ?_
  · intro args s m h hn
    obtain ⟨meth, c, h1, h2, h3, h4, h5, h6, -, -⟩ := Cond.code_spec hn (atoms_spec (ws := ws) h _ (by rw [hw]; exact List.mem_cons_self))
    exact ⟨meth, c, h1, h2, h3, h4, h5, h6⟩
  · intro p e s m args below meth c s₁ B hml hP _
    have hh0 : s₁.heap = s.heap := by rw [B.state]; rfl
    have ht : ∀ x ∈ c.exceptionTable.toList, False := by
      obtain ⟨meth9, c9, h1, h2, -, -, -, -, h7, -⟩ := Cond.code_spec B.named (atoms_spec (ws := ws) B.pre _ (by rw [hw]; exact List.mem_cons_self))
      cases Option.some.inj (h1.symm.trans B.method)
      cases Option.some.inj (h2.symm.trans (Stand.of_body B).code)
      intro x hx
      rw [Array.isEmpty_iff.mp h7] at hx
      cases hx
    obtain ⟨t, a1, o, b1, b2, b3⟩ := body p e s m args below meth c s₁ B hml ht hP s₁ hh0 (Stand.of_body B)
    exact ⟨t, o, a1, b1, b2, b3⟩
/-- the table of a body with handlers -/
theorem vx_table {p : Program} {x y : MethodName} {S : Spec} {cc bytes : ByteArray} {maxL maxL' : Nat} {ret ret' : Option FieldType} {e : Env} {s s₁ : State} {m : MethodId} {args : Array Value} {below : List Frame} {meth : Method} {c : Code} {hh : List (Nat × Nat × Nat × Nat)}
    (B : BodyLoose p l y S cc maxL ret e s m args below meth c s₁) (h : (Cond.codeWith y bytes maxL' ret' hh).before args s = true) : c.exceptionTable.toList = tableOf hh := by
  obtain ⟨m9, meth9, c9, hn9, h1, h2, -, -, h6, -⟩ := Cond.codeWith_spec h
  cases Option.some.inj (hn9.symm.trans B.named)
  cases Option.some.inj (h1.symm.trans B.method)
  cases Option.some.inj (h2.symm.trans (Stand.of_body B).code)
  rw [← h6, table_eq]
end Bodies
end VXA
/-! ===== END ===== -/
/-! ===== BEGIN a static call of a method with an exception table ===== -/
section VXS
variable {p : Program} {l : Launch} {e : Env} {R : Room} {s : State} {m : MethodId} {args : Array Value} {below : List Frame} {meth : Method} {c : Code} {T : State} {H : Heap} {locs : List Loc} {cells slots : Nat}
abbrev vx_CSW (R : Room) (s : State) (args : Array Value) (own : String) (index : Nat) (y : MethodName) (bytes : ByteArray) (maxL : Nat) (ret : Option FieldType) (hh : List (Nat × Nat × Nat × Nat)) (ws : List Cond) (rm : Room) (mc ms n : Nat) : Prop :=
  (rm.cells = mc ∧ rm.slots = ms ∧ rm.frames + 1 ≤ R.frames ∧ 8 + (maxL + 11) + rm.locals ≤ R.locals ∧ (∀ w ∈ ws, ∀ (a' : Array Value) (U : State), s.WarmedH U.vm → w.before a' U = true) ∧ Cond.codeWith y bytes maxL ret hh ∈ ws) ∧
  (Cond.codeWith y bytes maxL ret hh).before args s = true ∧ (Cond.initialized y.cls).before args s = true ∧ (y.cls ≠ "java/lang/invoke/MethodHandle" ∧ y.cls ≠ "java/lang/invoke/VarHandle") ∧
  (∀ sig, parseMethodDescriptor y.desc = some sig → n = sig.parameters.length) ∧ (Cond.methodLink own index y).before args s = true ∧ (Cond.static y).before args s = true
theorem vx_cwSW {own : String} {index maxL mc ms : Nat} {y : MethodName} {bytes : ByteArray} {ret : Option FieldType} {hh : List (Nat × Nat × Nat × Nat)} {Ts ws ws' : List Cond} {rm : Room} (n : Nat) (ht : ∀ w ∈ Ts, w.before args s = true) (hT : GoodIn Ts (va_wsS own index y ws)) (hw : ws = Cond.codeWith y bytes maxL ret hh :: ws') (hrc : rm.cells = mc) (hrs : rm.slots = ms)
    (hd : y.cls ≠ "java/lang/invoke/MethodHandle" ∧ y.cls ≠ "java/lang/invoke/VarHandle" ∧ (parseMethodDescriptor y.desc).map (fun d => d.parameters.length) = some n) (hR : rm.frames + 1 ≤ R.frames ∧ 8 + (maxL + 11) + rm.locals ≤ R.locals) :
    vx_CSW R s args own index y bytes maxL ret hh ws rm mc ms n := by
  have ok : ∀ w ∈ va_wsS own index y ws, w.before args s = true := fun w h => ht w (hT w h).1
  have hG : GoodIn Ts ws := fun w h => hT w (by unfold va_wsS; exact List.mem_append_right _ h)
  have hc : Cond.codeWith y bytes maxL ret hh ∈ ws := by rw [hw]; exact List.mem_cons_self
  refine ⟨⟨hrc, hrs, hR.1, hR.2, pay_in ht hG, hc⟩, ht _ (hG _ hc).1, ok _ (by simp [va_wsS]), ⟨hd.1, hd.2.1⟩, fun sig h => ?_, ok _ (by simp [va_wsS]), ok _ (by simp [va_wsS])⟩
  have h2 := hd.2.2
  rw [h] at h2
  exact (Option.some.inj h2).symm
theorem vx_callSW (X : Stand p l e R s m args below meth c T locs cells slots) (hexec : p.tables.exec = Jvm.exec) {own : String} {index : Nat} {y : MethodName} {bytes : ByteArray} {maxL : Nat} {ret : Option FieldType} {hh : List (Nat × Nat × Nat × Nat)}
    (hown : s.vm.findClass own = some m.cls) (hlink : (Cond.methodLink own index y).before args s = true) (hstat : (Cond.static y).before args s = true) (hinit : (Cond.initialized y.cls).before args s = true)
    (hcode : (Cond.codeWith y bytes maxL ret hh).before args s = true) (hy : y.cls ≠ "java/lang/invoke/MethodHandle" ∧ y.cls ≠ "java/lang/invoke/VarHandle")
    {W9 : Nat} {Pre : Pt → Array Value → Prop} {Post : Pt → Array Value → Option Value → Pt → Prop} (hK : Back l R p e below s args y 3 W9 Pre Post)
    {g : JFrame} (hg : g.method = m) (hsize : g.locals.size = c.maxLocals) {argsL rest : List Value} (hlen : ∀ sig, parseMethodDescriptor y.desc = some sig → argsL.length = sig.parameters.length)
    (hstack : g.stack = argsL.reverse ++ rest) (hW : 2 * g.monitorRoom + (rest.map fun v => v.category).sum ≤ W9) (hdg : decode c.code g.pc = .ok (.invokestatic index, 3))
    (hpre : ∀ vm₁, s.WarmedH vm₁ → Pre ⟨T.setVm vm₁, locs, cells, slots⟩ argsL.toArray) :
    ∃ (v : Option Value) (vm₁ : Vm) (B : Pt), s.WarmedH vm₁ ∧ Stand p l e R s m args below meth c B.U B.locs B.cells B.slots ∧ Post ⟨T.setVm vm₁, locs, cells, slots⟩ argsL.toArray v B ∧
      ∀ target, Steps p.tables e below (B.U.setTop { g with pc := g.pc + 3, stack := v.toList ++ rest }) target → Steps p.tables e below (T.setTop g) target := by
  obtain ⟨mk, methM, cM, hnamed, hmethM, -, -, -, -, -, -, hsigM⟩ := Cond.codeWith_spec hcode
  have hstatic : methM.isStatic = true := Cond.static_spec hnamed hmethM hstat
  obtain ⟨kP, hkP, -⟩ := className_of_methodNamed hnamed
  have hinitP : kP.init = .initialized := Cond.initialized_spec (findClass_of_methodNamed hnamed) hkP hinit
  obtain ⟨vm₁, X₁, hstep₁⟩ := X.invokestatic hexec hown hlink hnamed hmethM hstatic hkP hinitP hy (g := g) hg (argsL := argsL) (rest := rest) (hlen _ hsigM) hstack hdg
  obtain ⟨v, B, X', hpost, hsteps⟩ := hK m meth c ⟨T.setVm vm₁, locs, cells, slots⟩ { g with stack := rest } (.invokestatic index) mk argsL.toArray X₁ hg hsize hdg hW (X₁.named hnamed) (hpre vm₁ X₁.warmed)
  exact ⟨v, vm₁, B, X₁.warmed, X', hpost, fun target h => hstep₁ _ fun acts => by rw [doInvoke_state]; exact hsteps.trans h⟩
theorem vx_runSW {y : MethodName} {bytes cc : ByteArray} {maxL nL mc ms n index : Nat} {ret : Option FieldType} {hh : List (Nat × Nat × Nat × Nat)} {ws : List Cond} {rm : Room} {Pc : Array Value → State → Prop} {Qc : Array Value → State → Outcome → State → Prop} {free : Addr → Prop} {Ts : List Cond} {own : String} {As rest : List Value} {g : JFrame}
    (S : CallFix p m c cc nL s args Ts own) (hM : Met l y ws rm Pc Qc mc ms free) (cw : vx_CSW R s args own index y bytes maxL ret hh ws rm mc ms n) (hp : PreS s H Pc As)
    (hg : g.method = m) (hn : As.length = n) (hsize : g.locals.size = nL) (hstack : g.stack = As.reverse ++ rest) (hW : 2 * g.monitorRoom + (rest.map fun v => v.category).sum ≤ 8) (hdg : decode cc g.pc = .ok (.invokestatic index, 3)) (hf : cells + mc ≤ R.cells ∧ slots + ms ≤ R.slots) :
    va_Run p l e R s m args below meth c H locs cells slots mc ms g rest (Qc As.toArray) (free) := by
  obtain ⟨⟨hrc, hrs, hfr, hlo, hws, hcw⟩, hcode, hini, hy, hlen, hl, hstt⟩ := cw
  have hK : Back l R p e below s args y 3 8 (PreOf R mc ms Pc) (PostOf Qc mc ms free) := va_backW (hh := hh) (bytes := bytes) (maxL := maxL) (ret := ret) hM hp.1 hrc hrs hfr hlo hws hcw (fun a' U hW => word_at hW (Or.inl (by first | rfl | simp [Cond.onTables, Cond.keeps, Cond.steady])) hini)
  obtain ⟨hx, hb, hml, ho, -⟩ := S
  intro T hT X
  obtain ⟨v, vm₁, ⟨U', l2, c2, s2⟩, hW₁, X', ⟨g', mk, t, L, e1, e2, hq, h1, hL, h2, h3⟩, st⟩ := vx_callSW X hx (hh := hh) (bytes := bytes) (maxL := maxL) (ret := ret) ho hl hstt hini hcode hy hK hg (hsize.trans hml.symm) (argsL := As) (rest := rest) (fun sig h => hn.trans (hlen sig h)) hstack hW (by rw [hb]; exact hdg)
    (fun vm₁ hW₁ => ⟨hf.1, hf.2, hp.2 (T.setVm vm₁) hT hW₁⟩)
  dsimp only [Pt.U, Pt.locs, Pt.cells, Pt.slots] at X' e1 e2 h1 h2 h3 st
  subst h1; subst h2; subst h3
  exact ⟨v, (T.setVm vm₁).calling g' mk As.toArray, t, U', L, hT, X', hL, e1, e2, hq, st⟩
/-- not caught here, past rows that name other classes: it goes on to the caller -/
theorem vx_outP {p : Program} {l : Launch} {e : Env} {R : Room} {s : State} {m : MethodId} {args : Array Value} {below : List Frame} {meth : Method} {c : Code} {H : Heap} {locs : List Loc} {cells slots : Nat} {free : Addr → Prop} {ls : Array Slot} {rest : List Value} {Qc : Array Value → State → Outcome → State → Prop} {XC : String → State → State → Prop}
    {pc : Nat} {own E : String} {ce : Cell} {q : Addr} {mc ms : Nat} (hown : s.vm.findClass own = some m.cls) (hlocks : meth.locks = false)
    (hpass : ∀ z ∈ c.exceptionTable.toList, covers z pc = false ∨ (z.catchType ≠ 0 ∧ ∃ nm : String, (Cond.classLink own z.catchType nm).before args s = true ∧ va_Nc E nm s)) (hcell : H[q]? = some ce) (hv : ce.vm = .none) (hcl : s.vm.findClass E = some ce.cls)
    (hx : ∀ t : State, t.heap = H → s.vm.Alike t.vm → XC E s t) (hf : ∀ z ∈ locs, free z.base) (hc : cells ≤ mc) (hs : slots ≤ ms) :
    vx_W p l e R s m args below meth c H locs cells slots (vx_MQ below Qc XC args s mc ms free) (F0 m pc ls rest) q := by
  intro T hT X
  have hpl : e.platform.magicAccessors = ({} : Platform).magicAccessors := by rw [X.admits.platform]
  obtain ⟨vm', hW', X', st⟩ := X.outThrough hlocks q (g := F0 m pc ls rest) rfl rfl rfl (cell := ce) (by rw [hT]; exact hcell) (by rw [hv]; rfl)
    (by obtain ⟨k9, h9, -⟩ := Vm.findClass_spec hcl; exact ⟨k9, h9⟩) (fun z hz => by
      rcases hpass z hz with h | ⟨hz0, nm, hl1, hn1⟩
      · exact Or.inl h
      · obtain ⟨c6, hc6, hcl6⟩ := Cond.classLink_spec hown hl1 e.platform hpl
        obtain ⟨a8, b8, h1, h2, h3⟩ := hn1
        cases Option.some.inj (h1.symm.trans hcl)
        cases Option.some.inj (h2.symm.trans hc6)
        exact Or.inr ⟨hz0, _, hcl6, h3⟩)
  obtain ⟨g₀, hfr⟩ := X'.frames_eq
  have hcell9 : ((T.setVm vm').setFrames (.throwing q :: below)).heap[q]? = some ce := by
    show T.heap[q]? = some ce
    rw [hT]; exact hcell
  have hend : Ended ((T.setVm vm').setFrames (.throwing q :: below)) below (.threw q) := State.frames_setFrames _ (State.cur_lt_of_frames hfr)
  refine ⟨(T.setVm vm').setFrames (.throwing q :: below), ?_, .threw q, X'.here.running, hend, Or.inr ⟨q, rfl, E, ce, locs, hx _ hT (X'.ends _).1.alike, hcell9, hv, hcl, (X'.ends _).1, (X'.ends _).2.mono hc hs, hf⟩⟩
  rw [X.pushThrowing_eq]
  exact st
/-- a thing of a world lies in the heap -/
theorem vx_lt {D : va_G} {cl : List vw_C} {ws : va_W} {H1 : Heap} (h : va_P D cl ws H1) {k : Nat} {q : Nat × va_E} (hk : ws[k]? = some q) : q.1 < H1.size := (h k q hk).lt
end VXS
/-! ===== END ===== -/
/-! ===== BEGIN methods with a table of their own: called by a name, returning or throwing ===== -/
section VXH
/-! vx_backW, vx_callVX, vx_callSX, vx_callVW, vx_runVW, vx_runVX, vx_runSX, vx_ofWH follow the same proofs as their sisters above (Free/Laws.lean, Shelf42/LK1.lean); vx_outP calls Shelf42/NT130.lean (outThrough). -/
section
variable {l : Launch} {R : Room} {p : Program} {e : Env} {below : List Frame} {s : State} {sargs : Array Value} {y : MethodName} {len W9 : Nat}
theorem vx_backW {ws : List Cond} {rm : Room} {Pc : Array Value → State → Prop} {Qc : Array Value → State → Outcome → State → Prop} {XC : String → State → State → Prop} {mc ms : Nat} {free : Addr → Prop} {bytes : ByteArray} {maxL : Nat} {ret : Option FieldType} {hh : List (Nat × Nat × Nat × Nat)}
    (hM : vx_Met l y ws rm Pc Qc XC mc ms free) (hblind : FrameBlind Pc) (hrc : rm.cells = mc) (hrs : rm.slots = ms)
    (hframes : rm.frames + 1 ≤ R.frames) (hlocals : W9 + (maxL + 11) + rm.locals ≤ R.locals)
    (hws : ∀ w ∈ ws, ∀ a' U, s.WarmedH U.vm → w.before a' U = true) (hcode : Cond.codeWith y bytes maxL ret hh ∈ ws) (hinit : ∀ a' U, s.WarmedH U.vm → (Cond.initialized y.cls).before a' U = true) :
    vx_Back l R p e below s sargs y len W9 (PreOf R mc ms Pc) (PostOf Qc mc ms free) (vx_Post XC mc ms free) := by
  intro m meth c A g ig mk a X hg hsize hdg hW hn hp
  have h1 : (headSpec ws rm).pre.before a A.U = true := atoms_intro fun w hw => hws w hw _ _ X.warmed
  have h2 : (Cond.codeWith y bytes maxL ret hh).before a A.U = true := hws _ hcode _ _ X.warmed
  have h3 : (Cond.initialized y.cls).before a A.U = true := hinit _ _ X.warmed
  have h4 : A.cells + (headSpec ws rm).room.cells ≤ R.cells := by rw [show (headSpec ws rm).room.cells = mc from hrc]; exact hp.1
  have h5 : A.slots + (headSpec ws rm).room.slots ≤ R.slots := by rw [show (headSpec ws rm).room.slots = ms from hrs]; exact hp.2.1
  have hPc : Pc a (A.U.calling g mk a) := hblind _ _ _ _ hp.2.2
  obtain ⟨U, Ls, c0, s0⟩ := A
  dsimp only [Pt.U, Pt.locs, Pt.cells, Pt.slots] at h1 h2 h3 h4 h5 X hn hPc ⊢
  obtain ⟨m9, methY, cY, hn9, hmY, hcY, -, hlY, -⟩ := Cond.codeWith_spec h2
  cases Option.some.inj (hn9.symm.trans hn)
  obtain ⟨kY, hkY, -⟩ := className_of_methodNamed hn
  have hinitY : kY.init = .initialized := Cond.initialized_spec (findClass_of_methodNamed hn) hkY h3
  have h : At U g.method c below := by rw [hg]; exact X.here
  have hlocals9 : W9 + (maxL + 11) + (headSpec ws rm).room.locals ≤ R.locals := hlocals
  have happ : (headSpec ws rm).appliesLoose y e.platform (U.calling g mk a) = true :=
    Spec.appliesLoose_calling (g := g) h hdg hn hkY hinitY
      (X.room_calling (g := g) (R' := (headSpec ws rm).room) hsize hmY hcY hframes (by rw [hlY]; omega) h4 h5) h1
  obtain ⟨mid, hmid⟩ := h.above
  have hfr : (U.setTop g).frames = (.java g :: mid) ++ below := by rw [State.frames_setTop' g h.top, hmid]; rfl
  obtain ⟨o, s₂, hsteps, -, hend, hq⟩ := Steps.callFree hM p X.admits X.cas X.clock (acts := []) hfr happ hPc trivial
  have hq' : vx_Q Qc XC mc ms free a (U.calling g mk a) o s₂ := hq
  rw [State.frames_setTop' g h.top] at hend
  obtain ⟨g₀, hg0⟩ := Option.isSome_iff_exists.mp h.top
  obtain ⟨r, hr⟩ := State.topJava?_eq_some.mp hg0
  have hr' : (({ U with heap := s₂.heap, slotsUsed := s₂.slotsUsed } : State).setVm s₂.vm).frames = .java g₀ :: r := hr
  rcases hq' with ⟨hqc, L, hfe, hL⟩ | ⟨q, rfl, E, ce, L, hx, hce, hcv, hcl, hW₂, hsm, hL⟩
  · obtain ⟨⟨v, rfl⟩, hW₂, e2, q2, q3, q4, q5, q6⟩ := id hfe
    have e3 : s₂ = ({ (U.calling g mk a).setFrames s₂.frames with heap := s₂.heap, slotsUsed := s₂.slotsUsed } : State).setVm s₂.vm := by
      have : s₂ = ({ s₂ with vm := (U.calling g mk a).vm } : State).setVm s₂.vm := rfl
      rw [e2] at this
      exact this
    obtain ⟨c₂, i₂, len₂, hc₂, hd₂, hf₂⟩ := hend
    have hW' : U.WarmedH s₂.vm := hW₂
    have hcc : c₂ = c := by
      have h1 : s₂.code? g.method = U.code? g.method := by
        rw [State.code?_eq, State.code?_eq, hW'.alike.method?]
      exact Option.some.inj (hc₂.symm.trans (h1.trans h.code))
    subst hcc
    have hlen : len₂ = len := by rw [hdg] at hd₂; cases hd₂; rfl
    subst hlen
    have hs₂ : s₂ = (({ U with heap := s₂.heap, slotsUsed := s₂.slotsUsed } : State).setVm s₂.vm).setTop { g with pc := g.pc + len₂, stack := v.toList ++ g.stack } := by
      refine e3.trans ?_
      rw [hf₂, State.calling_eq h.top, State.setFrames_setFrames, State.setTop_of_frames _ hr', hr]
      rfl
    have hsame : U.sameButNew ({ U with heap := s₂.heap, slotsUsed := s₂.slotsUsed } : State) L mc ms := by
      refine ⟨?_, q2, q3, q4, q5, q6⟩
      obtain ⟨t, ht, -⟩ := State.frames_cons hr
      show ({ U with heap := s₂.heap, slotsUsed := s₂.slotsUsed } : State) = { U.setFrames U.frames with heap := s₂.heap, slotsUsed := s₂.slotsUsed }
      rw [State.setFrames_self ht]
    subst hg
    refine Or.inl ⟨v, ⟨(({ U with heap := s₂.heap, slotsUsed := s₂.slotsUsed } : State).setVm s₂.vm), Ls ++ L, c0 + mc, s0 + ms⟩,
      ⟨X.admits, X.cas, X.clock, X.frames, X.room, X.hears, X.method, X.code, (X.here.setHeapUsed s₂.heap s₂.slotsUsed).setVm hW'.alike, X.tail, State.WarmedH.trans X.warmed hW', X.limits, X.bytes, X.same.trans (hsame.setVm s.vm)⟩,
      ⟨g, mk, s₂, L, rfl, rfl, hqc, rfl, hL, rfl, rfl⟩, ?_⟩
    show Steps p.tables e below _ ((({ U with heap := s₂.heap, slotsUsed := s₂.slotsUsed } : State).setVm s₂.vm).setTop { g with pc := g.pc + len₂, stack := v.toList ++ g.stack })
    rw [← hs₂]
    exact hsteps
  · obtain ⟨e2, q2, q3, q4, q5, q6⟩ := id hsm
    have e3 : s₂ = ({ (U.calling g mk a).setFrames s₂.frames with heap := s₂.heap, slotsUsed := s₂.slotsUsed } : State).setVm s₂.vm := by
      have : s₂ = ({ s₂ with vm := (U.calling g mk a).vm } : State).setVm s₂.vm := rfl
      rw [e2] at this
      exact this
    have hf₂ : s₂.frames = .throwing q :: .java g :: U.frames.tail := hend
    have hW' : U.WarmedH s₂.vm := hW₂
    have hs₂ : s₂ = ((({ U with heap := s₂.heap, slotsUsed := s₂.slotsUsed } : State).setVm s₂.vm).setTop g).pushFrame (.throwing q) := by
      refine e3.trans ?_
      rw [hf₂, State.calling_eq h.top, State.setFrames_setFrames, State.pushFrame, State.frames_setTop _ hr', State.setTop_of_frames _ hr', State.setFrames_setFrames, hr]
      rfl
    have hsame : U.sameButNew ({ U with heap := s₂.heap, slotsUsed := s₂.slotsUsed } : State) L mc ms := by
      refine ⟨?_, q2, q3, q4, q5, q6⟩
      obtain ⟨t, ht, -⟩ := State.frames_cons hr
      show ({ U with heap := s₂.heap, slotsUsed := s₂.slotsUsed } : State) = { U.setFrames U.frames with heap := s₂.heap, slotsUsed := s₂.slotsUsed }
      rw [State.setFrames_self ht]
    subst hg
    refine Or.inr ⟨q, ⟨(({ U with heap := s₂.heap, slotsUsed := s₂.slotsUsed } : State).setVm s₂.vm), Ls ++ L, c0 + mc, s0 + ms⟩,
      ⟨X.admits, X.cas, X.clock, X.frames, X.room, X.hears, X.method, X.code, (X.here.setHeapUsed s₂.heap s₂.slotsUsed).setVm hW'.alike, X.tail, State.WarmedH.trans X.warmed hW', X.limits, X.bytes, X.same.trans (hsame.setVm s.vm)⟩,
      ⟨g, mk, s₂, L, E, ce, rfl, rfl, hx, hce, hcv, hcl, rfl, hL, rfl, rfl⟩, ?_⟩
    show Steps p.tables e below _ (((({ U with heap := s₂.heap, slotsUsed := s₂.slotsUsed } : State).setVm s₂.vm).setTop g).pushFrame (.throwing q))
    rw [← hs₂]
    exact hsteps
end
variable {p : Program} {l : Launch} {e : Env} {R : Room} {s : State} {m : MethodId} {args : Array Value} {below : List Frame} {meth : Method} {c : Code} {T : State} {H : Heap} {locs : List Loc} {cells slots : Nat}
theorem vx_callVX (X : Stand p l e R s m args below meth c T locs cells slots) (hexec : p.tables.exec = Jvm.exec) {own C : String} {index : Nat} {y : MethodName} {bytes : ByteArray} {maxL : Nat} {ret : Option FieldType} {hh : List (Nat × Nat × Nat × Nat)}
    (hown : s.vm.findClass own = some m.cls) (hlink : (Cond.methodLink own index y).before args s = true) (hinst : (Cond.instanceMethod y).before args s = true) (hsel : (Cond.selects C y y).before args s = true)
    (hcode : (Cond.codeWith y bytes maxL ret hh).before args s = true) (hy : y.cls ≠ "java/lang/invoke/MethodHandle" ∧ y.cls ≠ "java/lang/invoke/VarHandle")
    {W9 : Nat} {Pre : Pt → Array Value → Prop} {Post : Pt → Array Value → Option Value → Pt → Prop} {PostX : Pt → Array Value → Addr → Pt → Prop} (hK : vx_Back l R p e below s args y 3 W9 Pre Post PostX)
    {b : Addr} {cellB : Cell} (hcell : T.heap[b]? = some cellB) (hobj : cellB.vm.isStatics = false) (hcls : s.vm.findClass C = some cellB.cls)
    {g : JFrame} (hg : g.method = m) (hsize : g.locals.size = c.maxLocals) {argsL rest : List Value} (hlen : ∀ sig, parseMethodDescriptor y.desc = some sig → argsL.length = sig.parameters.length)
    (hstack : g.stack = argsL.reverse ++ .ref b :: rest) (hW : 2 * g.monitorRoom + (rest.map fun v => v.category).sum ≤ W9) (hdg : decode c.code g.pc = .ok (.invokevirtual index, 3))
    (hpre : ∀ vm₁, s.WarmedH vm₁ → Pre ⟨T.setVm vm₁, locs, cells, slots⟩ (Value.ref b :: argsL).toArray) :
    (∃ (v : Option Value) (vm₁ : Vm) (B : Pt), s.WarmedH vm₁ ∧ Stand p l e R s m args below meth c B.U B.locs B.cells B.slots ∧ Post ⟨T.setVm vm₁, locs, cells, slots⟩ (Value.ref b :: argsL).toArray v B ∧
      ∀ target, Steps p.tables e below (B.U.setTop { g with pc := g.pc + 3, stack := v.toList ++ rest }) target → Steps p.tables e below (T.setTop g) target) ∨
    (∃ (q : Addr) (vm₁ : Vm) (B : Pt), s.WarmedH vm₁ ∧ Stand p l e R s m args below meth c B.U B.locs B.cells B.slots ∧ PostX ⟨T.setVm vm₁, locs, cells, slots⟩ (Value.ref b :: argsL).toArray q B ∧
      Steps p.tables e below (T.setTop g) ((B.U.setTop { g with stack := rest }).pushFrame (.throwing q))) := by
  obtain ⟨mk, methM, hnamed, hmethM, hstM, habM⟩ := Cond.instanceMethod_spec hinst
  obtain ⟨m8, methM', cM, hn8, hmethM', -, -, -, -, -, -, hsigM⟩ := Cond.codeWith_spec hcode
  cases Option.some.inj (hn8.symm.trans hnamed)
  cases hmethM.symm.trans hmethM'
  obtain ⟨c2, r2, m2, q1, q2, q3, q4, kP, hkP, hkPi⟩ := Cond.selects_spec hsel
  cases hcls.symm.trans q1
  cases (State.methodFound?_of_named hnamed hy).symm.trans q2
  cases hnamed.symm.trans q3
  have hselP : selectMethod e.platform s.vm cellB.cls mk = .method mk := by rw [Launch.admits_selectMethod X.admits]; exact q4
  obtain ⟨vm₁, X₁, hstep₁⟩ := X.invokevirtual hexec hown hlink hnamed hmethM hstM hkP hkPi hy (a := b) (cell := cellB) hcell
    (fun z h => by rw [h] at hobj; cases hobj) hselP hmethM habM hkP hkPi (g := g) hg (argsL := argsL) (rest := rest) (hlen _ hsigM) hstack hdg
  rcases hK m meth c ⟨T.setVm vm₁, locs, cells, slots⟩ { g with stack := rest } (.invokevirtual index) mk (Value.ref b :: argsL).toArray X₁ hg hsize hdg hW (X₁.named hnamed) (hpre vm₁ X₁.warmed) with ⟨v, B, X', hpost, hsteps⟩ | ⟨q, B, X', hpost, hsteps⟩
  · exact Or.inl ⟨v, vm₁, B, X₁.warmed, X', hpost, fun target h => hstep₁ _ fun acts => by rw [doInvoke_state]; exact hsteps.trans h⟩
  · exact Or.inr ⟨q, vm₁, B, X₁.warmed, X', hpost, hstep₁ _ fun acts => by rw [doInvoke_state]; exact hsteps⟩
theorem vx_callSX (X : Stand p l e R s m args below meth c T locs cells slots) (hexec : p.tables.exec = Jvm.exec) {own : String} {index : Nat} {y : MethodName} {bytes : ByteArray} {maxL : Nat} {ret : Option FieldType} {hh : List (Nat × Nat × Nat × Nat)}
    (hown : s.vm.findClass own = some m.cls) (hlink : (Cond.methodLink own index y).before args s = true) (hstat : (Cond.static y).before args s = true) (hinit : (Cond.initialized y.cls).before args s = true)
    (hcode : (Cond.codeWith y bytes maxL ret hh).before args s = true) (hy : y.cls ≠ "java/lang/invoke/MethodHandle" ∧ y.cls ≠ "java/lang/invoke/VarHandle")
    {W9 : Nat} {Pre : Pt → Array Value → Prop} {Post : Pt → Array Value → Option Value → Pt → Prop} {PostX : Pt → Array Value → Addr → Pt → Prop} (hK : vx_Back l R p e below s args y 3 W9 Pre Post PostX)
    {g : JFrame} (hg : g.method = m) (hsize : g.locals.size = c.maxLocals) {argsL rest : List Value} (hlen : ∀ sig, parseMethodDescriptor y.desc = some sig → argsL.length = sig.parameters.length)
    (hstack : g.stack = argsL.reverse ++ rest) (hW : 2 * g.monitorRoom + (rest.map fun v => v.category).sum ≤ W9) (hdg : decode c.code g.pc = .ok (.invokestatic index, 3))
    (hpre : ∀ vm₁, s.WarmedH vm₁ → Pre ⟨T.setVm vm₁, locs, cells, slots⟩ argsL.toArray) :
    (∃ (v : Option Value) (vm₁ : Vm) (B : Pt), s.WarmedH vm₁ ∧ Stand p l e R s m args below meth c B.U B.locs B.cells B.slots ∧ Post ⟨T.setVm vm₁, locs, cells, slots⟩ argsL.toArray v B ∧
      ∀ target, Steps p.tables e below (B.U.setTop { g with pc := g.pc + 3, stack := v.toList ++ rest }) target → Steps p.tables e below (T.setTop g) target) ∨
    (∃ (q : Addr) (vm₁ : Vm) (B : Pt), s.WarmedH vm₁ ∧ Stand p l e R s m args below meth c B.U B.locs B.cells B.slots ∧ PostX ⟨T.setVm vm₁, locs, cells, slots⟩ argsL.toArray q B ∧
      Steps p.tables e below (T.setTop g) ((B.U.setTop { g with stack := rest }).pushFrame (.throwing q))) := by
  obtain ⟨mk, methM, cM, hnamed, hmethM, -, -, -, -, -, -, hsigM⟩ := Cond.codeWith_spec hcode
  have hstatic : methM.isStatic = true := Cond.static_spec hnamed hmethM hstat
  obtain ⟨kP, hkP, -⟩ := className_of_methodNamed hnamed
  have hinitP : kP.init = .initialized := Cond.initialized_spec (findClass_of_methodNamed hnamed) hkP hinit
  obtain ⟨vm₁, X₁, hstep₁⟩ := X.invokestatic hexec hown hlink hnamed hmethM hstatic hkP hinitP hy (g := g) hg (argsL := argsL) (rest := rest) (hlen _ hsigM) hstack hdg
  rcases hK m meth c ⟨T.setVm vm₁, locs, cells, slots⟩ { g with stack := rest } (.invokestatic index) mk argsL.toArray X₁ hg hsize hdg hW (X₁.named hnamed) (hpre vm₁ X₁.warmed) with ⟨v, B, X', hpost, hsteps⟩ | ⟨q, B, X', hpost, hsteps⟩
  · exact Or.inl ⟨v, vm₁, B, X₁.warmed, X', hpost, fun target h => hstep₁ _ fun acts => by rw [doInvoke_state]; exact hsteps.trans h⟩
  · exact Or.inr ⟨q, vm₁, B, X₁.warmed, X', hpost, hstep₁ _ fun acts => by rw [doInvoke_state]; exact hsteps⟩
theorem vx_callVW (X : Stand p l e R s m args below meth c T locs cells slots) (hexec : p.tables.exec = Jvm.exec) {own C : String} {index : Nat} {y : MethodName} {bytes : ByteArray} {maxL : Nat} {ret : Option FieldType} {hh : List (Nat × Nat × Nat × Nat)}
    (hown : s.vm.findClass own = some m.cls) (hlink : (Cond.methodLink own index y).before args s = true) (hinst : (Cond.instanceMethod y).before args s = true) (hsel : (Cond.selects C y y).before args s = true)
    (hcode : (Cond.codeWith y bytes maxL ret hh).before args s = true) (hy : y.cls ≠ "java/lang/invoke/MethodHandle" ∧ y.cls ≠ "java/lang/invoke/VarHandle")
    {W9 : Nat} {Pre : Pt → Array Value → Prop} {Post : Pt → Array Value → Option Value → Pt → Prop} (hK : Back l R p e below s args y 3 W9 Pre Post)
    {b : Addr} {cellB : Cell} (hcell : T.heap[b]? = some cellB) (hobj : cellB.vm.isStatics = false) (hcls : s.vm.findClass C = some cellB.cls)
    {g : JFrame} (hg : g.method = m) (hsize : g.locals.size = c.maxLocals) {argsL rest : List Value} (hlen : ∀ sig, parseMethodDescriptor y.desc = some sig → argsL.length = sig.parameters.length)
    (hstack : g.stack = argsL.reverse ++ .ref b :: rest) (hW : 2 * g.monitorRoom + (rest.map fun v => v.category).sum ≤ W9) (hdg : decode c.code g.pc = .ok (.invokevirtual index, 3))
    (hpre : ∀ vm₁, s.WarmedH vm₁ → Pre ⟨T.setVm vm₁, locs, cells, slots⟩ (Value.ref b :: argsL).toArray) :
    ∃ (v : Option Value) (vm₁ : Vm) (B : Pt), s.WarmedH vm₁ ∧ Stand p l e R s m args below meth c B.U B.locs B.cells B.slots ∧ Post ⟨T.setVm vm₁, locs, cells, slots⟩ (Value.ref b :: argsL).toArray v B ∧
      ∀ target, Steps p.tables e below (B.U.setTop { g with pc := g.pc + 3, stack := v.toList ++ rest }) target → Steps p.tables e below (T.setTop g) target := by
  obtain ⟨mk, methM, hnamed, hmethM, hstM, habM⟩ := Cond.instanceMethod_spec hinst
  obtain ⟨m8, methM', cM, hn8, hmethM', -, -, -, -, -, -, hsigM⟩ := Cond.codeWith_spec hcode
  cases Option.some.inj (hn8.symm.trans hnamed)
  cases hmethM.symm.trans hmethM'
  obtain ⟨c2, r2, m2, q1, q2, q3, q4, kP, hkP, hkPi⟩ := Cond.selects_spec hsel
  cases hcls.symm.trans q1
  cases (State.methodFound?_of_named hnamed hy).symm.trans q2
  cases hnamed.symm.trans q3
  have hselP : selectMethod e.platform s.vm cellB.cls mk = .method mk := by rw [Launch.admits_selectMethod X.admits]; exact q4
  obtain ⟨vm₁, X₁, hstep₁⟩ := X.invokevirtual hexec hown hlink hnamed hmethM hstM hkP hkPi hy (a := b) (cell := cellB) hcell
    (fun z h => by rw [h] at hobj; cases hobj) hselP hmethM habM hkP hkPi (g := g) hg (argsL := argsL) (rest := rest) (hlen _ hsigM) hstack hdg
  obtain ⟨v, B, X', hpost, hsteps⟩ := hK m meth c ⟨T.setVm vm₁, locs, cells, slots⟩ { g with stack := rest } (.invokevirtual index) mk (Value.ref b :: argsL).toArray X₁ hg hsize hdg hW (X₁.named hnamed) (hpre vm₁ X₁.warmed)
  exact ⟨v, vm₁, B, X₁.warmed, X', hpost, fun target h => hstep₁ _ fun acts => by rw [doInvoke_state]; exact hsteps.trans h⟩
abbrev vx_CVW (R : Room) (s : State) (args : Array Value) (own C : String) (index : Nat) (y : MethodName) (bytes : ByteArray) (maxL : Nat) (ret : Option FieldType) (hh : List (Nat × Nat × Nat × Nat)) (ws : List Cond) (rm : Room) (mc ms n : Nat) : Prop :=
  (rm.cells = mc ∧ rm.slots = ms ∧ rm.frames + 1 ≤ R.frames ∧ 8 + (maxL + 11) + rm.locals ≤ R.locals ∧ (∀ w ∈ ws, ∀ (a' : Array Value) (U : State), s.WarmedH U.vm → w.before a' U = true) ∧ Cond.codeWith y bytes maxL ret hh ∈ ws) ∧
  (Cond.codeWith y bytes maxL ret hh).before args s = true ∧ (Cond.initialized y.cls).before args s = true ∧ (y.cls ≠ "java/lang/invoke/MethodHandle" ∧ y.cls ≠ "java/lang/invoke/VarHandle") ∧
  (∀ sig, parseMethodDescriptor y.desc = some sig → n = sig.parameters.length) ∧ (Cond.methodLink own index y).before args s = true ∧ (Cond.instanceMethod y).before args s = true ∧ (Cond.selects C y y).before args s = true
theorem vx_cwVW {own C : String} {index maxL mc ms : Nat} {y : MethodName} {bytes : ByteArray} {ret : Option FieldType} {hh : List (Nat × Nat × Nat × Nat)} {Ts ws ws' : List Cond} {rm : Room} (n : Nat) (ht : ∀ w ∈ Ts, w.before args s = true) (hT : GoodIn Ts (wsV own index C y ws)) (hw : ws = Cond.codeWith y bytes maxL ret hh :: ws') (hrc : rm.cells = mc) (hrs : rm.slots = ms)
    (hd : y.cls = C ∧ y.cls ≠ "java/lang/invoke/MethodHandle" ∧ y.cls ≠ "java/lang/invoke/VarHandle" ∧ (parseMethodDescriptor y.desc).map (fun d => d.parameters.length) = some n) (hR : rm.frames + 1 ≤ R.frames ∧ 8 + (maxL + 11) + rm.locals ≤ R.locals) :
    vx_CVW R s args own C index y bytes maxL ret hh ws rm mc ms n := by
  obtain ⟨hC, hd⟩ := hd
  subst hC
  have ok : ∀ w ∈ wsV own index y.cls y ws, w.before args s = true := fun w h => ht w (hT w h).1
  have hG : GoodIn Ts ws := fun w h => hT w (by unfold wsV; exact List.mem_append_right _ h)
  have hc : Cond.codeWith y bytes maxL ret hh ∈ ws := by rw [hw]; exact List.mem_cons_self
  refine ⟨⟨hrc, hrs, hR.1, hR.2, pay_in ht hG, hc⟩, ht _ (hG _ hc).1, ok _ (by simp [wsV]), ⟨hd.1, hd.2.1⟩, fun sig h => ?_, ok _ (by simp [wsV]), ok _ (by simp [wsV]), ok _ (by simp [wsV])⟩
  have h2 := hd.2.2
  rw [h] at h2
  exact (Option.some.inj h2).symm
theorem vx_runVW {y : MethodName} {bytes cc : ByteArray} {maxL nL mc ms n index : Nat} {ret : Option FieldType} {hh : List (Nat × Nat × Nat × Nat)} {ws : List Cond} {rm : Room} {Pc : Array Value → State → Prop} {Qc : Array Value → State → Outcome → State → Prop} {free : Addr → Prop} {Ts : List Cond} {own C : String} {b : Addr} {As rest : List Value} {g : JFrame}
    (S : CallFix p m c cc nL s args Ts own) (hM : Met l y ws rm Pc Qc mc ms free) (cw : vx_CVW R s args own C index y bytes maxL ret hh ws rm mc ms n) (hp : PreV s H C b Pc As)
    (hg : g.method = m) (hn : As.length = n) (hsize : g.locals.size = nL) (hstack : g.stack = As.reverse ++ .ref b :: rest) (hW : 2 * g.monitorRoom + (rest.map fun v => v.category).sum ≤ 8) (hdg : decode cc g.pc = .ok (.invokevirtual index, 3)) (hf : cells + mc ≤ R.cells ∧ slots + ms ≤ R.slots) :
    va_Run p l e R s m args below meth c H locs cells slots mc ms g rest (Qc (Value.ref b :: As).toArray) free := by
  obtain ⟨⟨hrc, hrs, hfr, hlo, hws, hcw⟩, hcode, hini, hy, hlen, hl, hin, hse⟩ := cw
  have hK : Back l R p e below s args y 3 8 (PreOf R mc ms Pc) (PostOf Qc mc ms free) := va_backW (hh := hh) (bytes := bytes) (maxL := maxL) (ret := ret) hM hp.1 hrc hrs hfr hlo hws hcw (fun a' U hW => word_at hW (Or.inl (by first | rfl | simp [Cond.onTables, Cond.keeps, Cond.steady])) hini)
  obtain ⟨hx, hb, hml, ho, -⟩ := S
  obtain ⟨-, ⟨cellB, hcB, hoB, hclB⟩, hPc⟩ := hp
  intro T hT X
  obtain ⟨v, vm₁, ⟨U', l2, c2, s2⟩, hW₁, X', ⟨g', mk, t, L, e1, e2, hq, h1, hL, h2, h3⟩, st⟩ := vx_callVW X hx (C := C) (hh := hh) (bytes := bytes) (maxL := maxL) (ret := ret) ho hl hin hse hcode hy hK (by rw [hT]; exact hcB) hoB hclB hg (hsize.trans hml.symm) (argsL := As) (rest := rest) (fun sig h => hn.trans (hlen sig h)) hstack hW (by rw [hb]; exact hdg)
    (fun vm₁ hW₁ => ⟨hf.1, hf.2, hPc (T.setVm vm₁) hT hW₁⟩)
  dsimp only [Pt.U, Pt.locs, Pt.cells, Pt.slots] at X' e1 e2 h1 h2 h3 st
  subst h1; subst h2; subst h3
  exact ⟨v, (T.setVm vm₁).calling g' mk (Value.ref b :: As).toArray, t, U', L, hT, X', hL, e1, e2, hq, st⟩
section
variable {y : MethodName} {bytes cc : ByteArray} {maxL nL mc ms n index : Nat} {ret : Option FieldType} {ws : List Cond} {rm : Room} {Pc : Array Value → State → Prop} {Qc : Array Value → State → Outcome → State → Prop} {XC : String → State → State → Prop} {free : Addr → Prop} {Ts : List Cond} {own C : String} {b : Addr} {As rest : List Value} {g : JFrame}
theorem vx_runVX {hh : List (Nat × Nat × Nat × Nat)} (S : CallFix p m c cc nL s args Ts own) (hM : vx_Met l y ws rm Pc Qc XC mc ms free) (cw : vx_CVW R s args own C index y bytes maxL ret hh ws rm mc ms n) (hp : PreV s H C b Pc As)
    (hg : g.method = m) (hn : As.length = n) (hsize : g.locals.size = nL) (hstack : g.stack = As.reverse ++ .ref b :: rest) (hW : 2 * g.monitorRoom + (rest.map fun v => v.category).sum ≤ 8) (hdg : decode cc g.pc = .ok (.invokevirtual index, 3)) (hf : cells + mc ≤ R.cells ∧ slots + ms ≤ R.slots) :
    vx_Run p l e R s m args below meth c H locs cells slots mc ms g rest (Qc (Value.ref b :: As).toArray) XC free := by
  obtain ⟨⟨hrc, hrs, hfr, hlo, hws, hcw⟩, hcode, hini, hy, hlen, hl, hin, hse⟩ := cw
  have hK : vx_Back l R p e below s args y 3 8 (PreOf R mc ms Pc) (PostOf Qc mc ms free) (vx_Post XC mc ms free) := vx_backW (hh := hh) (bytes := bytes) (maxL := maxL) (ret := ret) hM hp.1 hrc hrs hfr hlo hws hcw (fun a' U hW => word_at hW (Or.inl (by first | rfl | simp [Cond.onTables, Cond.keeps, Cond.steady])) hini)
  obtain ⟨hx, hb, hml, ho, -⟩ := S
  obtain ⟨-, ⟨cellB, hcB, hoB, hclB⟩, hPc⟩ := hp
  intro T hT X
  rcases vx_callVX X hx (C := C) (hh := hh) (bytes := bytes) (maxL := maxL) (ret := ret) ho hl hin hse hcode hy hK (by rw [hT]; exact hcB) hoB hclB hg (hsize.trans hml.symm) (argsL := As) (rest := rest) (fun sig h => hn.trans (hlen sig h)) hstack hW (by rw [hb]; exact hdg)
    (fun vm₁ hW₁ => ⟨hf.1, hf.2, hPc (T.setVm vm₁) hT hW₁⟩) with ⟨v, vm₁, ⟨U', l2, c2, s2⟩, hW₁, X', ⟨g', mk, t, L, e1, e2, hq, h1, hL, h2, h3⟩, st⟩ | ⟨q, vm₁, ⟨U', l2, c2, s2⟩, hW₁, X', ⟨g', mk, t, L, E, ce, e1, e2, hq, hce, hcv, hcl, h1, hL, h2, h3⟩, st⟩
  · dsimp only [Pt.U, Pt.locs, Pt.cells, Pt.slots] at X' e1 e2 h1 h2 h3 st
    subst h1; subst h2; subst h3
    exact Or.inl ⟨v, (T.setVm vm₁).calling g' mk (Value.ref b :: As).toArray, t, U', L, hT, X', hL, e1, e2, hq, st⟩
  · dsimp only [Pt.U, Pt.locs, Pt.cells, Pt.slots] at X' e1 e2 h1 h2 h3 st hcl
    subst h1; subst h2; subst h3
    exact Or.inr ⟨q, (T.setVm vm₁).calling g' mk (Value.ref b :: As).toArray, t, U', L, E, ce, hT, X', hL, e1, e2, hq, hce, hcv, vx_cls hW₁ hcl, st⟩
theorem vx_runSX {hh : List (Nat × Nat × Nat × Nat)} (S : CallFix p m c cc nL s args Ts own) (hM : vx_Met l y ws rm Pc Qc XC mc ms free) (cw : vx_CSW R s args own index y bytes maxL ret hh ws rm mc ms n) (hp : PreS s H Pc As)
    (hg : g.method = m) (hn : As.length = n) (hsize : g.locals.size = nL) (hstack : g.stack = As.reverse ++ rest) (hW : 2 * g.monitorRoom + (rest.map fun v => v.category).sum ≤ 8) (hdg : decode cc g.pc = .ok (.invokestatic index, 3)) (hf : cells + mc ≤ R.cells ∧ slots + ms ≤ R.slots) :
    vx_Run p l e R s m args below meth c H locs cells slots mc ms g rest (Qc As.toArray) XC free := by
  obtain ⟨⟨hrc, hrs, hfr, hlo, hws, hcw⟩, hcode, hini, hy, hlen, hl, hstt⟩ := cw
  have hK : vx_Back l R p e below s args y 3 8 (PreOf R mc ms Pc) (PostOf Qc mc ms free) (vx_Post XC mc ms free) := vx_backW (hh := hh) (bytes := bytes) (maxL := maxL) (ret := ret) hM hp.1 hrc hrs hfr hlo hws hcw (fun a' U hW => word_at hW (Or.inl (by first | rfl | simp [Cond.onTables, Cond.keeps, Cond.steady])) hini)
  obtain ⟨hx, hb, hml, ho, -⟩ := S
  intro T hT X
  rcases vx_callSX X hx (hh := hh) (bytes := bytes) (maxL := maxL) (ret := ret) ho hl hstt hini hcode hy hK hg (hsize.trans hml.symm) (argsL := As) (rest := rest) (fun sig h => hn.trans (hlen sig h)) hstack hW (by rw [hb]; exact hdg)
    (fun vm₁ hW₁ => ⟨hf.1, hf.2, hp.2 (T.setVm vm₁) hT hW₁⟩) with ⟨v, vm₁, ⟨U', l2, c2, s2⟩, hW₁, X', ⟨g', mk, t, L, e1, e2, hq, h1, hL, h2, h3⟩, st⟩ | ⟨q, vm₁, ⟨U', l2, c2, s2⟩, hW₁, X', ⟨g', mk, t, L, E, ce, e1, e2, hq, hce, hcv, hcl, h1, hL, h2, h3⟩, st⟩
  · dsimp only [Pt.U, Pt.locs, Pt.cells, Pt.slots] at X' e1 e2 h1 h2 h3 st
    subst h1; subst h2; subst h3
    exact Or.inl ⟨v, (T.setVm vm₁).calling g' mk As.toArray, t, U', L, hT, X', hL, e1, e2, hq, st⟩
  · dsimp only [Pt.U, Pt.locs, Pt.cells, Pt.slots] at X' e1 e2 h1 h2 h3 st hcl
    subst h1; subst h2; subst h3
    exact Or.inr ⟨q, (T.setVm vm₁).calling g' mk As.toArray, t, U', L, E, ce, hT, X', hL, e1, e2, hq, hce, hcv, vx_cls hW₁ hcl, st⟩
end
end VXH
theorem vx_ofWH {l : Launch} {y : MethodName} {ws ws' : List Cond} {rm : Room} {Pc : Array Value → State → Prop} {Qc : Array Value → State → Outcome → State → Prop} {XC : String → State → State → Prop} {mc ms : Nat} {free : Addr → Prop} {cc : ByteArray} {maxL : Nat} {ret : Option FieldType} {hh : List (Nat × Nat × Nat × Nat)}
    (hy : plainName y.cls = true) (hw : ws = Cond.codeWith y cc maxL ret hh :: ws')
    (body : ∀ p e s m args below meth c s₁, BodyLoose p l y (headSpec ws rm) cc maxL ret e s m args below meth c s₁ → c.maxLocals = maxL → Pc args s →
      W p l e (headSpec ws rm).room s m args below meth c s.heap [] 0 0 (vx_MQ below Qc XC args s mc ms free) (entryFrame m args maxL)) : vx_Met l y ws rm Pc Qc XC mc ms free := by
  refine MetFree.of_bodyS (code := cc) (maxLocals := maxL) (ret := ret) hy ?_ ?_
  · intro args s m h hn
    obtain ⟨m9, meth, c, hn9, h1, h2, h3, h4, -, h5, h6, -⟩ := Cond.codeWith_spec (atoms_spec (ws := ws) h _ (by rw [hw]; exact List.mem_cons_self))
    cases hn.symm.trans hn9
    exact ⟨meth, c, h1, h2, h3, h4, h5, h6⟩
  · intro p e s m args below meth c s₁ B hml hP _
    have hh0 : s₁.heap = s.heap := by rw [B.state]; rfl
    obtain ⟨t, a1, o, b1, b2, b3⟩ := body p e s m args below meth c s₁ B hml hP s₁ hh0 (Stand.of_body B)
    exact ⟨t, o, a1, b1, b2, b3⟩
/-! ===== END ===== -/

/-! ===== BEGIN printed: names, fields, word lists, decode rows ===== -/
def RX0 : String := "KnifeLedger$Reckoning"
def TX0 : u_T := fun k => match k with
  | 0 => ("KnifeLedger$Reckoning", "lights", "[I", true)
  | 1 => ("KnifeLedger$Reckoning", "trembles", "[I", true)
  | 2 => ("KnifeLedger$Reckoning", "trusts", "[I", true)
  | 3 => ("KnifeLedger$Reckoning", "coins", "I", false)
  | 4 => ("KnifeLedger$Reckoning", "plasters", "I", false)
  | 5 => ("KnifeLedger$Reckoning", "stage", "I", false)
  | 6 => ("KnifeLedger$Reckoning", "joined", "I", false)
  | 7 => ("KnifeLedger$Reckoning", "counting", "I", false)
  | 8 => ("KnifeLedger$Reckoning", "idle", "I", false)
  | 9 => ("KnifeLedger$Reckoning", "firstIdle", "I", false)
  | _ => ("KnifeLedger$Reckoning", "fewestCoins", "I", false)
def tyX0 : Nat → FieldType := fun k => match k with
  | 0 => .array .int
  | 1 => .array .int
  | 2 => .array .int
  | 3 => .int
  | 4 => .int
  | 5 => .int
  | 6 => .int
  | 7 => .int
  | 8 => .int
  | 9 => .int
  | _ => .int
abbrev wsX00 : List Cond := u_ws RX0 TX0 11
theorem nmX0 : ∀ a, a < 11 → ∀ b, b < 11 → a ≠ b → (TX0 a).2.1 ≠ (TX0 b).2.1 := by decide +kernel
theorem tyX0_ok : ∀ k, k < 11 → parseFieldDescriptor (TX0 k).2.2.1 = some (tyX0 k) := by decide +kernel
abbrev cX0_init : ByteArray := prog_2_method_1_code
def yX0_init : MethodName := ⟨RX0, "<init>", "([I[I)V"⟩
abbrev cX0_begin : ByteArray := prog_2_method_2_code
def yX0_begin : MethodName := ⟨RX0, "begin", "()V"⟩
abbrev cX0_reckonEntry : ByteArray := prog_2_method_3_code
def yX0_reckonEntry : MethodName := ⟨RX0, "reckonEntry", "(IIII)V"⟩
abbrev cX0_happens : ByteArray := prog_2_method_4_code
def yX0_happens : MethodName := ⟨RX0, "happens", "(III)Z"⟩
abbrev cX0_happensJoin : ByteArray := prog_2_method_5_code
def yX0_happensJoin : MethodName := ⟨RX0, "happensJoin", "(I)Z"⟩
abbrev cX0_happensToss : ByteArray := prog_2_method_6_code
def yX0_happensToss : MethodName := ⟨RX0, "happensToss", "(II)Z"⟩
abbrev cX0_scratch : ByteArray := prog_2_method_7_code
def yX0_scratch : MethodName := ⟨RX0, "scratch", "(I)V"⟩
abbrev cX0_happensRest : ByteArray := prog_2_method_8_code
def yX0_happensRest : MethodName := ⟨RX0, "happensRest", "(I)Z"⟩
abbrev cX0_happensPay : ByteArray := prog_2_method_9_code
def yX0_happensPay : MethodName := ⟨RX0, "happensPay", "(II)Z"⟩
abbrev cX0_happensBuy : ByteArray := prog_2_method_10_code
def yX0_happensBuy : MethodName := ⟨RX0, "happensBuy", "(I)Z"⟩
abbrev cX0_hasJoined : ByteArray := prog_2_method_11_code
def yX0_hasJoined : MethodName := ⟨RX0, "hasJoined", "(I)Z"⟩
abbrev cX0_standsFor : ByteArray := prog_2_method_12_code
def yX0_standsFor : MethodName := ⟨RX0, "standsFor", "(I)Z"⟩
abbrev cX0_takings : ByteArray := prog_2_method_13_code
def yX0_takings : MethodName := ⟨RX0, "takings", "(I)I"⟩
abbrev cX0_addTrust : ByteArray := prog_2_method_14_code
def yX0_addTrust : MethodName := ⟨RX0, "addTrust", "(II)V"⟩
abbrev cX0_trustOfAll : ByteArray := prog_2_method_15_code
def yX0_trustOfAll : MethodName := ⟨RX0, "trustOfAll", "()I"⟩
def RX1 : String := "KnifeLedger"
def TX1 : u_T := fun k => match k with
  | 0 => ("KnifeLedger", "lights", "[I", true)
  | 1 => ("KnifeLedger", "trembles", "[I", true)
  | 2 => ("KnifeLedger", "kinds", "[I", true)
  | 3 => ("KnifeLedger", "firsts", "[I", true)
  | 4 => ("KnifeLedger", "seconds", "[I", true)
  | 5 => ("KnifeLedger", "struck", "[Z", true)
  | 6 => ("KnifeLedger", "size", "I", false)
  | _ => ("KnifeLedger", "reckoning", "LKnifeLedger$Reckoning;", true)
def tyX1 : Nat → FieldType := fun k => match k with
  | 0 => .array .int
  | 1 => .array .int
  | 2 => .array .int
  | 3 => .array .int
  | 4 => .array .int
  | 5 => .array .boolean
  | 6 => .int
  | _ => .object "KnifeLedger$Reckoning"
abbrev wsX10 : List Cond := u_ws RX1 TX1 8
theorem nmX1 : ∀ a, a < 8 → ∀ b, b < 8 → a ≠ b → (TX1 a).2.1 ≠ (TX1 b).2.1 := by decide +kernel
theorem tyX1_ok : ∀ k, k < 8 → parseFieldDescriptor (TX1 k).2.2.1 = some (tyX1 k) := by decide +kernel
abbrev cX1_init : ByteArray := prog_1_method_1_code
def yX1_init : MethodName := ⟨RX1, "<init>", "()V"⟩
abbrev cX1_set : ByteArray := prog_1_method_2_code
def yX1_set : MethodName := ⟨RX1, "set", "(III)I"⟩
abbrev cX1_join : ByteArray := prog_1_method_3_code
def yX1_join : MethodName := ⟨RX1, "join", "(I)I"⟩
abbrev cX1_toss : ByteArray := prog_1_method_4_code
def yX1_toss : MethodName := ⟨RX1, "toss", "(II)I"⟩
abbrev cX1_rest : ByteArray := prog_1_method_5_code
def yX1_rest : MethodName := ⟨RX1, "rest", "(I)I"⟩
abbrev cX1_go : ByteArray := prog_1_method_6_code
def yX1_go : MethodName := ⟨RX1, "go", "(I)I"⟩
abbrev cX1_pay : ByteArray := prog_1_method_7_code
def yX1_pay : MethodName := ⟨RX1, "pay", "(II)I"⟩
abbrev cX1_buy : ByteArray := prog_1_method_8_code
def yX1_buy : MethodName := ⟨RX1, "buy", "(I)I"⟩
abbrev cX1_strike : ByteArray := prog_1_method_9_code
def yX1_strike : MethodName := ⟨RX1, "strike", "(I)Z"⟩
abbrev cX1_shift : ByteArray := prog_1_method_10_code
def yX1_shift : MethodName := ⟨RX1, "shift", "(II)I"⟩
abbrev cX1_tear : ByteArray := prog_1_method_11_code
def yX1_tear : MethodName := ⟨RX1, "tear", "()I"⟩
abbrev cX1_entry : ByteArray := prog_1_method_12_code
def yX1_entry : MethodName := ⟨RX1, "entry", "(II)I"⟩
abbrev cX1_behind : ByteArray := prog_1_method_13_code
def yX1_behind : MethodName := ⟨RX1, "behind", "(II)I"⟩
abbrev cX1_trust : ByteArray := prog_1_method_14_code
def yX1_trust : MethodName := ⟨RX1, "trust", "(II)I"⟩
abbrev cX1_count : ByteArray := prog_1_method_15_code
def yX1_count : MethodName := ⟨RX1, "count", "(I)I"⟩
abbrev cX1_worth : ByteArray := prog_1_method_16_code
def yX1_worth : MethodName := ⟨RX1, "worth", "(I)I"⟩
abbrev cX1_best : ByteArray := prog_1_method_17_code
def yX1_best : MethodName := ⟨RX1, "best", "()I"⟩
abbrev cX1_would : ByteArray := prog_1_method_18_code
def yX1_would : MethodName := ⟨RX1, "would", "(II)I"⟩
abbrev cX1_mean : ByteArray := prog_1_method_19_code
def yX1_mean : MethodName := ⟨RX1, "mean", "()D"⟩
abbrev cX1_digest : ByteArray := prog_1_method_20_code
def yX1_digest : MethodName := ⟨RX1, "digest", "()J"⟩
abbrev cX1_needIndex : ByteArray := prog_1_method_21_code
def yX1_needIndex : MethodName := ⟨RX1, "needIndex", "(II)V"⟩
abbrev cX1_needWithin : ByteArray := prog_1_method_22_code
def yX1_needWithin : MethodName := ⟨RX1, "needWithin", "(III)V"⟩
abbrev cX1_append : ByteArray := prog_1_method_23_code
def yX1_append : MethodName := ⟨RX1, "append", "(III)I"⟩
abbrev cX1_swap : ByteArray := prog_1_method_24_code
def yX1_swap : MethodName := ⟨RX1, "swap", "(II)V"⟩
abbrev cX1_swapNumbers : ByteArray := prog_1_method_25_code
def yX1_swapNumbers : MethodName := ⟨RX1, "swapNumbers", "([III)V"⟩
abbrev cX1_reckon : ByteArray := prog_1_method_26_code
def yX1_reckon : MethodName := ⟨RX1, "reckon", "(II)V"⟩
abbrev cX1_coinsBehindAll : ByteArray := prog_1_method_27_code
def yX1_coinsBehindAll : MethodName := ⟨RX1, "coinsBehindAll", "(I)I"⟩
abbrev cX1_counts : ByteArray := prog_1_method_28_code
def yX1_counts : MethodName := ⟨RX1, "counts", "(I)Z"⟩
def RX2 : String := "KnifeLedgerModel"
def TX2 : u_T := fun k => match k with
  | 0 => ("KnifeLedgerModel", "thrown", "I", false)
  | 1 => ("KnifeLedgerModel", "light", "[I", true)
  | 2 => ("KnifeLedgerModel", "tremble", "[I", true)
  | 3 => ("KnifeLedgerModel", "entries", "I", false)
  | 4 => ("KnifeLedgerModel", "kinds", "[I", true)
  | 5 => ("KnifeLedgerModel", "firsts", "[I", true)
  | 6 => ("KnifeLedgerModel", "seconds", "[I", true)
  | 7 => ("KnifeLedgerModel", "struck", "[Z", true)
  | 8 => ("KnifeLedgerModel", "coins", "I", false)
  | 9 => ("KnifeLedgerModel", "plasters", "I", false)
  | 10 => ("KnifeLedgerModel", "stage", "I", false)
  | 11 => ("KnifeLedgerModel", "joined", "I", false)
  | 12 => ("KnifeLedgerModel", "counting", "I", false)
  | 13 => ("KnifeLedgerModel", "idle", "I", false)
  | 14 => ("KnifeLedgerModel", "firstIdle", "I", false)
  | 15 => ("KnifeLedgerModel", "fewest", "I", false)
  | _ => ("KnifeLedgerModel", "trusts", "[I", true)
def tyX2 : Nat → FieldType := fun k => match k with
  | 0 => .int
  | 1 => .array .int
  | 2 => .array .int
  | 3 => .int
  | 4 => .array .int
  | 5 => .array .int
  | 6 => .array .int
  | 7 => .array .boolean
  | 8 => .int
  | 9 => .int
  | 10 => .int
  | 11 => .int
  | 12 => .int
  | 13 => .int
  | 14 => .int
  | 15 => .int
  | _ => .array .int
abbrev wsX20 : List Cond := u_ws RX2 TX2 17
theorem nmX2 : ∀ a, a < 17 → ∀ b, b < 17 → a ≠ b → (TX2 a).2.1 ≠ (TX2 b).2.1 := by decide +kernel
theorem tyX2_ok : ∀ k, k < 17 → parseFieldDescriptor (TX2 k).2.2.1 = some (tyX2 k) := by decide +kernel
abbrev cX2_init : ByteArray := prog_4_method_1_code
def yX2_init : MethodName := ⟨RX2, "<init>", "()V"⟩
abbrev cX2_thrown : ByteArray := prog_4_method_2_code
def yX2_thrown : MethodName := ⟨RX2, "thrown", "()I"⟩
abbrev cX2_fail : ByteArray := prog_4_method_3_code
def yX2_fail : MethodName := ⟨RX2, "fail", "(I)I"⟩
abbrev cX2_isIn : ByteArray := prog_4_method_4_code
def yX2_isIn : MethodName := ⟨RX2, "isIn", "(III)Z"⟩
abbrev cX2_isEntry : ByteArray := prog_4_method_5_code
def yX2_isEntry : MethodName := ⟨RX2, "isEntry", "(I)Z"⟩
abbrev cX2_set : ByteArray := prog_4_method_6_code
def yX2_set : MethodName := ⟨RX2, "set", "(III)I"⟩
abbrev cX2_write : ByteArray := prog_4_method_7_code
def yX2_write : MethodName := ⟨RX2, "write", "(III)I"⟩
abbrev cX2_join : ByteArray := prog_4_method_8_code
def yX2_join : MethodName := ⟨RX2, "join", "(I)I"⟩
abbrev cX2_toss : ByteArray := prog_4_method_9_code
def yX2_toss : MethodName := ⟨RX2, "toss", "(II)I"⟩
abbrev cX2_rest : ByteArray := prog_4_method_10_code
def yX2_rest : MethodName := ⟨RX2, "rest", "(I)I"⟩
abbrev cX2_go : ByteArray := prog_4_method_11_code
def yX2_go : MethodName := ⟨RX2, "go", "(I)I"⟩
abbrev cX2_pay : ByteArray := prog_4_method_12_code
def yX2_pay : MethodName := ⟨RX2, "pay", "(II)I"⟩
abbrev cX2_buy : ByteArray := prog_4_method_13_code
def yX2_buy : MethodName := ⟨RX2, "buy", "(I)I"⟩
abbrev cX2_more : ByteArray := prog_4_method_14_code
def yX2_more : MethodName := ⟨RX2, "more", "(II)V"⟩
abbrev cX2_canToss : ByteArray := prog_4_method_15_code
def yX2_canToss : MethodName := ⟨RX2, "canToss", "(I)Z"⟩
abbrev cX2_brings : ByteArray := prog_4_method_16_code
def yX2_brings : MethodName := ⟨RX2, "brings", "(I)I"⟩
abbrev cX2_holds : ByteArray := prog_4_method_17_code
def yX2_holds : MethodName := ⟨RX2, "holds", "(I)Z"⟩
abbrev cX2_stick : ByteArray := prog_4_method_18_code
def yX2_stick : MethodName := ⟨RX2, "stick", "(II)V"⟩
abbrev cX2_carryOut : ByteArray := prog_4_method_19_code
def yX2_carryOut : MethodName := ⟨RX2, "carryOut", "(I)V"⟩
abbrev cX2_reckon : ByteArray := prog_4_method_20_code
def yX2_reckon : MethodName := ⟨RX2, "reckon", "(I)Z"⟩
abbrev cX2_trustAll : ByteArray := prog_4_method_21_code
def yX2_trustAll : MethodName := ⟨RX2, "trustAll", "()I"⟩
abbrev cX2_strike : ByteArray := prog_4_method_22_code
def yX2_strike : MethodName := ⟨RX2, "strike", "(I)Z"⟩
abbrev cX2_exchange : ByteArray := prog_4_method_23_code
def yX2_exchange : MethodName := ⟨RX2, "exchange", "(II)V"⟩
abbrev cX2_shift : ByteArray := prog_4_method_24_code
def yX2_shift : MethodName := ⟨RX2, "shift", "(II)I"⟩
abbrev cX2_tear : ByteArray := prog_4_method_25_code
def yX2_tear : MethodName := ⟨RX2, "tear", "()I"⟩
abbrev cX2_entryTold : ByteArray := prog_4_method_26_code
def yX2_entryTold : MethodName := ⟨RX2, "entryTold", "(II)I"⟩
abbrev cX2_entry : ByteArray := prog_4_method_27_code
def yX2_entry : MethodName := ⟨RX2, "entry", "(II)I"⟩
abbrev cX2_behind : ByteArray := prog_4_method_28_code
def yX2_behind : MethodName := ⟨RX2, "behind", "(II)I"⟩
abbrev cX2_trust : ByteArray := prog_4_method_29_code
def yX2_trust : MethodName := ⟨RX2, "trust", "(II)I"⟩
abbrev cX2_counted : ByteArray := prog_4_method_30_code
def yX2_counted : MethodName := ⟨RX2, "counted", "(I)I"⟩
abbrev cX2_count : ByteArray := prog_4_method_31_code
def yX2_count : MethodName := ⟨RX2, "count", "(I)I"⟩
abbrev cX2_coinsNow : ByteArray := prog_4_method_32_code
def yX2_coinsNow : MethodName := ⟨RX2, "coinsNow", "()I"⟩
abbrev cX2_coinsOther : ByteArray := prog_4_method_33_code
def yX2_coinsOther : MethodName := ⟨RX2, "coinsOther", "(I)I"⟩
abbrev cX2_worth : ByteArray := prog_4_method_34_code
def yX2_worth : MethodName := ⟨RX2, "worth", "(I)I"⟩
abbrev cX2_best : ByteArray := prog_4_method_35_code
def yX2_best : MethodName := ⟨RX2, "best", "()I"⟩
abbrev cX2_would : ByteArray := prog_4_method_36_code
def yX2_would : MethodName := ⟨RX2, "would", "(II)I"⟩
abbrev cX2_mean : ByteArray := prog_4_method_37_code
def yX2_mean : MethodName := ⟨RX2, "mean", "()D"⟩
abbrev cX2_digest : ByteArray := prog_4_method_38_code
def yX2_digest : MethodName := ⟨RX2, "digest", "()J"⟩
def RJ9 : String := "java/lang/Math"
def TJ9 : u_T := fun k => match k with
  | _ => ("", "", "", false)
def tyJ9 : Nat → FieldType := fun k => match k with
  | _ => .int
abbrev wsJ90 : List Cond := u_ws RJ9 TJ9 0
theorem nmJ9 : ∀ a, a < 0 → ∀ b, b < 0 → a ≠ b → (TJ9 a).2.1 ≠ (TJ9 b).2.1 := by decide +kernel
theorem tyJ9_ok : ∀ k, k < 0 → parseFieldDescriptor (TJ9 k).2.2.1 = some (tyJ9 k) := by decide +kernel
abbrev cJ9_max_7cf53 : ByteArray := prog_9_method_65_code
def yJ9_max_7cf53 : MethodName := ⟨RJ9, "max", "(II)I"⟩
abbrev cJ9_min_7cf53 : ByteArray := prog_9_method_69_code
def yJ9_min_7cf53 : MethodName := ⟨RJ9, "min", "(II)I"⟩
def RJ0 : String := "java/lang/String"
def TJ0 : u_T := fun k => match k with
  | _ => ("", "", "", false)
def tyJ0 : Nat → FieldType := fun k => match k with
  | _ => .int
abbrev wsJ00 : List Cond := u_ws RJ0 TJ0 0
theorem nmJ0 : ∀ a, a < 0 → ∀ b, b < 0 → a ≠ b → (TJ0 a).2.1 ≠ (TJ0 b).2.1 := by decide +kernel
theorem tyJ0_ok : ∀ k, k < 0 → parseFieldDescriptor (TJ0 k).2.2.1 = some (tyJ0 k) := by decide +kernel
def RL : String := "KnifeLedgerLaw"
abbrev cL_set : ByteArray := method_3_code
def yL_set : MethodName := ⟨RL, "set", "(LKnifeLedger;III[J)I"⟩
abbrev cL_join : ByteArray := method_4_code
def yL_join : MethodName := ⟨RL, "join", "(LKnifeLedger;I[J)I"⟩
abbrev cL_toss : ByteArray := method_5_code
def yL_toss : MethodName := ⟨RL, "toss", "(LKnifeLedger;II[J)I"⟩
abbrev cL_rest : ByteArray := method_6_code
def yL_rest : MethodName := ⟨RL, "rest", "(LKnifeLedger;I[J)I"⟩
abbrev cL_go : ByteArray := method_7_code
def yL_go : MethodName := ⟨RL, "go", "(LKnifeLedger;I[J)I"⟩
abbrev cL_pay : ByteArray := method_8_code
def yL_pay : MethodName := ⟨RL, "pay", "(LKnifeLedger;II[J)I"⟩
abbrev cL_buy : ByteArray := method_9_code
def yL_buy : MethodName := ⟨RL, "buy", "(LKnifeLedger;I[J)I"⟩
abbrev cL_strike : ByteArray := method_10_code
def yL_strike : MethodName := ⟨RL, "strike", "(LKnifeLedger;I[J)I"⟩
abbrev cL_shift : ByteArray := method_11_code
def yL_shift : MethodName := ⟨RL, "shift", "(LKnifeLedger;II[J)I"⟩
abbrev cL_tear : ByteArray := method_12_code
def yL_tear : MethodName := ⟨RL, "tear", "(LKnifeLedger;[J)I"⟩
abbrev cL_entry : ByteArray := method_13_code
def yL_entry : MethodName := ⟨RL, "entry", "(LKnifeLedger;II[J)I"⟩
abbrev cL_behind : ByteArray := method_14_code
def yL_behind : MethodName := ⟨RL, "behind", "(LKnifeLedger;II[J)I"⟩
abbrev cL_trust : ByteArray := method_15_code
def yL_trust : MethodName := ⟨RL, "trust", "(LKnifeLedger;II[J)I"⟩
abbrev cL_count : ByteArray := method_16_code
def yL_count : MethodName := ⟨RL, "count", "(LKnifeLedger;I[J)I"⟩
abbrev cL_worth : ByteArray := method_17_code
def yL_worth : MethodName := ⟨RL, "worth", "(LKnifeLedger;I[J)I"⟩
abbrev cL_would : ByteArray := method_18_code
def yL_would : MethodName := ⟨RL, "would", "(LKnifeLedger;II[J)I"⟩
abbrev cL_law : ByteArray := code
def yL_law : MethodName := ⟨RL, "law", "([I)Z"⟩
def wsX0_init : List Cond := .code yX0_init cX0_init 3 none :: ([.methodLink RX0 3 objectInit, .instanceMethod objectInit, .code objectInit ⟨#[0xb1]⟩ 1 none, .arrayClass .int, .fieldLink RX0 9 "KnifeLedger$Reckoning" "trusts" "[I", .fieldLink RX0 15 "KnifeLedger$Reckoning" "lights" "[I", .fieldLink RX0 18 "KnifeLedger$Reckoning" "trembles" "[I"] ++ wsX00)
def wsX0_begin : List Cond := .code yX0_begin cX0_begin 1 none :: ([.fieldLink RX0 21 "KnifeLedger$Reckoning" "coins" "I", .fieldLink RX0 25 "KnifeLedger$Reckoning" "plasters" "I", .fieldLink RX0 28 "KnifeLedger$Reckoning" "stage" "I", .fieldLink RX0 31 "KnifeLedger$Reckoning" "joined" "I", .fieldLink RX0 34 "KnifeLedger$Reckoning" "counting" "I", .fieldLink RX0 37 "KnifeLedger$Reckoning" "idle" "I", .fieldLink RX0 40 "KnifeLedger$Reckoning" "firstIdle" "I", .fieldLink RX0 43 "KnifeLedger$Reckoning" "fewestCoins" "I"] ++ wsX00)
def wsX0_happensJoin : List Cond := .code yX0_happensJoin cX0_happensJoin 2 (some .boolean) :: ([.fieldLink RX0 31 "KnifeLedger$Reckoning" "joined" "I", .fieldLink RX0 9 "KnifeLedger$Reckoning" "trusts" "[I"] ++ wsX00)
def wsX0_hasJoined : List Cond := .code yX0_hasJoined cX0_hasJoined 2 (some .boolean) :: ([.fieldLink RX0 31 "KnifeLedger$Reckoning" "joined" "I"] ++ wsX00)
def wsX0_standsFor : List Cond := .code yX0_standsFor cX0_standsFor 2 (some .boolean) :: ([.fieldLink RX0 9 "KnifeLedger$Reckoning" "trusts" "[I", .fieldLink RX0 18 "KnifeLedger$Reckoning" "trembles" "[I", .fieldLink RX0 28 "KnifeLedger$Reckoning" "stage" "I", .methodLink RX0 88 yX0_hasJoined, .instanceMethod yX0_hasJoined, .selects RX0 yX0_hasJoined yX0_hasJoined, .initialized RX0, .code yX0_hasJoined cX0_hasJoined 2 (some .boolean), .fieldLink RX0 31 "KnifeLedger$Reckoning" "joined" "I"] ++ wsX00)
def wsX0_takings : List Cond := .code yX0_takings cX0_takings 2 (some .int) :: ([.fieldLink RX0 15 "KnifeLedger$Reckoning" "lights" "[I", .fieldLink RX0 28 "KnifeLedger$Reckoning" "stage" "I"] ++ wsX00)
def wsX0_addTrust : List Cond := .code yX0_addTrust cX0_addTrust 3 none :: ([.fieldLink RX0 9 "KnifeLedger$Reckoning" "trusts" "[I", .methodLink RX0 50 Lib.Math.min.name, .static Lib.Math.min.name, .initialized "java/lang/Math", .code Lib.Math.min.name Lib.Math.min.code 2 (some .int), .methodLink RX0 91 Lib.Math.max.name, .static Lib.Math.max.name, .code Lib.Math.max.name Lib.Math.max.code 2 (some .int)] ++ wsX00)
def wsX0_scratch : List Cond := .code yX0_scratch cX0_scratch 2 none :: ([.fieldLink RX0 25 "KnifeLedger$Reckoning" "plasters" "I", .methodLink RX0 84 yX0_addTrust, .instanceMethod yX0_addTrust, .selects RX0 yX0_addTrust yX0_addTrust, .initialized RX0, .code yX0_addTrust cX0_addTrust 3 none, .fieldLink RX0 9 "KnifeLedger$Reckoning" "trusts" "[I", .methodLink RX0 50 Lib.Math.min.name, .static Lib.Math.min.name, .initialized "java/lang/Math", .code Lib.Math.min.name Lib.Math.min.code 2 (some .int), .methodLink RX0 91 Lib.Math.max.name, .static Lib.Math.max.name, .code Lib.Math.max.name Lib.Math.max.code 2 (some .int)] ++ wsX00)
def wsX0_happensToss_r1 : List Cond := [Cond.fieldLink RX0 21 "KnifeLedger$Reckoning" "coins" "I", Cond.methodLink RX0 73 yX0_standsFor, Cond.instanceMethod yX0_standsFor, Cond.selects RX0 yX0_standsFor yX0_standsFor, Cond.initialized RX0, Cond.code yX0_standsFor cX0_standsFor 2 (some .boolean), Cond.fieldLink RX0 9 "KnifeLedger$Reckoning" "trusts" "[I", Cond.fieldLink RX0 18 "KnifeLedger$Reckoning" "trembles" "[I", Cond.fieldLink RX0 28 "KnifeLedger$Reckoning" "stage" "I", Cond.methodLink RX0 88 yX0_hasJoined, Cond.instanceMethod yX0_hasJoined, Cond.selects RX0 yX0_hasJoined yX0_hasJoined, Cond.code yX0_hasJoined cX0_hasJoined 2 (some .boolean), Cond.fieldLink RX0 31 "KnifeLedger$Reckoning" "joined" "I", Cond.methodLink RX0 76 yX0_takings, Cond.instanceMethod yX0_takings, Cond.selects RX0 yX0_takings yX0_takings, Cond.code yX0_takings cX0_takings 2 (some .int), Cond.fieldLink RX0 15 "KnifeLedger$Reckoning" "lights" "[I", Cond.methodLink RX0 80 yX0_scratch, Cond.instanceMethod yX0_scratch, Cond.selects RX0 yX0_scratch yX0_scratch, Cond.code yX0_scratch cX0_scratch 2 none, Cond.fieldLink RX0 25 "KnifeLedger$Reckoning" "plasters" "I"]
def wsX0_happensToss_r2 : List Cond := [Cond.methodLink RX0 84 yX0_addTrust, Cond.instanceMethod yX0_addTrust, Cond.selects RX0 yX0_addTrust yX0_addTrust, Cond.code yX0_addTrust cX0_addTrust 3 none, Cond.methodLink RX0 50 Lib.Math.min.name, Cond.static Lib.Math.min.name, Cond.initialized "java/lang/Math", Cond.code Lib.Math.min.name Lib.Math.min.code 2 (some .int), Cond.methodLink RX0 91 Lib.Math.max.name, Cond.static Lib.Math.max.name, Cond.code Lib.Math.max.name Lib.Math.max.code 2 (some .int)]
def wsX0_happensToss : List Cond := .code yX0_happensToss cX0_happensToss 3 (some .boolean) :: ((wsX0_happensToss_r1 ++ wsX0_happensToss_r2) ++ wsX00)
def wsX0_happensRest : List Cond := .code yX0_happensRest cX0_happensRest 2 (some .boolean) :: ([.methodLink RX0 88 yX0_hasJoined, .instanceMethod yX0_hasJoined, .selects RX0 yX0_hasJoined yX0_hasJoined, .initialized RX0, .code yX0_hasJoined cX0_hasJoined 2 (some .boolean), .fieldLink RX0 31 "KnifeLedger$Reckoning" "joined" "I", .methodLink RX0 84 yX0_addTrust, .instanceMethod yX0_addTrust, .selects RX0 yX0_addTrust yX0_addTrust, .code yX0_addTrust cX0_addTrust 3 none, .fieldLink RX0 9 "KnifeLedger$Reckoning" "trusts" "[I", .methodLink RX0 50 Lib.Math.min.name, .static Lib.Math.min.name, .initialized "java/lang/Math", .code Lib.Math.min.name Lib.Math.min.code 2 (some .int), .methodLink RX0 91 Lib.Math.max.name, .static Lib.Math.max.name, .code Lib.Math.max.name Lib.Math.max.code 2 (some .int)] ++ wsX00)
def wsX0_happensPay : List Cond := .code yX0_happensPay cX0_happensPay 3 (some .boolean) :: ([.fieldLink RX0 21 "KnifeLedger$Reckoning" "coins" "I", .methodLink RX0 88 yX0_hasJoined, .instanceMethod yX0_hasJoined, .selects RX0 yX0_hasJoined yX0_hasJoined, .initialized RX0, .code yX0_hasJoined cX0_hasJoined 2 (some .boolean), .fieldLink RX0 31 "KnifeLedger$Reckoning" "joined" "I", .methodLink RX0 84 yX0_addTrust, .instanceMethod yX0_addTrust, .selects RX0 yX0_addTrust yX0_addTrust, .code yX0_addTrust cX0_addTrust 3 none, .fieldLink RX0 9 "KnifeLedger$Reckoning" "trusts" "[I", .methodLink RX0 50 Lib.Math.min.name, .static Lib.Math.min.name, .initialized "java/lang/Math", .code Lib.Math.min.name Lib.Math.min.code 2 (some .int), .methodLink RX0 91 Lib.Math.max.name, .static Lib.Math.max.name, .code Lib.Math.max.name Lib.Math.max.code 2 (some .int)] ++ wsX00)
def wsX0_happensBuy : List Cond := .code yX0_happensBuy cX0_happensBuy 3 (some .boolean) :: ([.fieldLink RX0 21 "KnifeLedger$Reckoning" "coins" "I", .fieldLink RX0 25 "KnifeLedger$Reckoning" "plasters" "I"] ++ wsX00)
def wsX0_happens_r1 : List Cond := [Cond.fieldLink RX0 28 "KnifeLedger$Reckoning" "stage" "I", Cond.methodLink RX0 56 yX0_happensJoin, Cond.instanceMethod yX0_happensJoin, Cond.selects RX0 yX0_happensJoin yX0_happensJoin, Cond.initialized RX0, Cond.code yX0_happensJoin cX0_happensJoin 2 (some .boolean), Cond.fieldLink RX0 31 "KnifeLedger$Reckoning" "joined" "I", Cond.fieldLink RX0 9 "KnifeLedger$Reckoning" "trusts" "[I", Cond.methodLink RX0 60 yX0_happensToss, Cond.instanceMethod yX0_happensToss, Cond.selects RX0 yX0_happensToss yX0_happensToss, Cond.code yX0_happensToss cX0_happensToss 3 (some .boolean), Cond.fieldLink RX0 21 "KnifeLedger$Reckoning" "coins" "I", Cond.methodLink RX0 73 yX0_standsFor, Cond.instanceMethod yX0_standsFor, Cond.selects RX0 yX0_standsFor yX0_standsFor, Cond.code yX0_standsFor cX0_standsFor 2 (some .boolean), Cond.fieldLink RX0 18 "KnifeLedger$Reckoning" "trembles" "[I", Cond.methodLink RX0 88 yX0_hasJoined, Cond.instanceMethod yX0_hasJoined, Cond.selects RX0 yX0_hasJoined yX0_hasJoined, Cond.code yX0_hasJoined cX0_hasJoined 2 (some .boolean), Cond.methodLink RX0 76 yX0_takings, Cond.instanceMethod yX0_takings]
def wsX0_happens_r2 : List Cond := [Cond.selects RX0 yX0_takings yX0_takings, Cond.code yX0_takings cX0_takings 2 (some .int), Cond.fieldLink RX0 15 "KnifeLedger$Reckoning" "lights" "[I", Cond.methodLink RX0 80 yX0_scratch, Cond.instanceMethod yX0_scratch, Cond.selects RX0 yX0_scratch yX0_scratch, Cond.code yX0_scratch cX0_scratch 2 none, Cond.fieldLink RX0 25 "KnifeLedger$Reckoning" "plasters" "I", Cond.methodLink RX0 84 yX0_addTrust, Cond.instanceMethod yX0_addTrust, Cond.selects RX0 yX0_addTrust yX0_addTrust, Cond.code yX0_addTrust cX0_addTrust 3 none, Cond.methodLink RX0 50 Lib.Math.min.name, Cond.static Lib.Math.min.name, Cond.initialized "java/lang/Math", Cond.code Lib.Math.min.name Lib.Math.min.code 2 (some .int), Cond.methodLink RX0 91 Lib.Math.max.name, Cond.static Lib.Math.max.name, Cond.code Lib.Math.max.name Lib.Math.max.code 2 (some .int), Cond.methodLink RX0 64 yX0_happensRest, Cond.instanceMethod yX0_happensRest, Cond.selects RX0 yX0_happensRest yX0_happensRest, Cond.code yX0_happensRest cX0_happensRest 2 (some .boolean), Cond.methodLink RX0 67 yX0_happensPay]
def wsX0_happens_r3 : List Cond := [Cond.instanceMethod yX0_happensPay, Cond.selects RX0 yX0_happensPay yX0_happensPay, Cond.code yX0_happensPay cX0_happensPay 3 (some .boolean), Cond.methodLink RX0 70 yX0_happensBuy, Cond.instanceMethod yX0_happensBuy, Cond.selects RX0 yX0_happensBuy yX0_happensBuy, Cond.code yX0_happensBuy cX0_happensBuy 3 (some .boolean)]
def wsX0_happens : List Cond := .code yX0_happens cX0_happens 4 (some .boolean) :: ((wsX0_happens_r1 ++ (wsX0_happens_r2 ++ wsX0_happens_r3)) ++ wsX00)
def wsX0_reckonEntry_r1 : List Cond := [Cond.fieldLink RX0 34 "KnifeLedger$Reckoning" "counting" "I", Cond.fieldLink RX0 43 "KnifeLedger$Reckoning" "fewestCoins" "I", Cond.fieldLink RX0 21 "KnifeLedger$Reckoning" "coins" "I", Cond.methodLink RX0 50 Lib.Math.min.name, Cond.static Lib.Math.min.name, Cond.initialized "java/lang/Math", Cond.code Lib.Math.min.name Lib.Math.min.code 2 (some .int), Cond.fieldLink RX0 37 "KnifeLedger$Reckoning" "idle" "I", Cond.fieldLink RX0 40 "KnifeLedger$Reckoning" "firstIdle" "I", Cond.methodLink RX0 46 yX0_happens, Cond.instanceMethod yX0_happens, Cond.selects RX0 yX0_happens yX0_happens, Cond.initialized RX0, Cond.code yX0_happens cX0_happens 4 (some .boolean), Cond.fieldLink RX0 28 "KnifeLedger$Reckoning" "stage" "I", Cond.methodLink RX0 56 yX0_happensJoin, Cond.instanceMethod yX0_happensJoin, Cond.selects RX0 yX0_happensJoin yX0_happensJoin, Cond.code yX0_happensJoin cX0_happensJoin 2 (some .boolean), Cond.fieldLink RX0 31 "KnifeLedger$Reckoning" "joined" "I", Cond.fieldLink RX0 9 "KnifeLedger$Reckoning" "trusts" "[I", Cond.methodLink RX0 60 yX0_happensToss, Cond.instanceMethod yX0_happensToss, Cond.selects RX0 yX0_happensToss yX0_happensToss]
def wsX0_reckonEntry_r2 : List Cond := [Cond.code yX0_happensToss cX0_happensToss 3 (some .boolean), Cond.methodLink RX0 73 yX0_standsFor, Cond.instanceMethod yX0_standsFor, Cond.selects RX0 yX0_standsFor yX0_standsFor, Cond.code yX0_standsFor cX0_standsFor 2 (some .boolean), Cond.fieldLink RX0 18 "KnifeLedger$Reckoning" "trembles" "[I", Cond.methodLink RX0 88 yX0_hasJoined, Cond.instanceMethod yX0_hasJoined, Cond.selects RX0 yX0_hasJoined yX0_hasJoined, Cond.code yX0_hasJoined cX0_hasJoined 2 (some .boolean), Cond.methodLink RX0 76 yX0_takings, Cond.instanceMethod yX0_takings, Cond.selects RX0 yX0_takings yX0_takings, Cond.code yX0_takings cX0_takings 2 (some .int), Cond.fieldLink RX0 15 "KnifeLedger$Reckoning" "lights" "[I", Cond.methodLink RX0 80 yX0_scratch, Cond.instanceMethod yX0_scratch, Cond.selects RX0 yX0_scratch yX0_scratch, Cond.code yX0_scratch cX0_scratch 2 none, Cond.fieldLink RX0 25 "KnifeLedger$Reckoning" "plasters" "I", Cond.methodLink RX0 84 yX0_addTrust, Cond.instanceMethod yX0_addTrust, Cond.selects RX0 yX0_addTrust yX0_addTrust, Cond.code yX0_addTrust cX0_addTrust 3 none]
def wsX0_reckonEntry_r3 : List Cond := [Cond.methodLink RX0 91 Lib.Math.max.name, Cond.static Lib.Math.max.name, Cond.code Lib.Math.max.name Lib.Math.max.code 2 (some .int), Cond.methodLink RX0 64 yX0_happensRest, Cond.instanceMethod yX0_happensRest, Cond.selects RX0 yX0_happensRest yX0_happensRest, Cond.code yX0_happensRest cX0_happensRest 2 (some .boolean), Cond.methodLink RX0 67 yX0_happensPay, Cond.instanceMethod yX0_happensPay, Cond.selects RX0 yX0_happensPay yX0_happensPay, Cond.code yX0_happensPay cX0_happensPay 3 (some .boolean), Cond.methodLink RX0 70 yX0_happensBuy, Cond.instanceMethod yX0_happensBuy, Cond.selects RX0 yX0_happensBuy yX0_happensBuy, Cond.code yX0_happensBuy cX0_happensBuy 3 (some .boolean)]
def wsX0_reckonEntry : List Cond := .code yX0_reckonEntry cX0_reckonEntry 5 none :: ((wsX0_reckonEntry_r1 ++ (wsX0_reckonEntry_r2 ++ wsX0_reckonEntry_r3)) ++ wsX00)
def wsX0_trustOfAll : List Cond := .code yX0_trustOfAll cX0_trustOfAll 3 (some .int) :: ([.fieldLink RX0 31 "KnifeLedger$Reckoning" "joined" "I", .fieldLink RX0 9 "KnifeLedger$Reckoning" "trusts" "[I"] ++ wsX00)
def wsX1_init : List Cond := .code yX1_init cX1_init 1 none :: ([.methodLink RX1 1 objectInit, .instanceMethod objectInit, .code objectInit ⟨#[0xb1]⟩ 1 none, .arrayClass .int, .fieldLink RX1 9 "KnifeLedger" "lights" "[I", .fieldLink RX1 13 "KnifeLedger" "trembles" "[I", .fieldLink RX1 16 "KnifeLedger" "kinds" "[I", .fieldLink RX1 19 "KnifeLedger" "firsts" "[I", .fieldLink RX1 22 "KnifeLedger" "seconds" "[I", .arrayClass .boolean, .fieldLink RX1 25 "KnifeLedger" "struck" "[Z", .fieldLink RX1 29 "KnifeLedger" "size" "I", .classLink RX1 33 RX0, .instantiable RX0 11, .initialized RX0, .fieldLink RX1 38 "KnifeLedger" "reckoning" "LKnifeLedger$Reckoning;", .instanceMethod yX0_init, .code yX0_init cX0_init 3 none, .methodLink RX0 3 objectInit, .fieldLink RX0 9 "KnifeLedger$Reckoning" "trusts" "[I", .fieldLink RX0 15 "KnifeLedger$Reckoning" "lights" "[I", .fieldLink RX0 18 "KnifeLedger$Reckoning" "trembles" "[I"] ++ wsX10 ++ wsX00)
def wsX1_needIndex : List Cond := .code yX1_needIndex cX1_needIndex 2 none :: ([.classLink RX1 132 "java/lang/IndexOutOfBoundsException", .initialized "java/lang/IndexOutOfBoundsException"] ++ (vx_atS RX1 136 "java/lang/IndexOutOfBoundsException" ["java/lang/RuntimeException", "java/lang/Exception"]).filter goodWord)
def wsX1_needWithin : List Cond := .code yX1_needWithin cX1_needWithin 3 none :: ([.classLink RX1 137 "java/lang/IllegalArgumentException", .initialized "java/lang/IllegalArgumentException"] ++ (vx_atS RX1 141 "java/lang/IllegalArgumentException" ["java/lang/RuntimeException", "java/lang/Exception"]).filter goodWord)
def wsX1_set : List Cond := .code yX1_set cX1_set 5 (some .int) :: ([.fieldLink RX1 9 "KnifeLedger" "lights" "[I", .fieldLink RX1 13 "KnifeLedger" "trembles" "[I", .methodLink RX1 42 yX1_needIndex, .static yX1_needIndex, .initialized RX1, .code yX1_needIndex cX1_needIndex 2 none, .classLink RX1 132 "java/lang/IndexOutOfBoundsException", .initialized "java/lang/IndexOutOfBoundsException", .methodLink RX1 46 yX1_needWithin, .static yX1_needWithin, .code yX1_needWithin cX1_needWithin 3 none, .classLink RX1 137 "java/lang/IllegalArgumentException", .initialized "java/lang/IllegalArgumentException"] ++ wsX10 ++ (vx_atS RX1 136 "java/lang/IndexOutOfBoundsException" ["java/lang/RuntimeException", "java/lang/Exception"]).filter goodWord ++ (vx_atS RX1 141 "java/lang/IllegalArgumentException" ["java/lang/RuntimeException", "java/lang/Exception"]).filter goodWord)
def wsX1_append : List Cond := .code yX1_append cX1_append 4 (some .int) :: ([.classLink RX1 57 "java/lang/IllegalStateException", .initialized "java/lang/IllegalStateException", .fieldLink RX1 29 "KnifeLedger" "size" "I", .fieldLink RX1 16 "KnifeLedger" "kinds" "[I", .fieldLink RX1 19 "KnifeLedger" "firsts" "[I", .fieldLink RX1 22 "KnifeLedger" "seconds" "[I", .fieldLink RX1 25 "KnifeLedger" "struck" "[Z"] ++ wsX10 ++ (vx_atS RX1 61 "java/lang/IllegalStateException" ["java/lang/RuntimeException", "java/lang/Exception"]).filter goodWord)
def wsX1_join : List Cond := .code yX1_join cX1_join 2 (some .int) :: ([.methodLink RX1 46 yX1_needWithin, .static yX1_needWithin, .initialized RX1, .code yX1_needWithin cX1_needWithin 3 none, .classLink RX1 137 "java/lang/IllegalArgumentException", .initialized "java/lang/IllegalArgumentException", .methodLink RX1 50 yX1_append, .instanceMethod yX1_append, .selects RX1 yX1_append yX1_append, .code yX1_append cX1_append 4 (some .int), .classLink RX1 57 "java/lang/IllegalStateException", .initialized "java/lang/IllegalStateException", .fieldLink RX1 29 "KnifeLedger" "size" "I", .fieldLink RX1 16 "KnifeLedger" "kinds" "[I", .fieldLink RX1 19 "KnifeLedger" "firsts" "[I", .fieldLink RX1 22 "KnifeLedger" "seconds" "[I", .fieldLink RX1 25 "KnifeLedger" "struck" "[Z"] ++ wsX10 ++ (vx_atS RX1 141 "java/lang/IllegalArgumentException" ["java/lang/RuntimeException", "java/lang/Exception"]).filter goodWord ++ (vx_atS RX1 61 "java/lang/IllegalStateException" ["java/lang/RuntimeException", "java/lang/Exception"]).filter goodWord)
def wsX1_toss : List Cond := .code yX1_toss cX1_toss 3 (some .int) :: ([.methodLink RX1 42 yX1_needIndex, .static yX1_needIndex, .initialized RX1, .code yX1_needIndex cX1_needIndex 2 none, .classLink RX1 132 "java/lang/IndexOutOfBoundsException", .initialized "java/lang/IndexOutOfBoundsException", .methodLink RX1 46 yX1_needWithin, .static yX1_needWithin, .code yX1_needWithin cX1_needWithin 3 none, .classLink RX1 137 "java/lang/IllegalArgumentException", .initialized "java/lang/IllegalArgumentException", .methodLink RX1 50 yX1_append, .instanceMethod yX1_append, .selects RX1 yX1_append yX1_append, .code yX1_append cX1_append 4 (some .int), .classLink RX1 57 "java/lang/IllegalStateException", .initialized "java/lang/IllegalStateException", .fieldLink RX1 29 "KnifeLedger" "size" "I", .fieldLink RX1 16 "KnifeLedger" "kinds" "[I", .fieldLink RX1 19 "KnifeLedger" "firsts" "[I", .fieldLink RX1 22 "KnifeLedger" "seconds" "[I", .fieldLink RX1 25 "KnifeLedger" "struck" "[Z"] ++ wsX10 ++ (vx_atS RX1 136 "java/lang/IndexOutOfBoundsException" ["java/lang/RuntimeException", "java/lang/Exception"]).filter goodWord ++ (vx_atS RX1 141 "java/lang/IllegalArgumentException" ["java/lang/RuntimeException", "java/lang/Exception"]).filter goodWord ++ (vx_atS RX1 61 "java/lang/IllegalStateException" ["java/lang/RuntimeException", "java/lang/Exception"]).filter goodWord)
def wsX1_rest : List Cond := .code yX1_rest cX1_rest 2 (some .int) :: ([.methodLink RX1 42 yX1_needIndex, .static yX1_needIndex, .initialized RX1, .code yX1_needIndex cX1_needIndex 2 none, .classLink RX1 132 "java/lang/IndexOutOfBoundsException", .initialized "java/lang/IndexOutOfBoundsException", .methodLink RX1 50 yX1_append, .instanceMethod yX1_append, .selects RX1 yX1_append yX1_append, .code yX1_append cX1_append 4 (some .int), .classLink RX1 57 "java/lang/IllegalStateException", .initialized "java/lang/IllegalStateException", .fieldLink RX1 29 "KnifeLedger" "size" "I", .fieldLink RX1 16 "KnifeLedger" "kinds" "[I", .fieldLink RX1 19 "KnifeLedger" "firsts" "[I", .fieldLink RX1 22 "KnifeLedger" "seconds" "[I", .fieldLink RX1 25 "KnifeLedger" "struck" "[Z"] ++ wsX10 ++ (vx_atS RX1 136 "java/lang/IndexOutOfBoundsException" ["java/lang/RuntimeException", "java/lang/Exception"]).filter goodWord ++ (vx_atS RX1 61 "java/lang/IllegalStateException" ["java/lang/RuntimeException", "java/lang/Exception"]).filter goodWord)
def wsX1_go : List Cond := .code yX1_go cX1_go 2 (some .int) :: ([.methodLink RX1 42 yX1_needIndex, .static yX1_needIndex, .initialized RX1, .code yX1_needIndex cX1_needIndex 2 none, .classLink RX1 132 "java/lang/IndexOutOfBoundsException", .initialized "java/lang/IndexOutOfBoundsException", .methodLink RX1 50 yX1_append, .instanceMethod yX1_append, .selects RX1 yX1_append yX1_append, .code yX1_append cX1_append 4 (some .int), .classLink RX1 57 "java/lang/IllegalStateException", .initialized "java/lang/IllegalStateException", .fieldLink RX1 29 "KnifeLedger" "size" "I", .fieldLink RX1 16 "KnifeLedger" "kinds" "[I", .fieldLink RX1 19 "KnifeLedger" "firsts" "[I", .fieldLink RX1 22 "KnifeLedger" "seconds" "[I", .fieldLink RX1 25 "KnifeLedger" "struck" "[Z"] ++ wsX10 ++ (vx_atS RX1 136 "java/lang/IndexOutOfBoundsException" ["java/lang/RuntimeException", "java/lang/Exception"]).filter goodWord ++ (vx_atS RX1 61 "java/lang/IllegalStateException" ["java/lang/RuntimeException", "java/lang/Exception"]).filter goodWord)
def wsX1_pay : List Cond := .code yX1_pay cX1_pay 3 (some .int) :: ([.methodLink RX1 42 yX1_needIndex, .static yX1_needIndex, .initialized RX1, .code yX1_needIndex cX1_needIndex 2 none, .classLink RX1 132 "java/lang/IndexOutOfBoundsException", .initialized "java/lang/IndexOutOfBoundsException", .methodLink RX1 46 yX1_needWithin, .static yX1_needWithin, .code yX1_needWithin cX1_needWithin 3 none, .classLink RX1 137 "java/lang/IllegalArgumentException", .initialized "java/lang/IllegalArgumentException", .methodLink RX1 50 yX1_append, .instanceMethod yX1_append, .selects RX1 yX1_append yX1_append, .code yX1_append cX1_append 4 (some .int), .classLink RX1 57 "java/lang/IllegalStateException", .initialized "java/lang/IllegalStateException", .fieldLink RX1 29 "KnifeLedger" "size" "I", .fieldLink RX1 16 "KnifeLedger" "kinds" "[I", .fieldLink RX1 19 "KnifeLedger" "firsts" "[I", .fieldLink RX1 22 "KnifeLedger" "seconds" "[I", .fieldLink RX1 25 "KnifeLedger" "struck" "[Z"] ++ wsX10 ++ (vx_atS RX1 136 "java/lang/IndexOutOfBoundsException" ["java/lang/RuntimeException", "java/lang/Exception"]).filter goodWord ++ (vx_atS RX1 141 "java/lang/IllegalArgumentException" ["java/lang/RuntimeException", "java/lang/Exception"]).filter goodWord ++ (vx_atS RX1 61 "java/lang/IllegalStateException" ["java/lang/RuntimeException", "java/lang/Exception"]).filter goodWord)
def wsX1_buy : List Cond := .code yX1_buy cX1_buy 2 (some .int) :: ([.methodLink RX1 46 yX1_needWithin, .static yX1_needWithin, .initialized RX1, .code yX1_needWithin cX1_needWithin 3 none, .classLink RX1 137 "java/lang/IllegalArgumentException", .initialized "java/lang/IllegalArgumentException", .methodLink RX1 50 yX1_append, .instanceMethod yX1_append, .selects RX1 yX1_append yX1_append, .code yX1_append cX1_append 4 (some .int), .classLink RX1 57 "java/lang/IllegalStateException", .initialized "java/lang/IllegalStateException", .fieldLink RX1 29 "KnifeLedger" "size" "I", .fieldLink RX1 16 "KnifeLedger" "kinds" "[I", .fieldLink RX1 19 "KnifeLedger" "firsts" "[I", .fieldLink RX1 22 "KnifeLedger" "seconds" "[I", .fieldLink RX1 25 "KnifeLedger" "struck" "[Z"] ++ wsX10 ++ (vx_atS RX1 141 "java/lang/IllegalArgumentException" ["java/lang/RuntimeException", "java/lang/Exception"]).filter goodWord ++ (vx_atS RX1 61 "java/lang/IllegalStateException" ["java/lang/RuntimeException", "java/lang/Exception"]).filter goodWord)
def wsX1_strike : List Cond := .code yX1_strike cX1_strike 2 (some .boolean) :: ([.fieldLink RX1 29 "KnifeLedger" "size" "I", .fieldLink RX1 25 "KnifeLedger" "struck" "[Z", .methodLink RX1 42 yX1_needIndex, .static yX1_needIndex, .initialized RX1, .code yX1_needIndex cX1_needIndex 2 none, .classLink RX1 132 "java/lang/IndexOutOfBoundsException", .initialized "java/lang/IndexOutOfBoundsException"] ++ wsX10 ++ (vx_atS RX1 136 "java/lang/IndexOutOfBoundsException" ["java/lang/RuntimeException", "java/lang/Exception"]).filter goodWord)
def wsX1_swapNumbers : List Cond := .code yX1_swapNumbers cX1_swapNumbers 4 none :: ([])
def wsX1_swap : List Cond := .code yX1_swap cX1_swap 4 none :: ([.fieldLink RX1 16 "KnifeLedger" "kinds" "[I", .fieldLink RX1 19 "KnifeLedger" "firsts" "[I", .fieldLink RX1 22 "KnifeLedger" "seconds" "[I", .fieldLink RX1 25 "KnifeLedger" "struck" "[Z", .methodLink RX1 144 yX1_swapNumbers, .static yX1_swapNumbers, .initialized RX1, .code yX1_swapNumbers cX1_swapNumbers 4 none] ++ wsX10)
def wsX1_shift : List Cond := .code yX1_shift cX1_shift 5 (some .int) :: ([.fieldLink RX1 29 "KnifeLedger" "size" "I", .fieldLink RX1 16 "KnifeLedger" "kinds" "[I", .methodLink RX1 42 yX1_needIndex, .static yX1_needIndex, .initialized RX1, .code yX1_needIndex cX1_needIndex 2 none, .classLink RX1 132 "java/lang/IndexOutOfBoundsException", .initialized "java/lang/IndexOutOfBoundsException", .methodLink RX1 54 yX1_swap, .instanceMethod yX1_swap, .selects RX1 yX1_swap yX1_swap, .code yX1_swap cX1_swap 4 none, .fieldLink RX1 19 "KnifeLedger" "firsts" "[I", .fieldLink RX1 22 "KnifeLedger" "seconds" "[I", .fieldLink RX1 25 "KnifeLedger" "struck" "[Z", .methodLink RX1 144 yX1_swapNumbers, .static yX1_swapNumbers, .code yX1_swapNumbers cX1_swapNumbers 4 none] ++ wsX10 ++ (vx_atS RX1 136 "java/lang/IndexOutOfBoundsException" ["java/lang/RuntimeException", "java/lang/Exception"]).filter goodWord)
def wsX1_tear : List Cond := .code yX1_tear cX1_tear 1 (some .int) :: ([.classLink RX1 57 "java/lang/IllegalStateException", .initialized "java/lang/IllegalStateException", .fieldLink RX1 29 "KnifeLedger" "size" "I", .fieldLink RX1 16 "KnifeLedger" "kinds" "[I"] ++ wsX10 ++ (vx_atS RX1 61 "java/lang/IllegalStateException" ["java/lang/RuntimeException", "java/lang/Exception"]).filter goodWord)
def wsX1_reckon_r1 : List Cond := [Cond.fieldLink RX1 38 "KnifeLedger" "reckoning" "LKnifeLedger$Reckoning;", Cond.fieldLink RX1 25 "KnifeLedger" "struck" "[Z", Cond.fieldLink RX1 16 "KnifeLedger" "kinds" "[I", Cond.fieldLink RX1 19 "KnifeLedger" "firsts" "[I", Cond.fieldLink RX1 22 "KnifeLedger" "seconds" "[I", Cond.instanceMethod yX0_begin, Cond.initialized RX0, Cond.selects RX0 yX0_begin yX0_begin, Cond.code yX0_begin cX0_begin 1 none, Cond.fieldLink RX0 21 "KnifeLedger$Reckoning" "coins" "I", Cond.fieldLink RX0 25 "KnifeLedger$Reckoning" "plasters" "I", Cond.fieldLink RX0 28 "KnifeLedger$Reckoning" "stage" "I", Cond.fieldLink RX0 31 "KnifeLedger$Reckoning" "joined" "I", Cond.fieldLink RX0 34 "KnifeLedger$Reckoning" "counting" "I", Cond.fieldLink RX0 37 "KnifeLedger$Reckoning" "idle" "I", Cond.fieldLink RX0 40 "KnifeLedger$Reckoning" "firstIdle" "I", Cond.fieldLink RX0 43 "KnifeLedger$Reckoning" "fewestCoins" "I", Cond.instanceMethod yX0_reckonEntry, Cond.selects RX0 yX0_reckonEntry yX0_reckonEntry, Cond.code yX0_reckonEntry cX0_reckonEntry 5 none, Cond.methodLink RX0 50 Lib.Math.min.name, Cond.static Lib.Math.min.name, Cond.initialized "java/lang/Math", Cond.code Lib.Math.min.name Lib.Math.min.code 2 (some .int)]
def wsX1_reckon_r2 : List Cond := [Cond.methodLink RX0 46 yX0_happens, Cond.instanceMethod yX0_happens, Cond.selects RX0 yX0_happens yX0_happens, Cond.code yX0_happens cX0_happens 4 (some .boolean), Cond.methodLink RX0 56 yX0_happensJoin, Cond.instanceMethod yX0_happensJoin, Cond.selects RX0 yX0_happensJoin yX0_happensJoin, Cond.code yX0_happensJoin cX0_happensJoin 2 (some .boolean), Cond.fieldLink RX0 9 "KnifeLedger$Reckoning" "trusts" "[I", Cond.methodLink RX0 60 yX0_happensToss, Cond.instanceMethod yX0_happensToss, Cond.selects RX0 yX0_happensToss yX0_happensToss, Cond.code yX0_happensToss cX0_happensToss 3 (some .boolean), Cond.methodLink RX0 73 yX0_standsFor, Cond.instanceMethod yX0_standsFor, Cond.selects RX0 yX0_standsFor yX0_standsFor, Cond.code yX0_standsFor cX0_standsFor 2 (some .boolean), Cond.fieldLink RX0 18 "KnifeLedger$Reckoning" "trembles" "[I", Cond.methodLink RX0 88 yX0_hasJoined, Cond.instanceMethod yX0_hasJoined, Cond.selects RX0 yX0_hasJoined yX0_hasJoined, Cond.code yX0_hasJoined cX0_hasJoined 2 (some .boolean), Cond.methodLink RX0 76 yX0_takings, Cond.instanceMethod yX0_takings]
def wsX1_reckon_r3 : List Cond := [Cond.selects RX0 yX0_takings yX0_takings, Cond.code yX0_takings cX0_takings 2 (some .int), Cond.fieldLink RX0 15 "KnifeLedger$Reckoning" "lights" "[I", Cond.methodLink RX0 80 yX0_scratch, Cond.instanceMethod yX0_scratch, Cond.selects RX0 yX0_scratch yX0_scratch, Cond.code yX0_scratch cX0_scratch 2 none, Cond.methodLink RX0 84 yX0_addTrust, Cond.instanceMethod yX0_addTrust, Cond.selects RX0 yX0_addTrust yX0_addTrust, Cond.code yX0_addTrust cX0_addTrust 3 none, Cond.methodLink RX0 91 Lib.Math.max.name, Cond.static Lib.Math.max.name, Cond.code Lib.Math.max.name Lib.Math.max.code 2 (some .int), Cond.methodLink RX0 64 yX0_happensRest, Cond.instanceMethod yX0_happensRest, Cond.selects RX0 yX0_happensRest yX0_happensRest, Cond.code yX0_happensRest cX0_happensRest 2 (some .boolean), Cond.methodLink RX0 67 yX0_happensPay, Cond.instanceMethod yX0_happensPay, Cond.selects RX0 yX0_happensPay yX0_happensPay, Cond.code yX0_happensPay cX0_happensPay 3 (some .boolean), Cond.methodLink RX0 70 yX0_happensBuy, Cond.instanceMethod yX0_happensBuy]
def wsX1_reckon_r4 : List Cond := [Cond.selects RX0 yX0_happensBuy yX0_happensBuy, Cond.code yX0_happensBuy cX0_happensBuy 3 (some .boolean)]
def wsX1_reckon : List Cond := .code yX1_reckon cX1_reckon 5 none :: ((wsX1_reckon_r1 ++ (wsX1_reckon_r2 ++ (wsX1_reckon_r3 ++ wsX1_reckon_r4))) ++ wsX10 ++ wsX00)
def wsX1_counts_r1 : List Cond := [Cond.fieldLink RX1 25 "KnifeLedger" "struck" "[Z", Cond.fieldLink RX1 38 "KnifeLedger" "reckoning" "LKnifeLedger$Reckoning;", Cond.fieldLink RX1 16 "KnifeLedger" "kinds" "[I", Cond.fieldLink RX1 19 "KnifeLedger" "firsts" "[I", Cond.fieldLink RX1 22 "KnifeLedger" "seconds" "[I", Cond.methodLink RX1 68 yX1_reckon, Cond.instanceMethod yX1_reckon, Cond.selects RX1 yX1_reckon yX1_reckon, Cond.initialized RX1, Cond.code yX1_reckon cX1_reckon 5 none, Cond.instanceMethod yX0_begin, Cond.initialized RX0, Cond.selects RX0 yX0_begin yX0_begin, Cond.code yX0_begin cX0_begin 1 none, Cond.fieldLink RX0 21 "KnifeLedger$Reckoning" "coins" "I", Cond.fieldLink RX0 25 "KnifeLedger$Reckoning" "plasters" "I", Cond.fieldLink RX0 28 "KnifeLedger$Reckoning" "stage" "I", Cond.fieldLink RX0 31 "KnifeLedger$Reckoning" "joined" "I", Cond.fieldLink RX0 34 "KnifeLedger$Reckoning" "counting" "I", Cond.fieldLink RX0 37 "KnifeLedger$Reckoning" "idle" "I", Cond.fieldLink RX0 40 "KnifeLedger$Reckoning" "firstIdle" "I", Cond.fieldLink RX0 43 "KnifeLedger$Reckoning" "fewestCoins" "I", Cond.instanceMethod yX0_reckonEntry, Cond.selects RX0 yX0_reckonEntry yX0_reckonEntry]
def wsX1_counts_r2 : List Cond := [Cond.code yX0_reckonEntry cX0_reckonEntry 5 none, Cond.methodLink RX0 50 Lib.Math.min.name, Cond.static Lib.Math.min.name, Cond.initialized "java/lang/Math", Cond.code Lib.Math.min.name Lib.Math.min.code 2 (some .int), Cond.methodLink RX0 46 yX0_happens, Cond.instanceMethod yX0_happens, Cond.selects RX0 yX0_happens yX0_happens, Cond.code yX0_happens cX0_happens 4 (some .boolean), Cond.methodLink RX0 56 yX0_happensJoin, Cond.instanceMethod yX0_happensJoin, Cond.selects RX0 yX0_happensJoin yX0_happensJoin, Cond.code yX0_happensJoin cX0_happensJoin 2 (some .boolean), Cond.fieldLink RX0 9 "KnifeLedger$Reckoning" "trusts" "[I", Cond.methodLink RX0 60 yX0_happensToss, Cond.instanceMethod yX0_happensToss, Cond.selects RX0 yX0_happensToss yX0_happensToss, Cond.code yX0_happensToss cX0_happensToss 3 (some .boolean), Cond.methodLink RX0 73 yX0_standsFor, Cond.instanceMethod yX0_standsFor, Cond.selects RX0 yX0_standsFor yX0_standsFor, Cond.code yX0_standsFor cX0_standsFor 2 (some .boolean), Cond.fieldLink RX0 18 "KnifeLedger$Reckoning" "trembles" "[I", Cond.methodLink RX0 88 yX0_hasJoined]
def wsX1_counts_r3 : List Cond := [Cond.instanceMethod yX0_hasJoined, Cond.selects RX0 yX0_hasJoined yX0_hasJoined, Cond.code yX0_hasJoined cX0_hasJoined 2 (some .boolean), Cond.methodLink RX0 76 yX0_takings, Cond.instanceMethod yX0_takings, Cond.selects RX0 yX0_takings yX0_takings, Cond.code yX0_takings cX0_takings 2 (some .int), Cond.fieldLink RX0 15 "KnifeLedger$Reckoning" "lights" "[I", Cond.methodLink RX0 80 yX0_scratch, Cond.instanceMethod yX0_scratch, Cond.selects RX0 yX0_scratch yX0_scratch, Cond.code yX0_scratch cX0_scratch 2 none, Cond.methodLink RX0 84 yX0_addTrust, Cond.instanceMethod yX0_addTrust, Cond.selects RX0 yX0_addTrust yX0_addTrust, Cond.code yX0_addTrust cX0_addTrust 3 none, Cond.methodLink RX0 91 Lib.Math.max.name, Cond.static Lib.Math.max.name, Cond.code Lib.Math.max.name Lib.Math.max.code 2 (some .int), Cond.methodLink RX0 64 yX0_happensRest, Cond.instanceMethod yX0_happensRest, Cond.selects RX0 yX0_happensRest yX0_happensRest, Cond.code yX0_happensRest cX0_happensRest 2 (some .boolean), Cond.methodLink RX0 67 yX0_happensPay]
def wsX1_counts_r4 : List Cond := [Cond.instanceMethod yX0_happensPay, Cond.selects RX0 yX0_happensPay yX0_happensPay, Cond.code yX0_happensPay cX0_happensPay 3 (some .boolean), Cond.methodLink RX0 70 yX0_happensBuy, Cond.instanceMethod yX0_happensBuy, Cond.selects RX0 yX0_happensBuy yX0_happensBuy, Cond.code yX0_happensBuy cX0_happensBuy 3 (some .boolean)]
def wsX1_counts : List Cond := .code yX1_counts cX1_counts 2 (some .boolean) :: ((wsX1_counts_r1 ++ (wsX1_counts_r2 ++ (wsX1_counts_r3 ++ wsX1_counts_r4))) ++ wsX10 ++ wsX00)
def wsX1_entry_r1 : List Cond := [Cond.fieldLink RX1 29 "KnifeLedger" "size" "I", Cond.fieldLink RX1 16 "KnifeLedger" "kinds" "[I", Cond.fieldLink RX1 19 "KnifeLedger" "firsts" "[I", Cond.fieldLink RX1 22 "KnifeLedger" "seconds" "[I", Cond.fieldLink RX1 25 "KnifeLedger" "struck" "[Z", Cond.methodLink RX1 42 yX1_needIndex, Cond.static yX1_needIndex, Cond.initialized RX1, Cond.code yX1_needIndex cX1_needIndex 2 none, Cond.classLink RX1 132 "java/lang/IndexOutOfBoundsException", Cond.initialized "java/lang/IndexOutOfBoundsException", Cond.methodLink RX1 64 yX1_counts, Cond.instanceMethod yX1_counts, Cond.selects RX1 yX1_counts yX1_counts, Cond.code yX1_counts cX1_counts 2 (some .boolean), Cond.fieldLink RX1 38 "KnifeLedger" "reckoning" "LKnifeLedger$Reckoning;", Cond.methodLink RX1 68 yX1_reckon, Cond.instanceMethod yX1_reckon, Cond.selects RX1 yX1_reckon yX1_reckon, Cond.code yX1_reckon cX1_reckon 5 none, Cond.instanceMethod yX0_begin, Cond.initialized RX0, Cond.selects RX0 yX0_begin yX0_begin, Cond.code yX0_begin cX0_begin 1 none]
def wsX1_entry_r2 : List Cond := [Cond.fieldLink RX0 21 "KnifeLedger$Reckoning" "coins" "I", Cond.fieldLink RX0 25 "KnifeLedger$Reckoning" "plasters" "I", Cond.fieldLink RX0 28 "KnifeLedger$Reckoning" "stage" "I", Cond.fieldLink RX0 31 "KnifeLedger$Reckoning" "joined" "I", Cond.fieldLink RX0 34 "KnifeLedger$Reckoning" "counting" "I", Cond.fieldLink RX0 37 "KnifeLedger$Reckoning" "idle" "I", Cond.fieldLink RX0 40 "KnifeLedger$Reckoning" "firstIdle" "I", Cond.fieldLink RX0 43 "KnifeLedger$Reckoning" "fewestCoins" "I", Cond.instanceMethod yX0_reckonEntry, Cond.selects RX0 yX0_reckonEntry yX0_reckonEntry, Cond.code yX0_reckonEntry cX0_reckonEntry 5 none, Cond.methodLink RX0 50 Lib.Math.min.name, Cond.static Lib.Math.min.name, Cond.initialized "java/lang/Math", Cond.code Lib.Math.min.name Lib.Math.min.code 2 (some .int), Cond.methodLink RX0 46 yX0_happens, Cond.instanceMethod yX0_happens, Cond.selects RX0 yX0_happens yX0_happens, Cond.code yX0_happens cX0_happens 4 (some .boolean), Cond.methodLink RX0 56 yX0_happensJoin, Cond.instanceMethod yX0_happensJoin, Cond.selects RX0 yX0_happensJoin yX0_happensJoin, Cond.code yX0_happensJoin cX0_happensJoin 2 (some .boolean), Cond.fieldLink RX0 9 "KnifeLedger$Reckoning" "trusts" "[I"]
def wsX1_entry_r3 : List Cond := [Cond.methodLink RX0 60 yX0_happensToss, Cond.instanceMethod yX0_happensToss, Cond.selects RX0 yX0_happensToss yX0_happensToss, Cond.code yX0_happensToss cX0_happensToss 3 (some .boolean), Cond.methodLink RX0 73 yX0_standsFor, Cond.instanceMethod yX0_standsFor, Cond.selects RX0 yX0_standsFor yX0_standsFor, Cond.code yX0_standsFor cX0_standsFor 2 (some .boolean), Cond.fieldLink RX0 18 "KnifeLedger$Reckoning" "trembles" "[I", Cond.methodLink RX0 88 yX0_hasJoined, Cond.instanceMethod yX0_hasJoined, Cond.selects RX0 yX0_hasJoined yX0_hasJoined, Cond.code yX0_hasJoined cX0_hasJoined 2 (some .boolean), Cond.methodLink RX0 76 yX0_takings, Cond.instanceMethod yX0_takings, Cond.selects RX0 yX0_takings yX0_takings, Cond.code yX0_takings cX0_takings 2 (some .int), Cond.fieldLink RX0 15 "KnifeLedger$Reckoning" "lights" "[I", Cond.methodLink RX0 80 yX0_scratch, Cond.instanceMethod yX0_scratch, Cond.selects RX0 yX0_scratch yX0_scratch, Cond.code yX0_scratch cX0_scratch 2 none, Cond.methodLink RX0 84 yX0_addTrust, Cond.instanceMethod yX0_addTrust]
def wsX1_entry_r4 : List Cond := [Cond.selects RX0 yX0_addTrust yX0_addTrust, Cond.code yX0_addTrust cX0_addTrust 3 none, Cond.methodLink RX0 91 Lib.Math.max.name, Cond.static Lib.Math.max.name, Cond.code Lib.Math.max.name Lib.Math.max.code 2 (some .int), Cond.methodLink RX0 64 yX0_happensRest, Cond.instanceMethod yX0_happensRest, Cond.selects RX0 yX0_happensRest yX0_happensRest, Cond.code yX0_happensRest cX0_happensRest 2 (some .boolean), Cond.methodLink RX0 67 yX0_happensPay, Cond.instanceMethod yX0_happensPay, Cond.selects RX0 yX0_happensPay yX0_happensPay, Cond.code yX0_happensPay cX0_happensPay 3 (some .boolean), Cond.methodLink RX0 70 yX0_happensBuy, Cond.instanceMethod yX0_happensBuy, Cond.selects RX0 yX0_happensBuy yX0_happensBuy, Cond.code yX0_happensBuy cX0_happensBuy 3 (some .boolean)]
def wsX1_entry : List Cond := .code yX1_entry cX1_entry 3 (some .int) :: ((wsX1_entry_r1 ++ (wsX1_entry_r2 ++ (wsX1_entry_r3 ++ wsX1_entry_r4))) ++ wsX10 ++ wsX00 ++ (vx_atS RX1 136 "java/lang/IndexOutOfBoundsException" ["java/lang/RuntimeException", "java/lang/Exception"]).filter goodWord)
def wsX1_behind_r1 : List Cond := [Cond.fieldLink RX1 29 "KnifeLedger" "size" "I", Cond.fieldLink RX1 38 "KnifeLedger" "reckoning" "LKnifeLedger$Reckoning;", Cond.methodLink RX1 46 yX1_needWithin, Cond.static yX1_needWithin, Cond.initialized RX1, Cond.code yX1_needWithin cX1_needWithin 3 none, Cond.classLink RX1 137 "java/lang/IllegalArgumentException", Cond.initialized "java/lang/IllegalArgumentException", Cond.methodLink RX1 42 yX1_needIndex, Cond.static yX1_needIndex, Cond.code yX1_needIndex cX1_needIndex 2 none, Cond.classLink RX1 132 "java/lang/IndexOutOfBoundsException", Cond.initialized "java/lang/IndexOutOfBoundsException", Cond.methodLink RX1 68 yX1_reckon, Cond.instanceMethod yX1_reckon, Cond.selects RX1 yX1_reckon yX1_reckon, Cond.code yX1_reckon cX1_reckon 5 none, Cond.fieldLink RX1 25 "KnifeLedger" "struck" "[Z", Cond.fieldLink RX1 16 "KnifeLedger" "kinds" "[I", Cond.fieldLink RX1 19 "KnifeLedger" "firsts" "[I", Cond.fieldLink RX1 22 "KnifeLedger" "seconds" "[I", Cond.instanceMethod yX0_begin, Cond.initialized RX0, Cond.selects RX0 yX0_begin yX0_begin]
def wsX1_behind_r2 : List Cond := [Cond.code yX0_begin cX0_begin 1 none, Cond.fieldLink RX0 21 "KnifeLedger$Reckoning" "coins" "I", Cond.fieldLink RX0 25 "KnifeLedger$Reckoning" "plasters" "I", Cond.fieldLink RX0 28 "KnifeLedger$Reckoning" "stage" "I", Cond.fieldLink RX0 31 "KnifeLedger$Reckoning" "joined" "I", Cond.fieldLink RX0 34 "KnifeLedger$Reckoning" "counting" "I", Cond.fieldLink RX0 37 "KnifeLedger$Reckoning" "idle" "I", Cond.fieldLink RX0 40 "KnifeLedger$Reckoning" "firstIdle" "I", Cond.fieldLink RX0 43 "KnifeLedger$Reckoning" "fewestCoins" "I", Cond.instanceMethod yX0_reckonEntry, Cond.selects RX0 yX0_reckonEntry yX0_reckonEntry, Cond.code yX0_reckonEntry cX0_reckonEntry 5 none, Cond.methodLink RX0 50 Lib.Math.min.name, Cond.static Lib.Math.min.name, Cond.initialized "java/lang/Math", Cond.code Lib.Math.min.name Lib.Math.min.code 2 (some .int), Cond.methodLink RX0 46 yX0_happens, Cond.instanceMethod yX0_happens, Cond.selects RX0 yX0_happens yX0_happens, Cond.code yX0_happens cX0_happens 4 (some .boolean), Cond.methodLink RX0 56 yX0_happensJoin, Cond.instanceMethod yX0_happensJoin, Cond.selects RX0 yX0_happensJoin yX0_happensJoin, Cond.code yX0_happensJoin cX0_happensJoin 2 (some .boolean)]
def wsX1_behind_r3 : List Cond := [Cond.fieldLink RX0 9 "KnifeLedger$Reckoning" "trusts" "[I", Cond.methodLink RX0 60 yX0_happensToss, Cond.instanceMethod yX0_happensToss, Cond.selects RX0 yX0_happensToss yX0_happensToss, Cond.code yX0_happensToss cX0_happensToss 3 (some .boolean), Cond.methodLink RX0 73 yX0_standsFor, Cond.instanceMethod yX0_standsFor, Cond.selects RX0 yX0_standsFor yX0_standsFor, Cond.code yX0_standsFor cX0_standsFor 2 (some .boolean), Cond.fieldLink RX0 18 "KnifeLedger$Reckoning" "trembles" "[I", Cond.methodLink RX0 88 yX0_hasJoined, Cond.instanceMethod yX0_hasJoined, Cond.selects RX0 yX0_hasJoined yX0_hasJoined, Cond.code yX0_hasJoined cX0_hasJoined 2 (some .boolean), Cond.methodLink RX0 76 yX0_takings, Cond.instanceMethod yX0_takings, Cond.selects RX0 yX0_takings yX0_takings, Cond.code yX0_takings cX0_takings 2 (some .int), Cond.fieldLink RX0 15 "KnifeLedger$Reckoning" "lights" "[I", Cond.methodLink RX0 80 yX0_scratch, Cond.instanceMethod yX0_scratch, Cond.selects RX0 yX0_scratch yX0_scratch, Cond.code yX0_scratch cX0_scratch 2 none, Cond.methodLink RX0 84 yX0_addTrust]
def wsX1_behind_r4 : List Cond := [Cond.instanceMethod yX0_addTrust, Cond.selects RX0 yX0_addTrust yX0_addTrust, Cond.code yX0_addTrust cX0_addTrust 3 none, Cond.methodLink RX0 91 Lib.Math.max.name, Cond.static Lib.Math.max.name, Cond.code Lib.Math.max.name Lib.Math.max.code 2 (some .int), Cond.methodLink RX0 64 yX0_happensRest, Cond.instanceMethod yX0_happensRest, Cond.selects RX0 yX0_happensRest yX0_happensRest, Cond.code yX0_happensRest cX0_happensRest 2 (some .boolean), Cond.methodLink RX0 67 yX0_happensPay, Cond.instanceMethod yX0_happensPay, Cond.selects RX0 yX0_happensPay yX0_happensPay, Cond.code yX0_happensPay cX0_happensPay 3 (some .boolean), Cond.methodLink RX0 70 yX0_happensBuy, Cond.instanceMethod yX0_happensBuy, Cond.selects RX0 yX0_happensBuy yX0_happensBuy, Cond.code yX0_happensBuy cX0_happensBuy 3 (some .boolean), Cond.instanceMethod yX0_trustOfAll, Cond.selects RX0 yX0_trustOfAll yX0_trustOfAll, Cond.code yX0_trustOfAll cX0_trustOfAll 3 (some .int)]
def wsX1_behind : List Cond := .code yX1_behind cX1_behind 3 (some .int) :: ((wsX1_behind_r1 ++ (wsX1_behind_r2 ++ (wsX1_behind_r3 ++ wsX1_behind_r4))) ++ wsX10 ++ wsX00 ++ (vx_atS RX1 141 "java/lang/IllegalArgumentException" ["java/lang/RuntimeException", "java/lang/Exception"]).filter goodWord ++ (vx_atS RX1 136 "java/lang/IndexOutOfBoundsException" ["java/lang/RuntimeException", "java/lang/Exception"]).filter goodWord)
def wsX1_trust_r1 : List Cond := [Cond.fieldLink RX1 29 "KnifeLedger" "size" "I", Cond.fieldLink RX1 38 "KnifeLedger" "reckoning" "LKnifeLedger$Reckoning;", Cond.methodLink RX1 42 yX1_needIndex, Cond.static yX1_needIndex, Cond.initialized RX1, Cond.code yX1_needIndex cX1_needIndex 2 none, Cond.classLink RX1 132 "java/lang/IndexOutOfBoundsException", Cond.initialized "java/lang/IndexOutOfBoundsException", Cond.methodLink RX1 46 yX1_needWithin, Cond.static yX1_needWithin, Cond.code yX1_needWithin cX1_needWithin 3 none, Cond.classLink RX1 137 "java/lang/IllegalArgumentException", Cond.initialized "java/lang/IllegalArgumentException", Cond.methodLink RX1 68 yX1_reckon, Cond.instanceMethod yX1_reckon, Cond.selects RX1 yX1_reckon yX1_reckon, Cond.code yX1_reckon cX1_reckon 5 none, Cond.fieldLink RX1 25 "KnifeLedger" "struck" "[Z", Cond.fieldLink RX1 16 "KnifeLedger" "kinds" "[I", Cond.fieldLink RX1 19 "KnifeLedger" "firsts" "[I", Cond.fieldLink RX1 22 "KnifeLedger" "seconds" "[I", Cond.instanceMethod yX0_begin, Cond.initialized RX0, Cond.selects RX0 yX0_begin yX0_begin]
def wsX1_trust_r2 : List Cond := [Cond.code yX0_begin cX0_begin 1 none, Cond.fieldLink RX0 21 "KnifeLedger$Reckoning" "coins" "I", Cond.fieldLink RX0 25 "KnifeLedger$Reckoning" "plasters" "I", Cond.fieldLink RX0 28 "KnifeLedger$Reckoning" "stage" "I", Cond.fieldLink RX0 31 "KnifeLedger$Reckoning" "joined" "I", Cond.fieldLink RX0 34 "KnifeLedger$Reckoning" "counting" "I", Cond.fieldLink RX0 37 "KnifeLedger$Reckoning" "idle" "I", Cond.fieldLink RX0 40 "KnifeLedger$Reckoning" "firstIdle" "I", Cond.fieldLink RX0 43 "KnifeLedger$Reckoning" "fewestCoins" "I", Cond.instanceMethod yX0_reckonEntry, Cond.selects RX0 yX0_reckonEntry yX0_reckonEntry, Cond.code yX0_reckonEntry cX0_reckonEntry 5 none, Cond.methodLink RX0 50 Lib.Math.min.name, Cond.static Lib.Math.min.name, Cond.initialized "java/lang/Math", Cond.code Lib.Math.min.name Lib.Math.min.code 2 (some .int), Cond.methodLink RX0 46 yX0_happens, Cond.instanceMethod yX0_happens, Cond.selects RX0 yX0_happens yX0_happens, Cond.code yX0_happens cX0_happens 4 (some .boolean), Cond.methodLink RX0 56 yX0_happensJoin, Cond.instanceMethod yX0_happensJoin, Cond.selects RX0 yX0_happensJoin yX0_happensJoin, Cond.code yX0_happensJoin cX0_happensJoin 2 (some .boolean)]
def wsX1_trust_r3 : List Cond := [Cond.fieldLink RX0 9 "KnifeLedger$Reckoning" "trusts" "[I", Cond.methodLink RX0 60 yX0_happensToss, Cond.instanceMethod yX0_happensToss, Cond.selects RX0 yX0_happensToss yX0_happensToss, Cond.code yX0_happensToss cX0_happensToss 3 (some .boolean), Cond.methodLink RX0 73 yX0_standsFor, Cond.instanceMethod yX0_standsFor, Cond.selects RX0 yX0_standsFor yX0_standsFor, Cond.code yX0_standsFor cX0_standsFor 2 (some .boolean), Cond.fieldLink RX0 18 "KnifeLedger$Reckoning" "trembles" "[I", Cond.methodLink RX0 88 yX0_hasJoined, Cond.instanceMethod yX0_hasJoined, Cond.selects RX0 yX0_hasJoined yX0_hasJoined, Cond.code yX0_hasJoined cX0_hasJoined 2 (some .boolean), Cond.methodLink RX0 76 yX0_takings, Cond.instanceMethod yX0_takings, Cond.selects RX0 yX0_takings yX0_takings, Cond.code yX0_takings cX0_takings 2 (some .int), Cond.fieldLink RX0 15 "KnifeLedger$Reckoning" "lights" "[I", Cond.methodLink RX0 80 yX0_scratch, Cond.instanceMethod yX0_scratch, Cond.selects RX0 yX0_scratch yX0_scratch, Cond.code yX0_scratch cX0_scratch 2 none, Cond.methodLink RX0 84 yX0_addTrust]
def wsX1_trust_r4 : List Cond := [Cond.instanceMethod yX0_addTrust, Cond.selects RX0 yX0_addTrust yX0_addTrust, Cond.code yX0_addTrust cX0_addTrust 3 none, Cond.methodLink RX0 91 Lib.Math.max.name, Cond.static Lib.Math.max.name, Cond.code Lib.Math.max.name Lib.Math.max.code 2 (some .int), Cond.methodLink RX0 64 yX0_happensRest, Cond.instanceMethod yX0_happensRest, Cond.selects RX0 yX0_happensRest yX0_happensRest, Cond.code yX0_happensRest cX0_happensRest 2 (some .boolean), Cond.methodLink RX0 67 yX0_happensPay, Cond.instanceMethod yX0_happensPay, Cond.selects RX0 yX0_happensPay yX0_happensPay, Cond.code yX0_happensPay cX0_happensPay 3 (some .boolean), Cond.methodLink RX0 70 yX0_happensBuy, Cond.instanceMethod yX0_happensBuy, Cond.selects RX0 yX0_happensBuy yX0_happensBuy, Cond.code yX0_happensBuy cX0_happensBuy 3 (some .boolean)]
def wsX1_trust : List Cond := .code yX1_trust cX1_trust 3 (some .int) :: ((wsX1_trust_r1 ++ (wsX1_trust_r2 ++ (wsX1_trust_r3 ++ wsX1_trust_r4))) ++ wsX10 ++ wsX00 ++ (vx_atS RX1 136 "java/lang/IndexOutOfBoundsException" ["java/lang/RuntimeException", "java/lang/Exception"]).filter goodWord ++ (vx_atS RX1 141 "java/lang/IllegalArgumentException" ["java/lang/RuntimeException", "java/lang/Exception"]).filter goodWord)
def wsX1_count_r1 : List Cond := [Cond.fieldLink RX1 29 "KnifeLedger" "size" "I", Cond.fieldLink RX1 38 "KnifeLedger" "reckoning" "LKnifeLedger$Reckoning;", Cond.methodLink RX1 42 yX1_needIndex, Cond.static yX1_needIndex, Cond.initialized RX1, Cond.code yX1_needIndex cX1_needIndex 2 none, Cond.classLink RX1 132 "java/lang/IndexOutOfBoundsException", Cond.initialized "java/lang/IndexOutOfBoundsException", Cond.methodLink RX1 68 yX1_reckon, Cond.instanceMethod yX1_reckon, Cond.selects RX1 yX1_reckon yX1_reckon, Cond.code yX1_reckon cX1_reckon 5 none, Cond.fieldLink RX1 25 "KnifeLedger" "struck" "[Z", Cond.fieldLink RX1 16 "KnifeLedger" "kinds" "[I", Cond.fieldLink RX1 19 "KnifeLedger" "firsts" "[I", Cond.fieldLink RX1 22 "KnifeLedger" "seconds" "[I", Cond.instanceMethod yX0_begin, Cond.initialized RX0, Cond.selects RX0 yX0_begin yX0_begin, Cond.code yX0_begin cX0_begin 1 none, Cond.fieldLink RX0 21 "KnifeLedger$Reckoning" "coins" "I", Cond.fieldLink RX0 25 "KnifeLedger$Reckoning" "plasters" "I", Cond.fieldLink RX0 28 "KnifeLedger$Reckoning" "stage" "I", Cond.fieldLink RX0 31 "KnifeLedger$Reckoning" "joined" "I"]
def wsX1_count_r2 : List Cond := [Cond.fieldLink RX0 34 "KnifeLedger$Reckoning" "counting" "I", Cond.fieldLink RX0 37 "KnifeLedger$Reckoning" "idle" "I", Cond.fieldLink RX0 40 "KnifeLedger$Reckoning" "firstIdle" "I", Cond.fieldLink RX0 43 "KnifeLedger$Reckoning" "fewestCoins" "I", Cond.instanceMethod yX0_reckonEntry, Cond.selects RX0 yX0_reckonEntry yX0_reckonEntry, Cond.code yX0_reckonEntry cX0_reckonEntry 5 none, Cond.methodLink RX0 50 Lib.Math.min.name, Cond.static Lib.Math.min.name, Cond.initialized "java/lang/Math", Cond.code Lib.Math.min.name Lib.Math.min.code 2 (some .int), Cond.methodLink RX0 46 yX0_happens, Cond.instanceMethod yX0_happens, Cond.selects RX0 yX0_happens yX0_happens, Cond.code yX0_happens cX0_happens 4 (some .boolean), Cond.methodLink RX0 56 yX0_happensJoin, Cond.instanceMethod yX0_happensJoin, Cond.selects RX0 yX0_happensJoin yX0_happensJoin, Cond.code yX0_happensJoin cX0_happensJoin 2 (some .boolean), Cond.fieldLink RX0 9 "KnifeLedger$Reckoning" "trusts" "[I", Cond.methodLink RX0 60 yX0_happensToss, Cond.instanceMethod yX0_happensToss, Cond.selects RX0 yX0_happensToss yX0_happensToss, Cond.code yX0_happensToss cX0_happensToss 3 (some .boolean)]
def wsX1_count_r3 : List Cond := [Cond.methodLink RX0 73 yX0_standsFor, Cond.instanceMethod yX0_standsFor, Cond.selects RX0 yX0_standsFor yX0_standsFor, Cond.code yX0_standsFor cX0_standsFor 2 (some .boolean), Cond.fieldLink RX0 18 "KnifeLedger$Reckoning" "trembles" "[I", Cond.methodLink RX0 88 yX0_hasJoined, Cond.instanceMethod yX0_hasJoined, Cond.selects RX0 yX0_hasJoined yX0_hasJoined, Cond.code yX0_hasJoined cX0_hasJoined 2 (some .boolean), Cond.methodLink RX0 76 yX0_takings, Cond.instanceMethod yX0_takings, Cond.selects RX0 yX0_takings yX0_takings, Cond.code yX0_takings cX0_takings 2 (some .int), Cond.fieldLink RX0 15 "KnifeLedger$Reckoning" "lights" "[I", Cond.methodLink RX0 80 yX0_scratch, Cond.instanceMethod yX0_scratch, Cond.selects RX0 yX0_scratch yX0_scratch, Cond.code yX0_scratch cX0_scratch 2 none, Cond.methodLink RX0 84 yX0_addTrust, Cond.instanceMethod yX0_addTrust, Cond.selects RX0 yX0_addTrust yX0_addTrust, Cond.code yX0_addTrust cX0_addTrust 3 none, Cond.methodLink RX0 91 Lib.Math.max.name, Cond.static Lib.Math.max.name]
def wsX1_count_r4 : List Cond := [Cond.code Lib.Math.max.name Lib.Math.max.code 2 (some .int), Cond.methodLink RX0 64 yX0_happensRest, Cond.instanceMethod yX0_happensRest, Cond.selects RX0 yX0_happensRest yX0_happensRest, Cond.code yX0_happensRest cX0_happensRest 2 (some .boolean), Cond.methodLink RX0 67 yX0_happensPay, Cond.instanceMethod yX0_happensPay, Cond.selects RX0 yX0_happensPay yX0_happensPay, Cond.code yX0_happensPay cX0_happensPay 3 (some .boolean), Cond.methodLink RX0 70 yX0_happensBuy, Cond.instanceMethod yX0_happensBuy, Cond.selects RX0 yX0_happensBuy yX0_happensBuy, Cond.code yX0_happensBuy cX0_happensBuy 3 (some .boolean)]
def wsX1_count : List Cond := .code yX1_count cX1_count 2 (some .int) :: ((wsX1_count_r1 ++ (wsX1_count_r2 ++ (wsX1_count_r3 ++ wsX1_count_r4))) ++ wsX10 ++ wsX00 ++ (vx_atS RX1 136 "java/lang/IndexOutOfBoundsException" ["java/lang/RuntimeException", "java/lang/Exception"]).filter goodWord)
def wsX1_coinsBehindAll_r1 : List Cond := [Cond.fieldLink RX1 29 "KnifeLedger" "size" "I", Cond.fieldLink RX1 38 "KnifeLedger" "reckoning" "LKnifeLedger$Reckoning;", Cond.methodLink RX1 68 yX1_reckon, Cond.instanceMethod yX1_reckon, Cond.selects RX1 yX1_reckon yX1_reckon, Cond.initialized RX1, Cond.code yX1_reckon cX1_reckon 5 none, Cond.fieldLink RX1 25 "KnifeLedger" "struck" "[Z", Cond.fieldLink RX1 16 "KnifeLedger" "kinds" "[I", Cond.fieldLink RX1 19 "KnifeLedger" "firsts" "[I", Cond.fieldLink RX1 22 "KnifeLedger" "seconds" "[I", Cond.instanceMethod yX0_begin, Cond.initialized RX0, Cond.selects RX0 yX0_begin yX0_begin, Cond.code yX0_begin cX0_begin 1 none, Cond.fieldLink RX0 21 "KnifeLedger$Reckoning" "coins" "I", Cond.fieldLink RX0 25 "KnifeLedger$Reckoning" "plasters" "I", Cond.fieldLink RX0 28 "KnifeLedger$Reckoning" "stage" "I", Cond.fieldLink RX0 31 "KnifeLedger$Reckoning" "joined" "I", Cond.fieldLink RX0 34 "KnifeLedger$Reckoning" "counting" "I", Cond.fieldLink RX0 37 "KnifeLedger$Reckoning" "idle" "I", Cond.fieldLink RX0 40 "KnifeLedger$Reckoning" "firstIdle" "I", Cond.fieldLink RX0 43 "KnifeLedger$Reckoning" "fewestCoins" "I", Cond.instanceMethod yX0_reckonEntry]
def wsX1_coinsBehindAll_r2 : List Cond := [Cond.selects RX0 yX0_reckonEntry yX0_reckonEntry, Cond.code yX0_reckonEntry cX0_reckonEntry 5 none, Cond.methodLink RX0 50 Lib.Math.min.name, Cond.static Lib.Math.min.name, Cond.initialized "java/lang/Math", Cond.code Lib.Math.min.name Lib.Math.min.code 2 (some .int), Cond.methodLink RX0 46 yX0_happens, Cond.instanceMethod yX0_happens, Cond.selects RX0 yX0_happens yX0_happens, Cond.code yX0_happens cX0_happens 4 (some .boolean), Cond.methodLink RX0 56 yX0_happensJoin, Cond.instanceMethod yX0_happensJoin, Cond.selects RX0 yX0_happensJoin yX0_happensJoin, Cond.code yX0_happensJoin cX0_happensJoin 2 (some .boolean), Cond.fieldLink RX0 9 "KnifeLedger$Reckoning" "trusts" "[I", Cond.methodLink RX0 60 yX0_happensToss, Cond.instanceMethod yX0_happensToss, Cond.selects RX0 yX0_happensToss yX0_happensToss, Cond.code yX0_happensToss cX0_happensToss 3 (some .boolean), Cond.methodLink RX0 73 yX0_standsFor, Cond.instanceMethod yX0_standsFor, Cond.selects RX0 yX0_standsFor yX0_standsFor, Cond.code yX0_standsFor cX0_standsFor 2 (some .boolean), Cond.fieldLink RX0 18 "KnifeLedger$Reckoning" "trembles" "[I"]
def wsX1_coinsBehindAll_r3 : List Cond := [Cond.methodLink RX0 88 yX0_hasJoined, Cond.instanceMethod yX0_hasJoined, Cond.selects RX0 yX0_hasJoined yX0_hasJoined, Cond.code yX0_hasJoined cX0_hasJoined 2 (some .boolean), Cond.methodLink RX0 76 yX0_takings, Cond.instanceMethod yX0_takings, Cond.selects RX0 yX0_takings yX0_takings, Cond.code yX0_takings cX0_takings 2 (some .int), Cond.fieldLink RX0 15 "KnifeLedger$Reckoning" "lights" "[I", Cond.methodLink RX0 80 yX0_scratch, Cond.instanceMethod yX0_scratch, Cond.selects RX0 yX0_scratch yX0_scratch, Cond.code yX0_scratch cX0_scratch 2 none, Cond.methodLink RX0 84 yX0_addTrust, Cond.instanceMethod yX0_addTrust, Cond.selects RX0 yX0_addTrust yX0_addTrust, Cond.code yX0_addTrust cX0_addTrust 3 none, Cond.methodLink RX0 91 Lib.Math.max.name, Cond.static Lib.Math.max.name, Cond.code Lib.Math.max.name Lib.Math.max.code 2 (some .int), Cond.methodLink RX0 64 yX0_happensRest, Cond.instanceMethod yX0_happensRest, Cond.selects RX0 yX0_happensRest yX0_happensRest, Cond.code yX0_happensRest cX0_happensRest 2 (some .boolean)]
def wsX1_coinsBehindAll_r4 : List Cond := [Cond.methodLink RX0 67 yX0_happensPay, Cond.instanceMethod yX0_happensPay, Cond.selects RX0 yX0_happensPay yX0_happensPay, Cond.code yX0_happensPay cX0_happensPay 3 (some .boolean), Cond.methodLink RX0 70 yX0_happensBuy, Cond.instanceMethod yX0_happensBuy, Cond.selects RX0 yX0_happensBuy yX0_happensBuy, Cond.code yX0_happensBuy cX0_happensBuy 3 (some .boolean)]
def wsX1_coinsBehindAll : List Cond := .code yX1_coinsBehindAll cX1_coinsBehindAll 2 (some .int) :: ((wsX1_coinsBehindAll_r1 ++ (wsX1_coinsBehindAll_r2 ++ (wsX1_coinsBehindAll_r3 ++ wsX1_coinsBehindAll_r4))) ++ wsX10 ++ wsX00)
def wsX1_worth_r1 : List Cond := [Cond.fieldLink RX1 29 "KnifeLedger" "size" "I", Cond.methodLink RX1 42 yX1_needIndex, Cond.static yX1_needIndex, Cond.initialized RX1, Cond.code yX1_needIndex cX1_needIndex 2 none, Cond.classLink RX1 132 "java/lang/IndexOutOfBoundsException", Cond.initialized "java/lang/IndexOutOfBoundsException", Cond.methodLink RX1 105 yX1_coinsBehindAll, Cond.instanceMethod yX1_coinsBehindAll, Cond.selects RX1 yX1_coinsBehindAll yX1_coinsBehindAll, Cond.code yX1_coinsBehindAll cX1_coinsBehindAll 2 (some .int), Cond.fieldLink RX1 38 "KnifeLedger" "reckoning" "LKnifeLedger$Reckoning;", Cond.methodLink RX1 68 yX1_reckon, Cond.instanceMethod yX1_reckon, Cond.selects RX1 yX1_reckon yX1_reckon, Cond.code yX1_reckon cX1_reckon 5 none, Cond.fieldLink RX1 25 "KnifeLedger" "struck" "[Z", Cond.fieldLink RX1 16 "KnifeLedger" "kinds" "[I", Cond.fieldLink RX1 19 "KnifeLedger" "firsts" "[I", Cond.fieldLink RX1 22 "KnifeLedger" "seconds" "[I", Cond.instanceMethod yX0_begin, Cond.initialized RX0, Cond.selects RX0 yX0_begin yX0_begin, Cond.code yX0_begin cX0_begin 1 none]
def wsX1_worth_r2 : List Cond := [Cond.fieldLink RX0 21 "KnifeLedger$Reckoning" "coins" "I", Cond.fieldLink RX0 25 "KnifeLedger$Reckoning" "plasters" "I", Cond.fieldLink RX0 28 "KnifeLedger$Reckoning" "stage" "I", Cond.fieldLink RX0 31 "KnifeLedger$Reckoning" "joined" "I", Cond.fieldLink RX0 34 "KnifeLedger$Reckoning" "counting" "I", Cond.fieldLink RX0 37 "KnifeLedger$Reckoning" "idle" "I", Cond.fieldLink RX0 40 "KnifeLedger$Reckoning" "firstIdle" "I", Cond.fieldLink RX0 43 "KnifeLedger$Reckoning" "fewestCoins" "I", Cond.instanceMethod yX0_reckonEntry, Cond.selects RX0 yX0_reckonEntry yX0_reckonEntry, Cond.code yX0_reckonEntry cX0_reckonEntry 5 none, Cond.methodLink RX0 50 Lib.Math.min.name, Cond.static Lib.Math.min.name, Cond.initialized "java/lang/Math", Cond.code Lib.Math.min.name Lib.Math.min.code 2 (some .int), Cond.methodLink RX0 46 yX0_happens, Cond.instanceMethod yX0_happens, Cond.selects RX0 yX0_happens yX0_happens, Cond.code yX0_happens cX0_happens 4 (some .boolean), Cond.methodLink RX0 56 yX0_happensJoin, Cond.instanceMethod yX0_happensJoin, Cond.selects RX0 yX0_happensJoin yX0_happensJoin, Cond.code yX0_happensJoin cX0_happensJoin 2 (some .boolean), Cond.fieldLink RX0 9 "KnifeLedger$Reckoning" "trusts" "[I"]
def wsX1_worth_r3 : List Cond := [Cond.methodLink RX0 60 yX0_happensToss, Cond.instanceMethod yX0_happensToss, Cond.selects RX0 yX0_happensToss yX0_happensToss, Cond.code yX0_happensToss cX0_happensToss 3 (some .boolean), Cond.methodLink RX0 73 yX0_standsFor, Cond.instanceMethod yX0_standsFor, Cond.selects RX0 yX0_standsFor yX0_standsFor, Cond.code yX0_standsFor cX0_standsFor 2 (some .boolean), Cond.fieldLink RX0 18 "KnifeLedger$Reckoning" "trembles" "[I", Cond.methodLink RX0 88 yX0_hasJoined, Cond.instanceMethod yX0_hasJoined, Cond.selects RX0 yX0_hasJoined yX0_hasJoined, Cond.code yX0_hasJoined cX0_hasJoined 2 (some .boolean), Cond.methodLink RX0 76 yX0_takings, Cond.instanceMethod yX0_takings, Cond.selects RX0 yX0_takings yX0_takings, Cond.code yX0_takings cX0_takings 2 (some .int), Cond.fieldLink RX0 15 "KnifeLedger$Reckoning" "lights" "[I", Cond.methodLink RX0 80 yX0_scratch, Cond.instanceMethod yX0_scratch, Cond.selects RX0 yX0_scratch yX0_scratch, Cond.code yX0_scratch cX0_scratch 2 none, Cond.methodLink RX0 84 yX0_addTrust, Cond.instanceMethod yX0_addTrust]
def wsX1_worth_r4 : List Cond := [Cond.selects RX0 yX0_addTrust yX0_addTrust, Cond.code yX0_addTrust cX0_addTrust 3 none, Cond.methodLink RX0 91 Lib.Math.max.name, Cond.static Lib.Math.max.name, Cond.code Lib.Math.max.name Lib.Math.max.code 2 (some .int), Cond.methodLink RX0 64 yX0_happensRest, Cond.instanceMethod yX0_happensRest, Cond.selects RX0 yX0_happensRest yX0_happensRest, Cond.code yX0_happensRest cX0_happensRest 2 (some .boolean), Cond.methodLink RX0 67 yX0_happensPay, Cond.instanceMethod yX0_happensPay, Cond.selects RX0 yX0_happensPay yX0_happensPay, Cond.code yX0_happensPay cX0_happensPay 3 (some .boolean), Cond.methodLink RX0 70 yX0_happensBuy, Cond.instanceMethod yX0_happensBuy, Cond.selects RX0 yX0_happensBuy yX0_happensBuy, Cond.code yX0_happensBuy cX0_happensBuy 3 (some .boolean)]
def wsX1_worth : List Cond := .code yX1_worth cX1_worth 2 (some .int) :: ((wsX1_worth_r1 ++ (wsX1_worth_r2 ++ (wsX1_worth_r3 ++ wsX1_worth_r4))) ++ wsX10 ++ wsX00 ++ (vx_atS RX1 136 "java/lang/IndexOutOfBoundsException" ["java/lang/RuntimeException", "java/lang/Exception"]).filter goodWord)
def wsX1_best_r1 : List Cond := [Cond.fieldLink RX1 29 "KnifeLedger" "size" "I", Cond.fieldLink RX1 25 "KnifeLedger" "struck" "[Z", Cond.methodLink RX1 105 yX1_coinsBehindAll, Cond.instanceMethod yX1_coinsBehindAll, Cond.selects RX1 yX1_coinsBehindAll yX1_coinsBehindAll, Cond.initialized RX1, Cond.code yX1_coinsBehindAll cX1_coinsBehindAll 2 (some .int), Cond.fieldLink RX1 38 "KnifeLedger" "reckoning" "LKnifeLedger$Reckoning;", Cond.methodLink RX1 68 yX1_reckon, Cond.instanceMethod yX1_reckon, Cond.selects RX1 yX1_reckon yX1_reckon, Cond.code yX1_reckon cX1_reckon 5 none, Cond.fieldLink RX1 16 "KnifeLedger" "kinds" "[I", Cond.fieldLink RX1 19 "KnifeLedger" "firsts" "[I", Cond.fieldLink RX1 22 "KnifeLedger" "seconds" "[I", Cond.instanceMethod yX0_begin, Cond.initialized RX0, Cond.selects RX0 yX0_begin yX0_begin, Cond.code yX0_begin cX0_begin 1 none, Cond.fieldLink RX0 21 "KnifeLedger$Reckoning" "coins" "I", Cond.fieldLink RX0 25 "KnifeLedger$Reckoning" "plasters" "I", Cond.fieldLink RX0 28 "KnifeLedger$Reckoning" "stage" "I", Cond.fieldLink RX0 31 "KnifeLedger$Reckoning" "joined" "I", Cond.fieldLink RX0 34 "KnifeLedger$Reckoning" "counting" "I"]
def wsX1_best_r2 : List Cond := [Cond.fieldLink RX0 37 "KnifeLedger$Reckoning" "idle" "I", Cond.fieldLink RX0 40 "KnifeLedger$Reckoning" "firstIdle" "I", Cond.fieldLink RX0 43 "KnifeLedger$Reckoning" "fewestCoins" "I", Cond.instanceMethod yX0_reckonEntry, Cond.selects RX0 yX0_reckonEntry yX0_reckonEntry, Cond.code yX0_reckonEntry cX0_reckonEntry 5 none, Cond.methodLink RX0 50 Lib.Math.min.name, Cond.static Lib.Math.min.name, Cond.initialized "java/lang/Math", Cond.code Lib.Math.min.name Lib.Math.min.code 2 (some .int), Cond.methodLink RX0 46 yX0_happens, Cond.instanceMethod yX0_happens, Cond.selects RX0 yX0_happens yX0_happens, Cond.code yX0_happens cX0_happens 4 (some .boolean), Cond.methodLink RX0 56 yX0_happensJoin, Cond.instanceMethod yX0_happensJoin, Cond.selects RX0 yX0_happensJoin yX0_happensJoin, Cond.code yX0_happensJoin cX0_happensJoin 2 (some .boolean), Cond.fieldLink RX0 9 "KnifeLedger$Reckoning" "trusts" "[I", Cond.methodLink RX0 60 yX0_happensToss, Cond.instanceMethod yX0_happensToss, Cond.selects RX0 yX0_happensToss yX0_happensToss, Cond.code yX0_happensToss cX0_happensToss 3 (some .boolean), Cond.methodLink RX0 73 yX0_standsFor]
def wsX1_best_r3 : List Cond := [Cond.instanceMethod yX0_standsFor, Cond.selects RX0 yX0_standsFor yX0_standsFor, Cond.code yX0_standsFor cX0_standsFor 2 (some .boolean), Cond.fieldLink RX0 18 "KnifeLedger$Reckoning" "trembles" "[I", Cond.methodLink RX0 88 yX0_hasJoined, Cond.instanceMethod yX0_hasJoined, Cond.selects RX0 yX0_hasJoined yX0_hasJoined, Cond.code yX0_hasJoined cX0_hasJoined 2 (some .boolean), Cond.methodLink RX0 76 yX0_takings, Cond.instanceMethod yX0_takings, Cond.selects RX0 yX0_takings yX0_takings, Cond.code yX0_takings cX0_takings 2 (some .int), Cond.fieldLink RX0 15 "KnifeLedger$Reckoning" "lights" "[I", Cond.methodLink RX0 80 yX0_scratch, Cond.instanceMethod yX0_scratch, Cond.selects RX0 yX0_scratch yX0_scratch, Cond.code yX0_scratch cX0_scratch 2 none, Cond.methodLink RX0 84 yX0_addTrust, Cond.instanceMethod yX0_addTrust, Cond.selects RX0 yX0_addTrust yX0_addTrust, Cond.code yX0_addTrust cX0_addTrust 3 none, Cond.methodLink RX0 91 Lib.Math.max.name, Cond.static Lib.Math.max.name, Cond.code Lib.Math.max.name Lib.Math.max.code 2 (some .int)]
def wsX1_best_r4 : List Cond := [Cond.methodLink RX0 64 yX0_happensRest, Cond.instanceMethod yX0_happensRest, Cond.selects RX0 yX0_happensRest yX0_happensRest, Cond.code yX0_happensRest cX0_happensRest 2 (some .boolean), Cond.methodLink RX0 67 yX0_happensPay, Cond.instanceMethod yX0_happensPay, Cond.selects RX0 yX0_happensPay yX0_happensPay, Cond.code yX0_happensPay cX0_happensPay 3 (some .boolean), Cond.methodLink RX0 70 yX0_happensBuy, Cond.instanceMethod yX0_happensBuy, Cond.selects RX0 yX0_happensBuy yX0_happensBuy, Cond.code yX0_happensBuy cX0_happensBuy 3 (some .boolean)]
def wsX1_best : List Cond := .code yX1_best cX1_best 5 (some .int) :: ((wsX1_best_r1 ++ (wsX1_best_r2 ++ (wsX1_best_r3 ++ wsX1_best_r4))) ++ wsX10 ++ wsX00)
def wsX1_would_r1 : List Cond := [Cond.fieldLink RX1 29 "KnifeLedger" "size" "I", Cond.fieldLink RX1 38 "KnifeLedger" "reckoning" "LKnifeLedger$Reckoning;", Cond.methodLink RX1 42 yX1_needIndex, Cond.static yX1_needIndex, Cond.initialized RX1, Cond.code yX1_needIndex cX1_needIndex 2 none, Cond.classLink RX1 132 "java/lang/IndexOutOfBoundsException", Cond.initialized "java/lang/IndexOutOfBoundsException", Cond.methodLink RX1 46 yX1_needWithin, Cond.static yX1_needWithin, Cond.code yX1_needWithin cX1_needWithin 3 none, Cond.classLink RX1 137 "java/lang/IllegalArgumentException", Cond.initialized "java/lang/IllegalArgumentException", Cond.methodLink RX1 68 yX1_reckon, Cond.instanceMethod yX1_reckon, Cond.selects RX1 yX1_reckon yX1_reckon, Cond.code yX1_reckon cX1_reckon 5 none, Cond.fieldLink RX1 25 "KnifeLedger" "struck" "[Z", Cond.fieldLink RX1 16 "KnifeLedger" "kinds" "[I", Cond.fieldLink RX1 19 "KnifeLedger" "firsts" "[I", Cond.fieldLink RX1 22 "KnifeLedger" "seconds" "[I", Cond.instanceMethod yX0_begin, Cond.initialized RX0, Cond.selects RX0 yX0_begin yX0_begin]
def wsX1_would_r2 : List Cond := [Cond.code yX0_begin cX0_begin 1 none, Cond.fieldLink RX0 21 "KnifeLedger$Reckoning" "coins" "I", Cond.fieldLink RX0 25 "KnifeLedger$Reckoning" "plasters" "I", Cond.fieldLink RX0 28 "KnifeLedger$Reckoning" "stage" "I", Cond.fieldLink RX0 31 "KnifeLedger$Reckoning" "joined" "I", Cond.fieldLink RX0 34 "KnifeLedger$Reckoning" "counting" "I", Cond.fieldLink RX0 37 "KnifeLedger$Reckoning" "idle" "I", Cond.fieldLink RX0 40 "KnifeLedger$Reckoning" "firstIdle" "I", Cond.fieldLink RX0 43 "KnifeLedger$Reckoning" "fewestCoins" "I", Cond.instanceMethod yX0_reckonEntry, Cond.selects RX0 yX0_reckonEntry yX0_reckonEntry, Cond.code yX0_reckonEntry cX0_reckonEntry 5 none, Cond.methodLink RX0 50 Lib.Math.min.name, Cond.static Lib.Math.min.name, Cond.initialized "java/lang/Math", Cond.code Lib.Math.min.name Lib.Math.min.code 2 (some .int), Cond.methodLink RX0 46 yX0_happens, Cond.instanceMethod yX0_happens, Cond.selects RX0 yX0_happens yX0_happens, Cond.code yX0_happens cX0_happens 4 (some .boolean), Cond.methodLink RX0 56 yX0_happensJoin, Cond.instanceMethod yX0_happensJoin, Cond.selects RX0 yX0_happensJoin yX0_happensJoin, Cond.code yX0_happensJoin cX0_happensJoin 2 (some .boolean)]
def wsX1_would_r3 : List Cond := [Cond.fieldLink RX0 9 "KnifeLedger$Reckoning" "trusts" "[I", Cond.methodLink RX0 60 yX0_happensToss, Cond.instanceMethod yX0_happensToss, Cond.selects RX0 yX0_happensToss yX0_happensToss, Cond.code yX0_happensToss cX0_happensToss 3 (some .boolean), Cond.methodLink RX0 73 yX0_standsFor, Cond.instanceMethod yX0_standsFor, Cond.selects RX0 yX0_standsFor yX0_standsFor, Cond.code yX0_standsFor cX0_standsFor 2 (some .boolean), Cond.fieldLink RX0 18 "KnifeLedger$Reckoning" "trembles" "[I", Cond.methodLink RX0 88 yX0_hasJoined, Cond.instanceMethod yX0_hasJoined, Cond.selects RX0 yX0_hasJoined yX0_hasJoined, Cond.code yX0_hasJoined cX0_hasJoined 2 (some .boolean), Cond.methodLink RX0 76 yX0_takings, Cond.instanceMethod yX0_takings, Cond.selects RX0 yX0_takings yX0_takings, Cond.code yX0_takings cX0_takings 2 (some .int), Cond.fieldLink RX0 15 "KnifeLedger$Reckoning" "lights" "[I", Cond.methodLink RX0 80 yX0_scratch, Cond.instanceMethod yX0_scratch, Cond.selects RX0 yX0_scratch yX0_scratch, Cond.code yX0_scratch cX0_scratch 2 none, Cond.methodLink RX0 84 yX0_addTrust]
def wsX1_would_r4 : List Cond := [Cond.instanceMethod yX0_addTrust, Cond.selects RX0 yX0_addTrust yX0_addTrust, Cond.code yX0_addTrust cX0_addTrust 3 none, Cond.methodLink RX0 91 Lib.Math.max.name, Cond.static Lib.Math.max.name, Cond.code Lib.Math.max.name Lib.Math.max.code 2 (some .int), Cond.methodLink RX0 64 yX0_happensRest, Cond.instanceMethod yX0_happensRest, Cond.selects RX0 yX0_happensRest yX0_happensRest, Cond.code yX0_happensRest cX0_happensRest 2 (some .boolean), Cond.methodLink RX0 67 yX0_happensPay, Cond.instanceMethod yX0_happensPay, Cond.selects RX0 yX0_happensPay yX0_happensPay, Cond.code yX0_happensPay cX0_happensPay 3 (some .boolean), Cond.methodLink RX0 70 yX0_happensBuy, Cond.instanceMethod yX0_happensBuy, Cond.selects RX0 yX0_happensBuy yX0_happensBuy, Cond.code yX0_happensBuy cX0_happensBuy 3 (some .boolean)]
def wsX1_would : List Cond := .code yX1_would cX1_would 3 (some .int) :: ((wsX1_would_r1 ++ (wsX1_would_r2 ++ (wsX1_would_r3 ++ wsX1_would_r4))) ++ wsX10 ++ wsX00 ++ (vx_atS RX1 136 "java/lang/IndexOutOfBoundsException" ["java/lang/RuntimeException", "java/lang/Exception"]).filter goodWord ++ (vx_atS RX1 141 "java/lang/IllegalArgumentException" ["java/lang/RuntimeException", "java/lang/Exception"]).filter goodWord)
def wsX1_mean_r1 : List Cond := [Cond.fieldLink RX1 29 "KnifeLedger" "size" "I", Cond.fieldLink RX1 38 "KnifeLedger" "reckoning" "LKnifeLedger$Reckoning;", Cond.methodLink RX1 68 yX1_reckon, Cond.instanceMethod yX1_reckon, Cond.selects RX1 yX1_reckon yX1_reckon, Cond.initialized RX1, Cond.code yX1_reckon cX1_reckon 5 none, Cond.fieldLink RX1 25 "KnifeLedger" "struck" "[Z", Cond.fieldLink RX1 16 "KnifeLedger" "kinds" "[I", Cond.fieldLink RX1 19 "KnifeLedger" "firsts" "[I", Cond.fieldLink RX1 22 "KnifeLedger" "seconds" "[I", Cond.instanceMethod yX0_begin, Cond.initialized RX0, Cond.selects RX0 yX0_begin yX0_begin, Cond.code yX0_begin cX0_begin 1 none, Cond.fieldLink RX0 21 "KnifeLedger$Reckoning" "coins" "I", Cond.fieldLink RX0 25 "KnifeLedger$Reckoning" "plasters" "I", Cond.fieldLink RX0 28 "KnifeLedger$Reckoning" "stage" "I", Cond.fieldLink RX0 31 "KnifeLedger$Reckoning" "joined" "I", Cond.fieldLink RX0 34 "KnifeLedger$Reckoning" "counting" "I", Cond.fieldLink RX0 37 "KnifeLedger$Reckoning" "idle" "I", Cond.fieldLink RX0 40 "KnifeLedger$Reckoning" "firstIdle" "I", Cond.fieldLink RX0 43 "KnifeLedger$Reckoning" "fewestCoins" "I", Cond.instanceMethod yX0_reckonEntry]
def wsX1_mean_r2 : List Cond := [Cond.selects RX0 yX0_reckonEntry yX0_reckonEntry, Cond.code yX0_reckonEntry cX0_reckonEntry 5 none, Cond.methodLink RX0 50 Lib.Math.min.name, Cond.static Lib.Math.min.name, Cond.initialized "java/lang/Math", Cond.code Lib.Math.min.name Lib.Math.min.code 2 (some .int), Cond.methodLink RX0 46 yX0_happens, Cond.instanceMethod yX0_happens, Cond.selects RX0 yX0_happens yX0_happens, Cond.code yX0_happens cX0_happens 4 (some .boolean), Cond.methodLink RX0 56 yX0_happensJoin, Cond.instanceMethod yX0_happensJoin, Cond.selects RX0 yX0_happensJoin yX0_happensJoin, Cond.code yX0_happensJoin cX0_happensJoin 2 (some .boolean), Cond.fieldLink RX0 9 "KnifeLedger$Reckoning" "trusts" "[I", Cond.methodLink RX0 60 yX0_happensToss, Cond.instanceMethod yX0_happensToss, Cond.selects RX0 yX0_happensToss yX0_happensToss, Cond.code yX0_happensToss cX0_happensToss 3 (some .boolean), Cond.methodLink RX0 73 yX0_standsFor, Cond.instanceMethod yX0_standsFor, Cond.selects RX0 yX0_standsFor yX0_standsFor, Cond.code yX0_standsFor cX0_standsFor 2 (some .boolean), Cond.fieldLink RX0 18 "KnifeLedger$Reckoning" "trembles" "[I"]
def wsX1_mean_r3 : List Cond := [Cond.methodLink RX0 88 yX0_hasJoined, Cond.instanceMethod yX0_hasJoined, Cond.selects RX0 yX0_hasJoined yX0_hasJoined, Cond.code yX0_hasJoined cX0_hasJoined 2 (some .boolean), Cond.methodLink RX0 76 yX0_takings, Cond.instanceMethod yX0_takings, Cond.selects RX0 yX0_takings yX0_takings, Cond.code yX0_takings cX0_takings 2 (some .int), Cond.fieldLink RX0 15 "KnifeLedger$Reckoning" "lights" "[I", Cond.methodLink RX0 80 yX0_scratch, Cond.instanceMethod yX0_scratch, Cond.selects RX0 yX0_scratch yX0_scratch, Cond.code yX0_scratch cX0_scratch 2 none, Cond.methodLink RX0 84 yX0_addTrust, Cond.instanceMethod yX0_addTrust, Cond.selects RX0 yX0_addTrust yX0_addTrust, Cond.code yX0_addTrust cX0_addTrust 3 none, Cond.methodLink RX0 91 Lib.Math.max.name, Cond.static Lib.Math.max.name, Cond.code Lib.Math.max.name Lib.Math.max.code 2 (some .int), Cond.methodLink RX0 64 yX0_happensRest, Cond.instanceMethod yX0_happensRest, Cond.selects RX0 yX0_happensRest yX0_happensRest, Cond.code yX0_happensRest cX0_happensRest 2 (some .boolean)]
def wsX1_mean_r4 : List Cond := [Cond.methodLink RX0 67 yX0_happensPay, Cond.instanceMethod yX0_happensPay, Cond.selects RX0 yX0_happensPay yX0_happensPay, Cond.code yX0_happensPay cX0_happensPay 3 (some .boolean), Cond.methodLink RX0 70 yX0_happensBuy, Cond.instanceMethod yX0_happensBuy, Cond.selects RX0 yX0_happensBuy yX0_happensBuy, Cond.code yX0_happensBuy cX0_happensBuy 3 (some .boolean), Cond.instanceMethod yX0_trustOfAll, Cond.selects RX0 yX0_trustOfAll yX0_trustOfAll, Cond.code yX0_trustOfAll cX0_trustOfAll 3 (some .int)]
def wsX1_mean : List Cond := .code yX1_mean cX1_mean 1 (some .double) :: ((wsX1_mean_r1 ++ (wsX1_mean_r2 ++ (wsX1_mean_r3 ++ wsX1_mean_r4))) ++ wsX10 ++ wsX00)
def wsX1_digest_r1 : List Cond := [Cond.constantLong RX1 115 (1229), Cond.constantLong RX1 117 (31), Cond.fieldLink RX1 9 "KnifeLedger" "lights" "[I", Cond.fieldLink RX1 13 "KnifeLedger" "trembles" "[I", Cond.fieldLink RX1 29 "KnifeLedger" "size" "I", Cond.methodLink RX1 119 yX1_count, Cond.instanceMethod yX1_count, Cond.selects RX1 yX1_count yX1_count, Cond.initialized RX1, Cond.code yX1_count cX1_count 2 (some .int), Cond.fieldLink RX1 38 "KnifeLedger" "reckoning" "LKnifeLedger$Reckoning;", Cond.methodLink RX1 42 yX1_needIndex, Cond.static yX1_needIndex, Cond.code yX1_needIndex cX1_needIndex 2 none, Cond.classLink RX1 132 "java/lang/IndexOutOfBoundsException", Cond.initialized "java/lang/IndexOutOfBoundsException", Cond.methodLink RX1 68 yX1_reckon, Cond.instanceMethod yX1_reckon, Cond.selects RX1 yX1_reckon yX1_reckon, Cond.code yX1_reckon cX1_reckon 5 none, Cond.fieldLink RX1 25 "KnifeLedger" "struck" "[Z", Cond.fieldLink RX1 16 "KnifeLedger" "kinds" "[I", Cond.fieldLink RX1 19 "KnifeLedger" "firsts" "[I", Cond.fieldLink RX1 22 "KnifeLedger" "seconds" "[I"]
def wsX1_digest_r2 : List Cond := [Cond.instanceMethod yX0_begin, Cond.initialized RX0, Cond.selects RX0 yX0_begin yX0_begin, Cond.code yX0_begin cX0_begin 1 none, Cond.fieldLink RX0 21 "KnifeLedger$Reckoning" "coins" "I", Cond.fieldLink RX0 25 "KnifeLedger$Reckoning" "plasters" "I", Cond.fieldLink RX0 28 "KnifeLedger$Reckoning" "stage" "I", Cond.fieldLink RX0 31 "KnifeLedger$Reckoning" "joined" "I", Cond.fieldLink RX0 34 "KnifeLedger$Reckoning" "counting" "I", Cond.fieldLink RX0 37 "KnifeLedger$Reckoning" "idle" "I", Cond.fieldLink RX0 40 "KnifeLedger$Reckoning" "firstIdle" "I", Cond.fieldLink RX0 43 "KnifeLedger$Reckoning" "fewestCoins" "I", Cond.instanceMethod yX0_reckonEntry, Cond.selects RX0 yX0_reckonEntry yX0_reckonEntry, Cond.code yX0_reckonEntry cX0_reckonEntry 5 none, Cond.methodLink RX0 50 Lib.Math.min.name, Cond.static Lib.Math.min.name, Cond.initialized "java/lang/Math", Cond.code Lib.Math.min.name Lib.Math.min.code 2 (some .int), Cond.methodLink RX0 46 yX0_happens, Cond.instanceMethod yX0_happens, Cond.selects RX0 yX0_happens yX0_happens, Cond.code yX0_happens cX0_happens 4 (some .boolean), Cond.methodLink RX0 56 yX0_happensJoin]
def wsX1_digest_r3 : List Cond := [Cond.instanceMethod yX0_happensJoin, Cond.selects RX0 yX0_happensJoin yX0_happensJoin, Cond.code yX0_happensJoin cX0_happensJoin 2 (some .boolean), Cond.fieldLink RX0 9 "KnifeLedger$Reckoning" "trusts" "[I", Cond.methodLink RX0 60 yX0_happensToss, Cond.instanceMethod yX0_happensToss, Cond.selects RX0 yX0_happensToss yX0_happensToss, Cond.code yX0_happensToss cX0_happensToss 3 (some .boolean), Cond.methodLink RX0 73 yX0_standsFor, Cond.instanceMethod yX0_standsFor, Cond.selects RX0 yX0_standsFor yX0_standsFor, Cond.code yX0_standsFor cX0_standsFor 2 (some .boolean), Cond.fieldLink RX0 18 "KnifeLedger$Reckoning" "trembles" "[I", Cond.methodLink RX0 88 yX0_hasJoined, Cond.instanceMethod yX0_hasJoined, Cond.selects RX0 yX0_hasJoined yX0_hasJoined, Cond.code yX0_hasJoined cX0_hasJoined 2 (some .boolean), Cond.methodLink RX0 76 yX0_takings, Cond.instanceMethod yX0_takings, Cond.selects RX0 yX0_takings yX0_takings, Cond.code yX0_takings cX0_takings 2 (some .int), Cond.fieldLink RX0 15 "KnifeLedger$Reckoning" "lights" "[I", Cond.methodLink RX0 80 yX0_scratch, Cond.instanceMethod yX0_scratch]
def wsX1_digest_r4 : List Cond := [Cond.selects RX0 yX0_scratch yX0_scratch, Cond.code yX0_scratch cX0_scratch 2 none, Cond.methodLink RX0 84 yX0_addTrust, Cond.instanceMethod yX0_addTrust, Cond.selects RX0 yX0_addTrust yX0_addTrust, Cond.code yX0_addTrust cX0_addTrust 3 none, Cond.methodLink RX0 91 Lib.Math.max.name, Cond.static Lib.Math.max.name, Cond.code Lib.Math.max.name Lib.Math.max.code 2 (some .int), Cond.methodLink RX0 64 yX0_happensRest, Cond.instanceMethod yX0_happensRest, Cond.selects RX0 yX0_happensRest yX0_happensRest, Cond.code yX0_happensRest cX0_happensRest 2 (some .boolean), Cond.methodLink RX0 67 yX0_happensPay, Cond.instanceMethod yX0_happensPay, Cond.selects RX0 yX0_happensPay yX0_happensPay, Cond.code yX0_happensPay cX0_happensPay 3 (some .boolean), Cond.methodLink RX0 70 yX0_happensBuy, Cond.instanceMethod yX0_happensBuy, Cond.selects RX0 yX0_happensBuy yX0_happensBuy, Cond.code yX0_happensBuy cX0_happensBuy 3 (some .boolean), Cond.methodLink RX1 122 yX1_entry, Cond.instanceMethod yX1_entry, Cond.selects RX1 yX1_entry yX1_entry]
def wsX1_digest_r5 : List Cond := [Cond.code yX1_entry cX1_entry 3 (some .int), Cond.methodLink RX1 64 yX1_counts, Cond.instanceMethod yX1_counts, Cond.selects RX1 yX1_counts yX1_counts, Cond.code yX1_counts cX1_counts 2 (some .boolean), Cond.methodLink RX1 126 yX1_behind, Cond.instanceMethod yX1_behind, Cond.selects RX1 yX1_behind yX1_behind, Cond.code yX1_behind cX1_behind 3 (some .int), Cond.methodLink RX1 46 yX1_needWithin, Cond.static yX1_needWithin, Cond.code yX1_needWithin cX1_needWithin 3 none, Cond.classLink RX1 137 "java/lang/IllegalArgumentException", Cond.initialized "java/lang/IllegalArgumentException", Cond.instanceMethod yX0_trustOfAll, Cond.selects RX0 yX0_trustOfAll yX0_trustOfAll, Cond.code yX0_trustOfAll cX0_trustOfAll 3 (some .int), Cond.methodLink RX1 129 yX1_trust, Cond.instanceMethod yX1_trust, Cond.selects RX1 yX1_trust yX1_trust, Cond.code yX1_trust cX1_trust 3 (some .int)]
def wsX1_digest : List Cond := .code yX1_digest cX1_digest 5 (some .long) :: ((wsX1_digest_r1 ++ (wsX1_digest_r2 ++ (wsX1_digest_r3 ++ (wsX1_digest_r4 ++ wsX1_digest_r5)))) ++ wsX10 ++ wsX00 ++ (vx_atS RX1 136 "java/lang/IndexOutOfBoundsException" ["java/lang/RuntimeException", "java/lang/Exception"]).filter goodWord ++ (vx_atS RX1 141 "java/lang/IllegalArgumentException" ["java/lang/RuntimeException", "java/lang/Exception"]).filter goodWord)
def wsX2_init : List Cond := .code yX2_init cX2_init 1 none :: ([.methodLink RX2 1 objectInit, .instanceMethod objectInit, .code objectInit ⟨#[0xb1]⟩ 1 none, .arrayClass .int, .fieldLink RX2 9 "KnifeLedgerModel" "light" "[I", .fieldLink RX2 13 "KnifeLedgerModel" "tremble" "[I", .fieldLink RX2 16 "KnifeLedgerModel" "kinds" "[I", .fieldLink RX2 19 "KnifeLedgerModel" "firsts" "[I", .fieldLink RX2 22 "KnifeLedgerModel" "seconds" "[I", .arrayClass .boolean, .fieldLink RX2 25 "KnifeLedgerModel" "struck" "[Z", .fieldLink RX2 29 "KnifeLedgerModel" "trusts" "[I"] ++ wsX20)
def wsX2_thrown : List Cond := .code yX2_thrown cX2_thrown 1 (some .int) :: ([.fieldLink RX2 32 "KnifeLedgerModel" "thrown" "I"] ++ wsX20)
def wsX2_fail : List Cond := .code yX2_fail cX2_fail 2 (some .int) :: ([.fieldLink RX2 32 "KnifeLedgerModel" "thrown" "I"] ++ wsX20)
def wsX2_isIn : List Cond := .code yX2_isIn cX2_isIn 3 (some .boolean) :: ([])
def wsX2_isEntry : List Cond := .code yX2_isEntry cX2_isEntry 2 (some .boolean) :: ([.fieldLink RX2 36 "KnifeLedgerModel" "entries" "I", .methodLink RX2 39 yX2_isIn, .static yX2_isIn, .initialized RX2, .code yX2_isIn cX2_isIn 3 (some .boolean)] ++ wsX20)
def wsX2_set : List Cond := .code yX2_set cX2_set 5 (some .int) :: ([.fieldLink RX2 32 "KnifeLedgerModel" "thrown" "I", .fieldLink RX2 9 "KnifeLedgerModel" "light" "[I", .fieldLink RX2 13 "KnifeLedgerModel" "tremble" "[I", .methodLink RX2 39 yX2_isIn, .static yX2_isIn, .initialized RX2, .code yX2_isIn cX2_isIn 3 (some .boolean), .methodLink RX2 43 yX2_fail, .instanceMethod yX2_fail, .selects RX2 yX2_fail yX2_fail, .code yX2_fail cX2_fail 2 (some .int)] ++ wsX20)
def wsX2_write : List Cond := .code yX2_write cX2_write 4 (some .int) :: ([.fieldLink RX2 16 "KnifeLedgerModel" "kinds" "[I", .fieldLink RX2 36 "KnifeLedgerModel" "entries" "I", .fieldLink RX2 19 "KnifeLedgerModel" "firsts" "[I", .fieldLink RX2 22 "KnifeLedgerModel" "seconds" "[I", .fieldLink RX2 25 "KnifeLedgerModel" "struck" "[Z"] ++ wsX20)
def wsX2_join : List Cond := .code yX2_join cX2_join 2 (some .int) :: ([.fieldLink RX2 32 "KnifeLedgerModel" "thrown" "I", .fieldLink RX2 36 "KnifeLedgerModel" "entries" "I", .methodLink RX2 39 yX2_isIn, .static yX2_isIn, .initialized RX2, .code yX2_isIn cX2_isIn 3 (some .boolean), .methodLink RX2 43 yX2_fail, .instanceMethod yX2_fail, .selects RX2 yX2_fail yX2_fail, .code yX2_fail cX2_fail 2 (some .int), .methodLink RX2 47 yX2_write, .instanceMethod yX2_write, .selects RX2 yX2_write yX2_write, .code yX2_write cX2_write 4 (some .int), .fieldLink RX2 16 "KnifeLedgerModel" "kinds" "[I", .fieldLink RX2 19 "KnifeLedgerModel" "firsts" "[I", .fieldLink RX2 22 "KnifeLedgerModel" "seconds" "[I", .fieldLink RX2 25 "KnifeLedgerModel" "struck" "[Z"] ++ wsX20)
def wsX2_toss : List Cond := .code yX2_toss cX2_toss 3 (some .int) :: ([.fieldLink RX2 32 "KnifeLedgerModel" "thrown" "I", .fieldLink RX2 36 "KnifeLedgerModel" "entries" "I", .methodLink RX2 39 yX2_isIn, .static yX2_isIn, .initialized RX2, .code yX2_isIn cX2_isIn 3 (some .boolean), .methodLink RX2 43 yX2_fail, .instanceMethod yX2_fail, .selects RX2 yX2_fail yX2_fail, .code yX2_fail cX2_fail 2 (some .int), .methodLink RX2 47 yX2_write, .instanceMethod yX2_write, .selects RX2 yX2_write yX2_write, .code yX2_write cX2_write 4 (some .int), .fieldLink RX2 16 "KnifeLedgerModel" "kinds" "[I", .fieldLink RX2 19 "KnifeLedgerModel" "firsts" "[I", .fieldLink RX2 22 "KnifeLedgerModel" "seconds" "[I", .fieldLink RX2 25 "KnifeLedgerModel" "struck" "[Z"] ++ wsX20)
def wsX2_rest : List Cond := .code yX2_rest cX2_rest 2 (some .int) :: ([.fieldLink RX2 32 "KnifeLedgerModel" "thrown" "I", .fieldLink RX2 36 "KnifeLedgerModel" "entries" "I", .methodLink RX2 39 yX2_isIn, .static yX2_isIn, .initialized RX2, .code yX2_isIn cX2_isIn 3 (some .boolean), .methodLink RX2 43 yX2_fail, .instanceMethod yX2_fail, .selects RX2 yX2_fail yX2_fail, .code yX2_fail cX2_fail 2 (some .int), .methodLink RX2 47 yX2_write, .instanceMethod yX2_write, .selects RX2 yX2_write yX2_write, .code yX2_write cX2_write 4 (some .int), .fieldLink RX2 16 "KnifeLedgerModel" "kinds" "[I", .fieldLink RX2 19 "KnifeLedgerModel" "firsts" "[I", .fieldLink RX2 22 "KnifeLedgerModel" "seconds" "[I", .fieldLink RX2 25 "KnifeLedgerModel" "struck" "[Z"] ++ wsX20)
def wsX2_go : List Cond := .code yX2_go cX2_go 2 (some .int) :: ([.fieldLink RX2 32 "KnifeLedgerModel" "thrown" "I", .fieldLink RX2 36 "KnifeLedgerModel" "entries" "I", .methodLink RX2 39 yX2_isIn, .static yX2_isIn, .initialized RX2, .code yX2_isIn cX2_isIn 3 (some .boolean), .methodLink RX2 43 yX2_fail, .instanceMethod yX2_fail, .selects RX2 yX2_fail yX2_fail, .code yX2_fail cX2_fail 2 (some .int), .methodLink RX2 47 yX2_write, .instanceMethod yX2_write, .selects RX2 yX2_write yX2_write, .code yX2_write cX2_write 4 (some .int), .fieldLink RX2 16 "KnifeLedgerModel" "kinds" "[I", .fieldLink RX2 19 "KnifeLedgerModel" "firsts" "[I", .fieldLink RX2 22 "KnifeLedgerModel" "seconds" "[I", .fieldLink RX2 25 "KnifeLedgerModel" "struck" "[Z"] ++ wsX20)
def wsX2_pay : List Cond := .code yX2_pay cX2_pay 3 (some .int) :: ([.fieldLink RX2 32 "KnifeLedgerModel" "thrown" "I", .fieldLink RX2 36 "KnifeLedgerModel" "entries" "I", .methodLink RX2 39 yX2_isIn, .static yX2_isIn, .initialized RX2, .code yX2_isIn cX2_isIn 3 (some .boolean), .methodLink RX2 43 yX2_fail, .instanceMethod yX2_fail, .selects RX2 yX2_fail yX2_fail, .code yX2_fail cX2_fail 2 (some .int), .methodLink RX2 47 yX2_write, .instanceMethod yX2_write, .selects RX2 yX2_write yX2_write, .code yX2_write cX2_write 4 (some .int), .fieldLink RX2 16 "KnifeLedgerModel" "kinds" "[I", .fieldLink RX2 19 "KnifeLedgerModel" "firsts" "[I", .fieldLink RX2 22 "KnifeLedgerModel" "seconds" "[I", .fieldLink RX2 25 "KnifeLedgerModel" "struck" "[Z"] ++ wsX20)
def wsX2_buy : List Cond := .code yX2_buy cX2_buy 2 (some .int) :: ([.fieldLink RX2 32 "KnifeLedgerModel" "thrown" "I", .fieldLink RX2 36 "KnifeLedgerModel" "entries" "I", .methodLink RX2 39 yX2_isIn, .static yX2_isIn, .initialized RX2, .code yX2_isIn cX2_isIn 3 (some .boolean), .methodLink RX2 43 yX2_fail, .instanceMethod yX2_fail, .selects RX2 yX2_fail yX2_fail, .code yX2_fail cX2_fail 2 (some .int), .methodLink RX2 47 yX2_write, .instanceMethod yX2_write, .selects RX2 yX2_write yX2_write, .code yX2_write cX2_write 4 (some .int), .fieldLink RX2 16 "KnifeLedgerModel" "kinds" "[I", .fieldLink RX2 19 "KnifeLedgerModel" "firsts" "[I", .fieldLink RX2 22 "KnifeLedgerModel" "seconds" "[I", .fieldLink RX2 25 "KnifeLedgerModel" "struck" "[Z"] ++ wsX20)
def wsX2_more : List Cond := .code yX2_more cX2_more 3 none :: ([.fieldLink RX2 29 "KnifeLedgerModel" "trusts" "[I", .methodLink RX2 51 Lib.Math.min.name, .static Lib.Math.min.name, .initialized "java/lang/Math", .code Lib.Math.min.name Lib.Math.min.code 2 (some .int), .methodLink RX2 57 Lib.Math.max.name, .static Lib.Math.max.name, .code Lib.Math.max.name Lib.Math.max.code 2 (some .int)] ++ wsX20)
def wsX2_canToss : List Cond := .code yX2_canToss cX2_canToss 2 (some .boolean) :: ([.fieldLink RX2 60 "KnifeLedgerModel" "joined" "I", .fieldLink RX2 29 "KnifeLedgerModel" "trusts" "[I", .fieldLink RX2 13 "KnifeLedgerModel" "tremble" "[I", .fieldLink RX2 63 "KnifeLedgerModel" "stage" "I"] ++ wsX20)
def wsX2_brings : List Cond := .code yX2_brings cX2_brings 2 (some .int) :: ([.fieldLink RX2 9 "KnifeLedgerModel" "light" "[I", .fieldLink RX2 63 "KnifeLedgerModel" "stage" "I"] ++ wsX20)
def wsX2_holds : List Cond := .code yX2_holds cX2_holds 3 (some .boolean) :: ([.fieldLink RX2 19 "KnifeLedgerModel" "firsts" "[I", .fieldLink RX2 16 "KnifeLedgerModel" "kinds" "[I", .fieldLink RX2 60 "KnifeLedgerModel" "joined" "I", .fieldLink RX2 70 "KnifeLedgerModel" "coins" "I", .fieldLink RX2 22 "KnifeLedgerModel" "seconds" "[I", .methodLink RX2 66 yX2_canToss, .instanceMethod yX2_canToss, .selects RX2 yX2_canToss yX2_canToss, .initialized RX2, .code yX2_canToss cX2_canToss 2 (some .boolean), .fieldLink RX2 29 "KnifeLedgerModel" "trusts" "[I", .fieldLink RX2 13 "KnifeLedgerModel" "tremble" "[I", .fieldLink RX2 63 "KnifeLedgerModel" "stage" "I"] ++ wsX20)
def wsX2_stick : List Cond := .code yX2_stick cX2_stick 3 none :: ([.fieldLink RX2 70 "KnifeLedgerModel" "coins" "I", .fieldLink RX2 80 "KnifeLedgerModel" "plasters" "I", .methodLink RX2 57 Lib.Math.max.name, .static Lib.Math.max.name, .initialized "java/lang/Math", .code Lib.Math.max.name Lib.Math.max.code 2 (some .int), .methodLink RX2 73 yX2_brings, .instanceMethod yX2_brings, .selects RX2 yX2_brings yX2_brings, .initialized RX2, .code yX2_brings cX2_brings 2 (some .int), .fieldLink RX2 9 "KnifeLedgerModel" "light" "[I", .fieldLink RX2 63 "KnifeLedgerModel" "stage" "I", .methodLink RX2 76 yX2_more, .instanceMethod yX2_more, .selects RX2 yX2_more yX2_more, .code yX2_more cX2_more 3 none, .fieldLink RX2 29 "KnifeLedgerModel" "trusts" "[I", .methodLink RX2 51 Lib.Math.min.name, .static Lib.Math.min.name, .code Lib.Math.min.name Lib.Math.min.code 2 (some .int)] ++ wsX20)
def wsX2_carryOut_r1 : List Cond := [Cond.fieldLink RX2 19 "KnifeLedgerModel" "firsts" "[I", Cond.fieldLink RX2 22 "KnifeLedgerModel" "seconds" "[I", Cond.fieldLink RX2 16 "KnifeLedgerModel" "kinds" "[I", Cond.fieldLink RX2 29 "KnifeLedgerModel" "trusts" "[I", Cond.fieldLink RX2 60 "KnifeLedgerModel" "joined" "I", Cond.fieldLink RX2 63 "KnifeLedgerModel" "stage" "I", Cond.fieldLink RX2 70 "KnifeLedgerModel" "coins" "I", Cond.fieldLink RX2 80 "KnifeLedgerModel" "plasters" "I", Cond.methodLink RX2 83 yX2_stick, Cond.instanceMethod yX2_stick, Cond.selects RX2 yX2_stick yX2_stick, Cond.initialized RX2, Cond.code yX2_stick cX2_stick 3 none, Cond.methodLink RX2 57 Lib.Math.max.name, Cond.static Lib.Math.max.name, Cond.initialized "java/lang/Math", Cond.code Lib.Math.max.name Lib.Math.max.code 2 (some .int), Cond.methodLink RX2 73 yX2_brings, Cond.instanceMethod yX2_brings, Cond.selects RX2 yX2_brings yX2_brings, Cond.code yX2_brings cX2_brings 2 (some .int), Cond.fieldLink RX2 9 "KnifeLedgerModel" "light" "[I", Cond.methodLink RX2 76 yX2_more, Cond.instanceMethod yX2_more]
def wsX2_carryOut_r2 : List Cond := [Cond.selects RX2 yX2_more yX2_more, Cond.code yX2_more cX2_more 3 none, Cond.methodLink RX2 51 Lib.Math.min.name, Cond.static Lib.Math.min.name, Cond.code Lib.Math.min.name Lib.Math.min.code 2 (some .int)]
def wsX2_carryOut : List Cond := .code yX2_carryOut cX2_carryOut 4 none :: ((wsX2_carryOut_r1 ++ wsX2_carryOut_r2) ++ wsX20)
def wsX2_reckon_r1 : List Cond := [Cond.fieldLink RX2 70 "KnifeLedgerModel" "coins" "I", Cond.fieldLink RX2 80 "KnifeLedgerModel" "plasters" "I", Cond.fieldLink RX2 63 "KnifeLedgerModel" "stage" "I", Cond.fieldLink RX2 60 "KnifeLedgerModel" "joined" "I", Cond.fieldLink RX2 86 "KnifeLedgerModel" "counting" "I", Cond.fieldLink RX2 89 "KnifeLedgerModel" "idle" "I", Cond.fieldLink RX2 92 "KnifeLedgerModel" "firstIdle" "I", Cond.fieldLink RX2 95 "KnifeLedgerModel" "fewest" "I", Cond.fieldLink RX2 25 "KnifeLedgerModel" "struck" "[Z", Cond.methodLink RX2 51 Lib.Math.min.name, Cond.static Lib.Math.min.name, Cond.initialized "java/lang/Math", Cond.code Lib.Math.min.name Lib.Math.min.code 2 (some .int), Cond.methodLink RX2 98 yX2_holds, Cond.instanceMethod yX2_holds, Cond.selects RX2 yX2_holds yX2_holds, Cond.initialized RX2, Cond.code yX2_holds cX2_holds 3 (some .boolean), Cond.fieldLink RX2 19 "KnifeLedgerModel" "firsts" "[I", Cond.fieldLink RX2 16 "KnifeLedgerModel" "kinds" "[I", Cond.fieldLink RX2 22 "KnifeLedgerModel" "seconds" "[I", Cond.methodLink RX2 66 yX2_canToss, Cond.instanceMethod yX2_canToss, Cond.selects RX2 yX2_canToss yX2_canToss]
def wsX2_reckon_r2 : List Cond := [Cond.code yX2_canToss cX2_canToss 2 (some .boolean), Cond.fieldLink RX2 29 "KnifeLedgerModel" "trusts" "[I", Cond.fieldLink RX2 13 "KnifeLedgerModel" "tremble" "[I", Cond.methodLink RX2 101 yX2_carryOut, Cond.instanceMethod yX2_carryOut, Cond.selects RX2 yX2_carryOut yX2_carryOut, Cond.code yX2_carryOut cX2_carryOut 4 none, Cond.methodLink RX2 83 yX2_stick, Cond.instanceMethod yX2_stick, Cond.selects RX2 yX2_stick yX2_stick, Cond.code yX2_stick cX2_stick 3 none, Cond.methodLink RX2 57 Lib.Math.max.name, Cond.static Lib.Math.max.name, Cond.code Lib.Math.max.name Lib.Math.max.code 2 (some .int), Cond.methodLink RX2 73 yX2_brings, Cond.instanceMethod yX2_brings, Cond.selects RX2 yX2_brings yX2_brings, Cond.code yX2_brings cX2_brings 2 (some .int), Cond.fieldLink RX2 9 "KnifeLedgerModel" "light" "[I", Cond.methodLink RX2 76 yX2_more, Cond.instanceMethod yX2_more, Cond.selects RX2 yX2_more yX2_more, Cond.code yX2_more cX2_more 3 none]
def wsX2_reckon : List Cond := .code yX2_reckon cX2_reckon 4 (some .boolean) :: ((wsX2_reckon_r1 ++ wsX2_reckon_r2) ++ wsX20)
def wsX2_trustAll : List Cond := .code yX2_trustAll cX2_trustAll 3 (some .int) :: ([.fieldLink RX2 60 "KnifeLedgerModel" "joined" "I", .fieldLink RX2 29 "KnifeLedgerModel" "trusts" "[I"] ++ wsX20)
def wsX2_strike : List Cond := .code yX2_strike cX2_strike 2 (some .boolean) :: ([.fieldLink RX2 32 "KnifeLedgerModel" "thrown" "I", .fieldLink RX2 25 "KnifeLedgerModel" "struck" "[Z", .methodLink RX2 105 yX2_isEntry, .instanceMethod yX2_isEntry, .selects RX2 yX2_isEntry yX2_isEntry, .initialized RX2, .code yX2_isEntry cX2_isEntry 2 (some .boolean), .fieldLink RX2 36 "KnifeLedgerModel" "entries" "I", .methodLink RX2 39 yX2_isIn, .static yX2_isIn, .code yX2_isIn cX2_isIn 3 (some .boolean)] ++ wsX20)
def wsX2_exchange : List Cond := .code yX2_exchange cX2_exchange 7 none :: ([.fieldLink RX2 16 "KnifeLedgerModel" "kinds" "[I", .fieldLink RX2 19 "KnifeLedgerModel" "firsts" "[I", .fieldLink RX2 22 "KnifeLedgerModel" "seconds" "[I", .fieldLink RX2 25 "KnifeLedgerModel" "struck" "[Z"] ++ wsX20)
def wsX2_shift : List Cond := .code yX2_shift cX2_shift 4 (some .int) :: ([.fieldLink RX2 32 "KnifeLedgerModel" "thrown" "I", .fieldLink RX2 16 "KnifeLedgerModel" "kinds" "[I", .methodLink RX2 105 yX2_isEntry, .instanceMethod yX2_isEntry, .selects RX2 yX2_isEntry yX2_isEntry, .initialized RX2, .code yX2_isEntry cX2_isEntry 2 (some .boolean), .fieldLink RX2 36 "KnifeLedgerModel" "entries" "I", .methodLink RX2 39 yX2_isIn, .static yX2_isIn, .code yX2_isIn cX2_isIn 3 (some .boolean), .methodLink RX2 43 yX2_fail, .instanceMethod yX2_fail, .selects RX2 yX2_fail yX2_fail, .code yX2_fail cX2_fail 2 (some .int), .methodLink RX2 108 yX2_exchange, .instanceMethod yX2_exchange, .selects RX2 yX2_exchange yX2_exchange, .code yX2_exchange cX2_exchange 7 none, .fieldLink RX2 19 "KnifeLedgerModel" "firsts" "[I", .fieldLink RX2 22 "KnifeLedgerModel" "seconds" "[I", .fieldLink RX2 25 "KnifeLedgerModel" "struck" "[Z"] ++ wsX20)
def wsX2_tear : List Cond := .code yX2_tear cX2_tear 1 (some .int) :: ([.fieldLink RX2 32 "KnifeLedgerModel" "thrown" "I", .fieldLink RX2 36 "KnifeLedgerModel" "entries" "I", .fieldLink RX2 16 "KnifeLedgerModel" "kinds" "[I", .methodLink RX2 43 yX2_fail, .instanceMethod yX2_fail, .selects RX2 yX2_fail yX2_fail, .initialized RX2, .code yX2_fail cX2_fail 2 (some .int)] ++ wsX20)
def wsX2_entryTold_r1 : List Cond := [Cond.fieldLink RX2 16 "KnifeLedgerModel" "kinds" "[I", Cond.fieldLink RX2 19 "KnifeLedgerModel" "firsts" "[I", Cond.fieldLink RX2 22 "KnifeLedgerModel" "seconds" "[I", Cond.fieldLink RX2 25 "KnifeLedgerModel" "struck" "[Z", Cond.methodLink RX2 111 yX2_reckon, Cond.instanceMethod yX2_reckon, Cond.selects RX2 yX2_reckon yX2_reckon, Cond.initialized RX2, Cond.code yX2_reckon cX2_reckon 4 (some .boolean), Cond.fieldLink RX2 70 "KnifeLedgerModel" "coins" "I", Cond.fieldLink RX2 80 "KnifeLedgerModel" "plasters" "I", Cond.fieldLink RX2 63 "KnifeLedgerModel" "stage" "I", Cond.fieldLink RX2 60 "KnifeLedgerModel" "joined" "I", Cond.fieldLink RX2 86 "KnifeLedgerModel" "counting" "I", Cond.fieldLink RX2 89 "KnifeLedgerModel" "idle" "I", Cond.fieldLink RX2 92 "KnifeLedgerModel" "firstIdle" "I", Cond.fieldLink RX2 95 "KnifeLedgerModel" "fewest" "I", Cond.methodLink RX2 51 Lib.Math.min.name, Cond.static Lib.Math.min.name, Cond.initialized "java/lang/Math", Cond.code Lib.Math.min.name Lib.Math.min.code 2 (some .int), Cond.methodLink RX2 98 yX2_holds, Cond.instanceMethod yX2_holds, Cond.selects RX2 yX2_holds yX2_holds]
def wsX2_entryTold_r2 : List Cond := [Cond.code yX2_holds cX2_holds 3 (some .boolean), Cond.methodLink RX2 66 yX2_canToss, Cond.instanceMethod yX2_canToss, Cond.selects RX2 yX2_canToss yX2_canToss, Cond.code yX2_canToss cX2_canToss 2 (some .boolean), Cond.fieldLink RX2 29 "KnifeLedgerModel" "trusts" "[I", Cond.fieldLink RX2 13 "KnifeLedgerModel" "tremble" "[I", Cond.methodLink RX2 101 yX2_carryOut, Cond.instanceMethod yX2_carryOut, Cond.selects RX2 yX2_carryOut yX2_carryOut, Cond.code yX2_carryOut cX2_carryOut 4 none, Cond.methodLink RX2 83 yX2_stick, Cond.instanceMethod yX2_stick, Cond.selects RX2 yX2_stick yX2_stick, Cond.code yX2_stick cX2_stick 3 none, Cond.methodLink RX2 57 Lib.Math.max.name, Cond.static Lib.Math.max.name, Cond.code Lib.Math.max.name Lib.Math.max.code 2 (some .int), Cond.methodLink RX2 73 yX2_brings, Cond.instanceMethod yX2_brings, Cond.selects RX2 yX2_brings yX2_brings, Cond.code yX2_brings cX2_brings 2 (some .int), Cond.fieldLink RX2 9 "KnifeLedgerModel" "light" "[I", Cond.methodLink RX2 76 yX2_more]
def wsX2_entryTold_r3 : List Cond := [Cond.instanceMethod yX2_more, Cond.selects RX2 yX2_more yX2_more, Cond.code yX2_more cX2_more 3 none]
def wsX2_entryTold : List Cond := .code yX2_entryTold cX2_entryTold 3 (some .int) :: ((wsX2_entryTold_r1 ++ (wsX2_entryTold_r2 ++ wsX2_entryTold_r3)) ++ wsX20)
def wsX2_entry_r1 : List Cond := [Cond.fieldLink RX2 32 "KnifeLedgerModel" "thrown" "I", Cond.methodLink RX2 105 yX2_isEntry, Cond.instanceMethod yX2_isEntry, Cond.selects RX2 yX2_isEntry yX2_isEntry, Cond.initialized RX2, Cond.code yX2_isEntry cX2_isEntry 2 (some .boolean), Cond.fieldLink RX2 36 "KnifeLedgerModel" "entries" "I", Cond.methodLink RX2 39 yX2_isIn, Cond.static yX2_isIn, Cond.code yX2_isIn cX2_isIn 3 (some .boolean), Cond.methodLink RX2 114 yX2_entryTold, Cond.instanceMethod yX2_entryTold, Cond.selects RX2 yX2_entryTold yX2_entryTold, Cond.code yX2_entryTold cX2_entryTold 3 (some .int), Cond.fieldLink RX2 16 "KnifeLedgerModel" "kinds" "[I", Cond.fieldLink RX2 19 "KnifeLedgerModel" "firsts" "[I", Cond.fieldLink RX2 22 "KnifeLedgerModel" "seconds" "[I", Cond.fieldLink RX2 25 "KnifeLedgerModel" "struck" "[Z", Cond.methodLink RX2 111 yX2_reckon, Cond.instanceMethod yX2_reckon, Cond.selects RX2 yX2_reckon yX2_reckon, Cond.code yX2_reckon cX2_reckon 4 (some .boolean), Cond.fieldLink RX2 70 "KnifeLedgerModel" "coins" "I", Cond.fieldLink RX2 80 "KnifeLedgerModel" "plasters" "I"]
def wsX2_entry_r2 : List Cond := [Cond.fieldLink RX2 63 "KnifeLedgerModel" "stage" "I", Cond.fieldLink RX2 60 "KnifeLedgerModel" "joined" "I", Cond.fieldLink RX2 86 "KnifeLedgerModel" "counting" "I", Cond.fieldLink RX2 89 "KnifeLedgerModel" "idle" "I", Cond.fieldLink RX2 92 "KnifeLedgerModel" "firstIdle" "I", Cond.fieldLink RX2 95 "KnifeLedgerModel" "fewest" "I", Cond.methodLink RX2 51 Lib.Math.min.name, Cond.static Lib.Math.min.name, Cond.initialized "java/lang/Math", Cond.code Lib.Math.min.name Lib.Math.min.code 2 (some .int), Cond.methodLink RX2 98 yX2_holds, Cond.instanceMethod yX2_holds, Cond.selects RX2 yX2_holds yX2_holds, Cond.code yX2_holds cX2_holds 3 (some .boolean), Cond.methodLink RX2 66 yX2_canToss, Cond.instanceMethod yX2_canToss, Cond.selects RX2 yX2_canToss yX2_canToss, Cond.code yX2_canToss cX2_canToss 2 (some .boolean), Cond.fieldLink RX2 29 "KnifeLedgerModel" "trusts" "[I", Cond.fieldLink RX2 13 "KnifeLedgerModel" "tremble" "[I", Cond.methodLink RX2 101 yX2_carryOut, Cond.instanceMethod yX2_carryOut, Cond.selects RX2 yX2_carryOut yX2_carryOut, Cond.code yX2_carryOut cX2_carryOut 4 none]
def wsX2_entry_r3 : List Cond := [Cond.methodLink RX2 83 yX2_stick, Cond.instanceMethod yX2_stick, Cond.selects RX2 yX2_stick yX2_stick, Cond.code yX2_stick cX2_stick 3 none, Cond.methodLink RX2 57 Lib.Math.max.name, Cond.static Lib.Math.max.name, Cond.code Lib.Math.max.name Lib.Math.max.code 2 (some .int), Cond.methodLink RX2 73 yX2_brings, Cond.instanceMethod yX2_brings, Cond.selects RX2 yX2_brings yX2_brings, Cond.code yX2_brings cX2_brings 2 (some .int), Cond.fieldLink RX2 9 "KnifeLedgerModel" "light" "[I", Cond.methodLink RX2 76 yX2_more, Cond.instanceMethod yX2_more, Cond.selects RX2 yX2_more yX2_more, Cond.code yX2_more cX2_more 3 none, Cond.methodLink RX2 43 yX2_fail, Cond.instanceMethod yX2_fail, Cond.selects RX2 yX2_fail yX2_fail, Cond.code yX2_fail cX2_fail 2 (some .int)]
def wsX2_entry : List Cond := .code yX2_entry cX2_entry 3 (some .int) :: ((wsX2_entry_r1 ++ (wsX2_entry_r2 ++ wsX2_entry_r3)) ++ wsX20)
def wsX2_behind_r1 : List Cond := [Cond.fieldLink RX2 32 "KnifeLedgerModel" "thrown" "I", Cond.fieldLink RX2 36 "KnifeLedgerModel" "entries" "I", Cond.arrayClass .int, Cond.fieldLink RX2 70 "KnifeLedgerModel" "coins" "I", Cond.fieldLink RX2 80 "KnifeLedgerModel" "plasters" "I", Cond.fieldLink RX2 63 "KnifeLedgerModel" "stage" "I", Cond.fieldLink RX2 60 "KnifeLedgerModel" "joined" "I", Cond.fieldLink RX2 86 "KnifeLedgerModel" "counting" "I", Cond.fieldLink RX2 89 "KnifeLedgerModel" "idle" "I", Cond.methodLink RX2 39 yX2_isIn, Cond.static yX2_isIn, Cond.initialized RX2, Cond.code yX2_isIn cX2_isIn 3 (some .boolean), Cond.methodLink RX2 43 yX2_fail, Cond.instanceMethod yX2_fail, Cond.selects RX2 yX2_fail yX2_fail, Cond.code yX2_fail cX2_fail 2 (some .int), Cond.methodLink RX2 111 yX2_reckon, Cond.instanceMethod yX2_reckon, Cond.selects RX2 yX2_reckon yX2_reckon, Cond.code yX2_reckon cX2_reckon 4 (some .boolean), Cond.fieldLink RX2 92 "KnifeLedgerModel" "firstIdle" "I", Cond.fieldLink RX2 95 "KnifeLedgerModel" "fewest" "I", Cond.fieldLink RX2 25 "KnifeLedgerModel" "struck" "[Z"]
def wsX2_behind_r2 : List Cond := [Cond.methodLink RX2 51 Lib.Math.min.name, Cond.static Lib.Math.min.name, Cond.initialized "java/lang/Math", Cond.code Lib.Math.min.name Lib.Math.min.code 2 (some .int), Cond.methodLink RX2 98 yX2_holds, Cond.instanceMethod yX2_holds, Cond.selects RX2 yX2_holds yX2_holds, Cond.code yX2_holds cX2_holds 3 (some .boolean), Cond.fieldLink RX2 19 "KnifeLedgerModel" "firsts" "[I", Cond.fieldLink RX2 16 "KnifeLedgerModel" "kinds" "[I", Cond.fieldLink RX2 22 "KnifeLedgerModel" "seconds" "[I", Cond.methodLink RX2 66 yX2_canToss, Cond.instanceMethod yX2_canToss, Cond.selects RX2 yX2_canToss yX2_canToss, Cond.code yX2_canToss cX2_canToss 2 (some .boolean), Cond.fieldLink RX2 29 "KnifeLedgerModel" "trusts" "[I", Cond.fieldLink RX2 13 "KnifeLedgerModel" "tremble" "[I", Cond.methodLink RX2 101 yX2_carryOut, Cond.instanceMethod yX2_carryOut, Cond.selects RX2 yX2_carryOut yX2_carryOut, Cond.code yX2_carryOut cX2_carryOut 4 none, Cond.methodLink RX2 83 yX2_stick, Cond.instanceMethod yX2_stick, Cond.selects RX2 yX2_stick yX2_stick]
def wsX2_behind_r3 : List Cond := [Cond.code yX2_stick cX2_stick 3 none, Cond.methodLink RX2 57 Lib.Math.max.name, Cond.static Lib.Math.max.name, Cond.code Lib.Math.max.name Lib.Math.max.code 2 (some .int), Cond.methodLink RX2 73 yX2_brings, Cond.instanceMethod yX2_brings, Cond.selects RX2 yX2_brings yX2_brings, Cond.code yX2_brings cX2_brings 2 (some .int), Cond.fieldLink RX2 9 "KnifeLedgerModel" "light" "[I", Cond.methodLink RX2 76 yX2_more, Cond.instanceMethod yX2_more, Cond.selects RX2 yX2_more yX2_more, Cond.code yX2_more cX2_more 3 none, Cond.methodLink RX2 117 yX2_trustAll, Cond.instanceMethod yX2_trustAll, Cond.selects RX2 yX2_trustAll yX2_trustAll, Cond.code yX2_trustAll cX2_trustAll 3 (some .int)]
def wsX2_behind : List Cond := .code yX2_behind cX2_behind 4 (some .int) :: ((wsX2_behind_r1 ++ (wsX2_behind_r2 ++ wsX2_behind_r3)) ++ wsX20)
def wsX2_trust_r1 : List Cond := [Cond.fieldLink RX2 32 "KnifeLedgerModel" "thrown" "I", Cond.fieldLink RX2 36 "KnifeLedgerModel" "entries" "I", Cond.fieldLink RX2 60 "KnifeLedgerModel" "joined" "I", Cond.fieldLink RX2 29 "KnifeLedgerModel" "trusts" "[I", Cond.methodLink RX2 39 yX2_isIn, Cond.static yX2_isIn, Cond.initialized RX2, Cond.code yX2_isIn cX2_isIn 3 (some .boolean), Cond.methodLink RX2 43 yX2_fail, Cond.instanceMethod yX2_fail, Cond.selects RX2 yX2_fail yX2_fail, Cond.code yX2_fail cX2_fail 2 (some .int), Cond.methodLink RX2 111 yX2_reckon, Cond.instanceMethod yX2_reckon, Cond.selects RX2 yX2_reckon yX2_reckon, Cond.code yX2_reckon cX2_reckon 4 (some .boolean), Cond.fieldLink RX2 70 "KnifeLedgerModel" "coins" "I", Cond.fieldLink RX2 80 "KnifeLedgerModel" "plasters" "I", Cond.fieldLink RX2 63 "KnifeLedgerModel" "stage" "I", Cond.fieldLink RX2 86 "KnifeLedgerModel" "counting" "I", Cond.fieldLink RX2 89 "KnifeLedgerModel" "idle" "I", Cond.fieldLink RX2 92 "KnifeLedgerModel" "firstIdle" "I", Cond.fieldLink RX2 95 "KnifeLedgerModel" "fewest" "I", Cond.fieldLink RX2 25 "KnifeLedgerModel" "struck" "[Z"]
def wsX2_trust_r2 : List Cond := [Cond.methodLink RX2 51 Lib.Math.min.name, Cond.static Lib.Math.min.name, Cond.initialized "java/lang/Math", Cond.code Lib.Math.min.name Lib.Math.min.code 2 (some .int), Cond.methodLink RX2 98 yX2_holds, Cond.instanceMethod yX2_holds, Cond.selects RX2 yX2_holds yX2_holds, Cond.code yX2_holds cX2_holds 3 (some .boolean), Cond.fieldLink RX2 19 "KnifeLedgerModel" "firsts" "[I", Cond.fieldLink RX2 16 "KnifeLedgerModel" "kinds" "[I", Cond.fieldLink RX2 22 "KnifeLedgerModel" "seconds" "[I", Cond.methodLink RX2 66 yX2_canToss, Cond.instanceMethod yX2_canToss, Cond.selects RX2 yX2_canToss yX2_canToss, Cond.code yX2_canToss cX2_canToss 2 (some .boolean), Cond.fieldLink RX2 13 "KnifeLedgerModel" "tremble" "[I", Cond.methodLink RX2 101 yX2_carryOut, Cond.instanceMethod yX2_carryOut, Cond.selects RX2 yX2_carryOut yX2_carryOut, Cond.code yX2_carryOut cX2_carryOut 4 none, Cond.methodLink RX2 83 yX2_stick, Cond.instanceMethod yX2_stick, Cond.selects RX2 yX2_stick yX2_stick, Cond.code yX2_stick cX2_stick 3 none]
def wsX2_trust_r3 : List Cond := [Cond.methodLink RX2 57 Lib.Math.max.name, Cond.static Lib.Math.max.name, Cond.code Lib.Math.max.name Lib.Math.max.code 2 (some .int), Cond.methodLink RX2 73 yX2_brings, Cond.instanceMethod yX2_brings, Cond.selects RX2 yX2_brings yX2_brings, Cond.code yX2_brings cX2_brings 2 (some .int), Cond.fieldLink RX2 9 "KnifeLedgerModel" "light" "[I", Cond.methodLink RX2 76 yX2_more, Cond.instanceMethod yX2_more, Cond.selects RX2 yX2_more yX2_more, Cond.code yX2_more cX2_more 3 none]
def wsX2_trust : List Cond := .code yX2_trust cX2_trust 3 (some .int) :: ((wsX2_trust_r1 ++ (wsX2_trust_r2 ++ wsX2_trust_r3)) ++ wsX20)
def wsX2_counted_r1 : List Cond := [Cond.fieldLink RX2 36 "KnifeLedgerModel" "entries" "I", Cond.fieldLink RX2 25 "KnifeLedgerModel" "struck" "[Z", Cond.fieldLink RX2 86 "KnifeLedgerModel" "counting" "I", Cond.fieldLink RX2 70 "KnifeLedgerModel" "coins" "I", Cond.fieldLink RX2 92 "KnifeLedgerModel" "firstIdle" "I", Cond.fieldLink RX2 95 "KnifeLedgerModel" "fewest" "I", Cond.methodLink RX2 111 yX2_reckon, Cond.instanceMethod yX2_reckon, Cond.selects RX2 yX2_reckon yX2_reckon, Cond.initialized RX2, Cond.code yX2_reckon cX2_reckon 4 (some .boolean), Cond.fieldLink RX2 80 "KnifeLedgerModel" "plasters" "I", Cond.fieldLink RX2 63 "KnifeLedgerModel" "stage" "I", Cond.fieldLink RX2 60 "KnifeLedgerModel" "joined" "I", Cond.fieldLink RX2 89 "KnifeLedgerModel" "idle" "I", Cond.methodLink RX2 51 Lib.Math.min.name, Cond.static Lib.Math.min.name, Cond.initialized "java/lang/Math", Cond.code Lib.Math.min.name Lib.Math.min.code 2 (some .int), Cond.methodLink RX2 98 yX2_holds, Cond.instanceMethod yX2_holds, Cond.selects RX2 yX2_holds yX2_holds, Cond.code yX2_holds cX2_holds 3 (some .boolean), Cond.fieldLink RX2 19 "KnifeLedgerModel" "firsts" "[I"]
def wsX2_counted_r2 : List Cond := [Cond.fieldLink RX2 16 "KnifeLedgerModel" "kinds" "[I", Cond.fieldLink RX2 22 "KnifeLedgerModel" "seconds" "[I", Cond.methodLink RX2 66 yX2_canToss, Cond.instanceMethod yX2_canToss, Cond.selects RX2 yX2_canToss yX2_canToss, Cond.code yX2_canToss cX2_canToss 2 (some .boolean), Cond.fieldLink RX2 29 "KnifeLedgerModel" "trusts" "[I", Cond.fieldLink RX2 13 "KnifeLedgerModel" "tremble" "[I", Cond.methodLink RX2 101 yX2_carryOut, Cond.instanceMethod yX2_carryOut, Cond.selects RX2 yX2_carryOut yX2_carryOut, Cond.code yX2_carryOut cX2_carryOut 4 none, Cond.methodLink RX2 83 yX2_stick, Cond.instanceMethod yX2_stick, Cond.selects RX2 yX2_stick yX2_stick, Cond.code yX2_stick cX2_stick 3 none, Cond.methodLink RX2 57 Lib.Math.max.name, Cond.static Lib.Math.max.name, Cond.code Lib.Math.max.name Lib.Math.max.code 2 (some .int), Cond.methodLink RX2 73 yX2_brings, Cond.instanceMethod yX2_brings, Cond.selects RX2 yX2_brings yX2_brings, Cond.code yX2_brings cX2_brings 2 (some .int), Cond.fieldLink RX2 9 "KnifeLedgerModel" "light" "[I"]
def wsX2_counted_r3 : List Cond := [Cond.methodLink RX2 76 yX2_more, Cond.instanceMethod yX2_more, Cond.selects RX2 yX2_more yX2_more, Cond.code yX2_more cX2_more 3 none]
def wsX2_counted : List Cond := .code yX2_counted cX2_counted 4 (some .int) :: ((wsX2_counted_r1 ++ (wsX2_counted_r2 ++ wsX2_counted_r3)) ++ wsX20)
def wsX2_count_r1 : List Cond := [Cond.fieldLink RX2 32 "KnifeLedgerModel" "thrown" "I", Cond.methodLink RX2 39 yX2_isIn, Cond.static yX2_isIn, Cond.initialized RX2, Cond.code yX2_isIn cX2_isIn 3 (some .boolean), Cond.methodLink RX2 121 yX2_counted, Cond.instanceMethod yX2_counted, Cond.selects RX2 yX2_counted yX2_counted, Cond.code yX2_counted cX2_counted 4 (some .int), Cond.fieldLink RX2 36 "KnifeLedgerModel" "entries" "I", Cond.fieldLink RX2 25 "KnifeLedgerModel" "struck" "[Z", Cond.fieldLink RX2 86 "KnifeLedgerModel" "counting" "I", Cond.fieldLink RX2 70 "KnifeLedgerModel" "coins" "I", Cond.fieldLink RX2 92 "KnifeLedgerModel" "firstIdle" "I", Cond.fieldLink RX2 95 "KnifeLedgerModel" "fewest" "I", Cond.methodLink RX2 111 yX2_reckon, Cond.instanceMethod yX2_reckon, Cond.selects RX2 yX2_reckon yX2_reckon, Cond.code yX2_reckon cX2_reckon 4 (some .boolean), Cond.fieldLink RX2 80 "KnifeLedgerModel" "plasters" "I", Cond.fieldLink RX2 63 "KnifeLedgerModel" "stage" "I", Cond.fieldLink RX2 60 "KnifeLedgerModel" "joined" "I", Cond.fieldLink RX2 89 "KnifeLedgerModel" "idle" "I", Cond.methodLink RX2 51 Lib.Math.min.name]
def wsX2_count_r2 : List Cond := [Cond.static Lib.Math.min.name, Cond.initialized "java/lang/Math", Cond.code Lib.Math.min.name Lib.Math.min.code 2 (some .int), Cond.methodLink RX2 98 yX2_holds, Cond.instanceMethod yX2_holds, Cond.selects RX2 yX2_holds yX2_holds, Cond.code yX2_holds cX2_holds 3 (some .boolean), Cond.fieldLink RX2 19 "KnifeLedgerModel" "firsts" "[I", Cond.fieldLink RX2 16 "KnifeLedgerModel" "kinds" "[I", Cond.fieldLink RX2 22 "KnifeLedgerModel" "seconds" "[I", Cond.methodLink RX2 66 yX2_canToss, Cond.instanceMethod yX2_canToss, Cond.selects RX2 yX2_canToss yX2_canToss, Cond.code yX2_canToss cX2_canToss 2 (some .boolean), Cond.fieldLink RX2 29 "KnifeLedgerModel" "trusts" "[I", Cond.fieldLink RX2 13 "KnifeLedgerModel" "tremble" "[I", Cond.methodLink RX2 101 yX2_carryOut, Cond.instanceMethod yX2_carryOut, Cond.selects RX2 yX2_carryOut yX2_carryOut, Cond.code yX2_carryOut cX2_carryOut 4 none, Cond.methodLink RX2 83 yX2_stick, Cond.instanceMethod yX2_stick, Cond.selects RX2 yX2_stick yX2_stick, Cond.code yX2_stick cX2_stick 3 none]
def wsX2_count_r3 : List Cond := [Cond.methodLink RX2 57 Lib.Math.max.name, Cond.static Lib.Math.max.name, Cond.code Lib.Math.max.name Lib.Math.max.code 2 (some .int), Cond.methodLink RX2 73 yX2_brings, Cond.instanceMethod yX2_brings, Cond.selects RX2 yX2_brings yX2_brings, Cond.code yX2_brings cX2_brings 2 (some .int), Cond.fieldLink RX2 9 "KnifeLedgerModel" "light" "[I", Cond.methodLink RX2 76 yX2_more, Cond.instanceMethod yX2_more, Cond.selects RX2 yX2_more yX2_more, Cond.code yX2_more cX2_more 3 none, Cond.methodLink RX2 43 yX2_fail, Cond.instanceMethod yX2_fail, Cond.selects RX2 yX2_fail yX2_fail, Cond.code yX2_fail cX2_fail 2 (some .int)]
def wsX2_count : List Cond := .code yX2_count cX2_count 2 (some .int) :: ((wsX2_count_r1 ++ (wsX2_count_r2 ++ wsX2_count_r3)) ++ wsX20)
def wsX2_coinsNow_r1 : List Cond := [Cond.fieldLink RX2 36 "KnifeLedgerModel" "entries" "I", Cond.fieldLink RX2 70 "KnifeLedgerModel" "coins" "I", Cond.methodLink RX2 111 yX2_reckon, Cond.instanceMethod yX2_reckon, Cond.selects RX2 yX2_reckon yX2_reckon, Cond.initialized RX2, Cond.code yX2_reckon cX2_reckon 4 (some .boolean), Cond.fieldLink RX2 80 "KnifeLedgerModel" "plasters" "I", Cond.fieldLink RX2 63 "KnifeLedgerModel" "stage" "I", Cond.fieldLink RX2 60 "KnifeLedgerModel" "joined" "I", Cond.fieldLink RX2 86 "KnifeLedgerModel" "counting" "I", Cond.fieldLink RX2 89 "KnifeLedgerModel" "idle" "I", Cond.fieldLink RX2 92 "KnifeLedgerModel" "firstIdle" "I", Cond.fieldLink RX2 95 "KnifeLedgerModel" "fewest" "I", Cond.fieldLink RX2 25 "KnifeLedgerModel" "struck" "[Z", Cond.methodLink RX2 51 Lib.Math.min.name, Cond.static Lib.Math.min.name, Cond.initialized "java/lang/Math", Cond.code Lib.Math.min.name Lib.Math.min.code 2 (some .int), Cond.methodLink RX2 98 yX2_holds, Cond.instanceMethod yX2_holds, Cond.selects RX2 yX2_holds yX2_holds, Cond.code yX2_holds cX2_holds 3 (some .boolean), Cond.fieldLink RX2 19 "KnifeLedgerModel" "firsts" "[I"]
def wsX2_coinsNow_r2 : List Cond := [Cond.fieldLink RX2 16 "KnifeLedgerModel" "kinds" "[I", Cond.fieldLink RX2 22 "KnifeLedgerModel" "seconds" "[I", Cond.methodLink RX2 66 yX2_canToss, Cond.instanceMethod yX2_canToss, Cond.selects RX2 yX2_canToss yX2_canToss, Cond.code yX2_canToss cX2_canToss 2 (some .boolean), Cond.fieldLink RX2 29 "KnifeLedgerModel" "trusts" "[I", Cond.fieldLink RX2 13 "KnifeLedgerModel" "tremble" "[I", Cond.methodLink RX2 101 yX2_carryOut, Cond.instanceMethod yX2_carryOut, Cond.selects RX2 yX2_carryOut yX2_carryOut, Cond.code yX2_carryOut cX2_carryOut 4 none, Cond.methodLink RX2 83 yX2_stick, Cond.instanceMethod yX2_stick, Cond.selects RX2 yX2_stick yX2_stick, Cond.code yX2_stick cX2_stick 3 none, Cond.methodLink RX2 57 Lib.Math.max.name, Cond.static Lib.Math.max.name, Cond.code Lib.Math.max.name Lib.Math.max.code 2 (some .int), Cond.methodLink RX2 73 yX2_brings, Cond.instanceMethod yX2_brings, Cond.selects RX2 yX2_brings yX2_brings, Cond.code yX2_brings cX2_brings 2 (some .int), Cond.fieldLink RX2 9 "KnifeLedgerModel" "light" "[I"]
def wsX2_coinsNow_r3 : List Cond := [Cond.methodLink RX2 76 yX2_more, Cond.instanceMethod yX2_more, Cond.selects RX2 yX2_more yX2_more, Cond.code yX2_more cX2_more 3 none]
def wsX2_coinsNow : List Cond := .code yX2_coinsNow cX2_coinsNow 1 (some .int) :: ((wsX2_coinsNow_r1 ++ (wsX2_coinsNow_r2 ++ wsX2_coinsNow_r3)) ++ wsX20)
def wsX2_coinsOther_r1 : List Cond := [Cond.fieldLink RX2 25 "KnifeLedgerModel" "struck" "[Z", Cond.methodLink RX2 124 yX2_coinsNow, Cond.instanceMethod yX2_coinsNow, Cond.selects RX2 yX2_coinsNow yX2_coinsNow, Cond.initialized RX2, Cond.code yX2_coinsNow cX2_coinsNow 1 (some .int), Cond.fieldLink RX2 36 "KnifeLedgerModel" "entries" "I", Cond.fieldLink RX2 70 "KnifeLedgerModel" "coins" "I", Cond.methodLink RX2 111 yX2_reckon, Cond.instanceMethod yX2_reckon, Cond.selects RX2 yX2_reckon yX2_reckon, Cond.code yX2_reckon cX2_reckon 4 (some .boolean), Cond.fieldLink RX2 80 "KnifeLedgerModel" "plasters" "I", Cond.fieldLink RX2 63 "KnifeLedgerModel" "stage" "I", Cond.fieldLink RX2 60 "KnifeLedgerModel" "joined" "I", Cond.fieldLink RX2 86 "KnifeLedgerModel" "counting" "I", Cond.fieldLink RX2 89 "KnifeLedgerModel" "idle" "I", Cond.fieldLink RX2 92 "KnifeLedgerModel" "firstIdle" "I", Cond.fieldLink RX2 95 "KnifeLedgerModel" "fewest" "I", Cond.methodLink RX2 51 Lib.Math.min.name, Cond.static Lib.Math.min.name, Cond.initialized "java/lang/Math", Cond.code Lib.Math.min.name Lib.Math.min.code 2 (some .int), Cond.methodLink RX2 98 yX2_holds]
def wsX2_coinsOther_r2 : List Cond := [Cond.instanceMethod yX2_holds, Cond.selects RX2 yX2_holds yX2_holds, Cond.code yX2_holds cX2_holds 3 (some .boolean), Cond.fieldLink RX2 19 "KnifeLedgerModel" "firsts" "[I", Cond.fieldLink RX2 16 "KnifeLedgerModel" "kinds" "[I", Cond.fieldLink RX2 22 "KnifeLedgerModel" "seconds" "[I", Cond.methodLink RX2 66 yX2_canToss, Cond.instanceMethod yX2_canToss, Cond.selects RX2 yX2_canToss yX2_canToss, Cond.code yX2_canToss cX2_canToss 2 (some .boolean), Cond.fieldLink RX2 29 "KnifeLedgerModel" "trusts" "[I", Cond.fieldLink RX2 13 "KnifeLedgerModel" "tremble" "[I", Cond.methodLink RX2 101 yX2_carryOut, Cond.instanceMethod yX2_carryOut, Cond.selects RX2 yX2_carryOut yX2_carryOut, Cond.code yX2_carryOut cX2_carryOut 4 none, Cond.methodLink RX2 83 yX2_stick, Cond.instanceMethod yX2_stick, Cond.selects RX2 yX2_stick yX2_stick, Cond.code yX2_stick cX2_stick 3 none, Cond.methodLink RX2 57 Lib.Math.max.name, Cond.static Lib.Math.max.name, Cond.code Lib.Math.max.name Lib.Math.max.code 2 (some .int), Cond.methodLink RX2 73 yX2_brings]
def wsX2_coinsOther_r3 : List Cond := [Cond.instanceMethod yX2_brings, Cond.selects RX2 yX2_brings yX2_brings, Cond.code yX2_brings cX2_brings 2 (some .int), Cond.fieldLink RX2 9 "KnifeLedgerModel" "light" "[I", Cond.methodLink RX2 76 yX2_more, Cond.instanceMethod yX2_more, Cond.selects RX2 yX2_more yX2_more, Cond.code yX2_more cX2_more 3 none]
def wsX2_coinsOther : List Cond := .code yX2_coinsOther cX2_coinsOther 3 (some .int) :: ((wsX2_coinsOther_r1 ++ (wsX2_coinsOther_r2 ++ wsX2_coinsOther_r3)) ++ wsX20)
def wsX2_worth_r1 : List Cond := [Cond.fieldLink RX2 32 "KnifeLedgerModel" "thrown" "I", Cond.methodLink RX2 105 yX2_isEntry, Cond.instanceMethod yX2_isEntry, Cond.selects RX2 yX2_isEntry yX2_isEntry, Cond.initialized RX2, Cond.code yX2_isEntry cX2_isEntry 2 (some .boolean), Cond.fieldLink RX2 36 "KnifeLedgerModel" "entries" "I", Cond.methodLink RX2 39 yX2_isIn, Cond.static yX2_isIn, Cond.code yX2_isIn cX2_isIn 3 (some .boolean), Cond.methodLink RX2 124 yX2_coinsNow, Cond.instanceMethod yX2_coinsNow, Cond.selects RX2 yX2_coinsNow yX2_coinsNow, Cond.code yX2_coinsNow cX2_coinsNow 1 (some .int), Cond.fieldLink RX2 70 "KnifeLedgerModel" "coins" "I", Cond.methodLink RX2 111 yX2_reckon, Cond.instanceMethod yX2_reckon, Cond.selects RX2 yX2_reckon yX2_reckon, Cond.code yX2_reckon cX2_reckon 4 (some .boolean), Cond.fieldLink RX2 80 "KnifeLedgerModel" "plasters" "I", Cond.fieldLink RX2 63 "KnifeLedgerModel" "stage" "I", Cond.fieldLink RX2 60 "KnifeLedgerModel" "joined" "I", Cond.fieldLink RX2 86 "KnifeLedgerModel" "counting" "I", Cond.fieldLink RX2 89 "KnifeLedgerModel" "idle" "I"]
def wsX2_worth_r2 : List Cond := [Cond.fieldLink RX2 92 "KnifeLedgerModel" "firstIdle" "I", Cond.fieldLink RX2 95 "KnifeLedgerModel" "fewest" "I", Cond.fieldLink RX2 25 "KnifeLedgerModel" "struck" "[Z", Cond.methodLink RX2 51 Lib.Math.min.name, Cond.static Lib.Math.min.name, Cond.initialized "java/lang/Math", Cond.code Lib.Math.min.name Lib.Math.min.code 2 (some .int), Cond.methodLink RX2 98 yX2_holds, Cond.instanceMethod yX2_holds, Cond.selects RX2 yX2_holds yX2_holds, Cond.code yX2_holds cX2_holds 3 (some .boolean), Cond.fieldLink RX2 19 "KnifeLedgerModel" "firsts" "[I", Cond.fieldLink RX2 16 "KnifeLedgerModel" "kinds" "[I", Cond.fieldLink RX2 22 "KnifeLedgerModel" "seconds" "[I", Cond.methodLink RX2 66 yX2_canToss, Cond.instanceMethod yX2_canToss, Cond.selects RX2 yX2_canToss yX2_canToss, Cond.code yX2_canToss cX2_canToss 2 (some .boolean), Cond.fieldLink RX2 29 "KnifeLedgerModel" "trusts" "[I", Cond.fieldLink RX2 13 "KnifeLedgerModel" "tremble" "[I", Cond.methodLink RX2 101 yX2_carryOut, Cond.instanceMethod yX2_carryOut, Cond.selects RX2 yX2_carryOut yX2_carryOut, Cond.code yX2_carryOut cX2_carryOut 4 none]
def wsX2_worth_r3 : List Cond := [Cond.methodLink RX2 83 yX2_stick, Cond.instanceMethod yX2_stick, Cond.selects RX2 yX2_stick yX2_stick, Cond.code yX2_stick cX2_stick 3 none, Cond.methodLink RX2 57 Lib.Math.max.name, Cond.static Lib.Math.max.name, Cond.code Lib.Math.max.name Lib.Math.max.code 2 (some .int), Cond.methodLink RX2 73 yX2_brings, Cond.instanceMethod yX2_brings, Cond.selects RX2 yX2_brings yX2_brings, Cond.code yX2_brings cX2_brings 2 (some .int), Cond.fieldLink RX2 9 "KnifeLedgerModel" "light" "[I", Cond.methodLink RX2 76 yX2_more, Cond.instanceMethod yX2_more, Cond.selects RX2 yX2_more yX2_more, Cond.code yX2_more cX2_more 3 none, Cond.methodLink RX2 127 yX2_coinsOther, Cond.instanceMethod yX2_coinsOther, Cond.selects RX2 yX2_coinsOther yX2_coinsOther, Cond.code yX2_coinsOther cX2_coinsOther 3 (some .int), Cond.methodLink RX2 43 yX2_fail, Cond.instanceMethod yX2_fail, Cond.selects RX2 yX2_fail yX2_fail, Cond.code yX2_fail cX2_fail 2 (some .int)]
def wsX2_worth : List Cond := .code yX2_worth cX2_worth 2 (some .int) :: ((wsX2_worth_r1 ++ (wsX2_worth_r2 ++ wsX2_worth_r3)) ++ wsX20)
def wsX2_best_r1 : List Cond := [Cond.fieldLink RX2 32 "KnifeLedgerModel" "thrown" "I", Cond.fieldLink RX2 36 "KnifeLedgerModel" "entries" "I", Cond.fieldLink RX2 25 "KnifeLedgerModel" "struck" "[Z", Cond.methodLink RX2 124 yX2_coinsNow, Cond.instanceMethod yX2_coinsNow, Cond.selects RX2 yX2_coinsNow yX2_coinsNow, Cond.initialized RX2, Cond.code yX2_coinsNow cX2_coinsNow 1 (some .int), Cond.fieldLink RX2 70 "KnifeLedgerModel" "coins" "I", Cond.methodLink RX2 111 yX2_reckon, Cond.instanceMethod yX2_reckon, Cond.selects RX2 yX2_reckon yX2_reckon, Cond.code yX2_reckon cX2_reckon 4 (some .boolean), Cond.fieldLink RX2 80 "KnifeLedgerModel" "plasters" "I", Cond.fieldLink RX2 63 "KnifeLedgerModel" "stage" "I", Cond.fieldLink RX2 60 "KnifeLedgerModel" "joined" "I", Cond.fieldLink RX2 86 "KnifeLedgerModel" "counting" "I", Cond.fieldLink RX2 89 "KnifeLedgerModel" "idle" "I", Cond.fieldLink RX2 92 "KnifeLedgerModel" "firstIdle" "I", Cond.fieldLink RX2 95 "KnifeLedgerModel" "fewest" "I", Cond.methodLink RX2 51 Lib.Math.min.name, Cond.static Lib.Math.min.name, Cond.initialized "java/lang/Math", Cond.code Lib.Math.min.name Lib.Math.min.code 2 (some .int)]
def wsX2_best_r2 : List Cond := [Cond.methodLink RX2 98 yX2_holds, Cond.instanceMethod yX2_holds, Cond.selects RX2 yX2_holds yX2_holds, Cond.code yX2_holds cX2_holds 3 (some .boolean), Cond.fieldLink RX2 19 "KnifeLedgerModel" "firsts" "[I", Cond.fieldLink RX2 16 "KnifeLedgerModel" "kinds" "[I", Cond.fieldLink RX2 22 "KnifeLedgerModel" "seconds" "[I", Cond.methodLink RX2 66 yX2_canToss, Cond.instanceMethod yX2_canToss, Cond.selects RX2 yX2_canToss yX2_canToss, Cond.code yX2_canToss cX2_canToss 2 (some .boolean), Cond.fieldLink RX2 29 "KnifeLedgerModel" "trusts" "[I", Cond.fieldLink RX2 13 "KnifeLedgerModel" "tremble" "[I", Cond.methodLink RX2 101 yX2_carryOut, Cond.instanceMethod yX2_carryOut, Cond.selects RX2 yX2_carryOut yX2_carryOut, Cond.code yX2_carryOut cX2_carryOut 4 none, Cond.methodLink RX2 83 yX2_stick, Cond.instanceMethod yX2_stick, Cond.selects RX2 yX2_stick yX2_stick, Cond.code yX2_stick cX2_stick 3 none, Cond.methodLink RX2 57 Lib.Math.max.name, Cond.static Lib.Math.max.name, Cond.code Lib.Math.max.name Lib.Math.max.code 2 (some .int)]
def wsX2_best_r3 : List Cond := [Cond.methodLink RX2 73 yX2_brings, Cond.instanceMethod yX2_brings, Cond.selects RX2 yX2_brings yX2_brings, Cond.code yX2_brings cX2_brings 2 (some .int), Cond.fieldLink RX2 9 "KnifeLedgerModel" "light" "[I", Cond.methodLink RX2 76 yX2_more, Cond.instanceMethod yX2_more, Cond.selects RX2 yX2_more yX2_more, Cond.code yX2_more cX2_more 3 none, Cond.methodLink RX2 127 yX2_coinsOther, Cond.instanceMethod yX2_coinsOther, Cond.selects RX2 yX2_coinsOther yX2_coinsOther, Cond.code yX2_coinsOther cX2_coinsOther 3 (some .int)]
def wsX2_best : List Cond := .code yX2_best cX2_best 5 (some .int) :: ((wsX2_best_r1 ++ (wsX2_best_r2 ++ wsX2_best_r3)) ++ wsX20)
def wsX2_would_r1 : List Cond := [Cond.fieldLink RX2 32 "KnifeLedgerModel" "thrown" "I", Cond.fieldLink RX2 36 "KnifeLedgerModel" "entries" "I", Cond.methodLink RX2 39 yX2_isIn, Cond.static yX2_isIn, Cond.initialized RX2, Cond.code yX2_isIn cX2_isIn 3 (some .boolean), Cond.methodLink RX2 43 yX2_fail, Cond.instanceMethod yX2_fail, Cond.selects RX2 yX2_fail yX2_fail, Cond.code yX2_fail cX2_fail 2 (some .int), Cond.methodLink RX2 111 yX2_reckon, Cond.instanceMethod yX2_reckon, Cond.selects RX2 yX2_reckon yX2_reckon, Cond.code yX2_reckon cX2_reckon 4 (some .boolean), Cond.fieldLink RX2 70 "KnifeLedgerModel" "coins" "I", Cond.fieldLink RX2 80 "KnifeLedgerModel" "plasters" "I", Cond.fieldLink RX2 63 "KnifeLedgerModel" "stage" "I", Cond.fieldLink RX2 60 "KnifeLedgerModel" "joined" "I", Cond.fieldLink RX2 86 "KnifeLedgerModel" "counting" "I", Cond.fieldLink RX2 89 "KnifeLedgerModel" "idle" "I", Cond.fieldLink RX2 92 "KnifeLedgerModel" "firstIdle" "I", Cond.fieldLink RX2 95 "KnifeLedgerModel" "fewest" "I", Cond.fieldLink RX2 25 "KnifeLedgerModel" "struck" "[Z", Cond.methodLink RX2 51 Lib.Math.min.name]
def wsX2_would_r2 : List Cond := [Cond.static Lib.Math.min.name, Cond.initialized "java/lang/Math", Cond.code Lib.Math.min.name Lib.Math.min.code 2 (some .int), Cond.methodLink RX2 98 yX2_holds, Cond.instanceMethod yX2_holds, Cond.selects RX2 yX2_holds yX2_holds, Cond.code yX2_holds cX2_holds 3 (some .boolean), Cond.fieldLink RX2 19 "KnifeLedgerModel" "firsts" "[I", Cond.fieldLink RX2 16 "KnifeLedgerModel" "kinds" "[I", Cond.fieldLink RX2 22 "KnifeLedgerModel" "seconds" "[I", Cond.methodLink RX2 66 yX2_canToss, Cond.instanceMethod yX2_canToss, Cond.selects RX2 yX2_canToss yX2_canToss, Cond.code yX2_canToss cX2_canToss 2 (some .boolean), Cond.fieldLink RX2 29 "KnifeLedgerModel" "trusts" "[I", Cond.fieldLink RX2 13 "KnifeLedgerModel" "tremble" "[I", Cond.methodLink RX2 101 yX2_carryOut, Cond.instanceMethod yX2_carryOut, Cond.selects RX2 yX2_carryOut yX2_carryOut, Cond.code yX2_carryOut cX2_carryOut 4 none, Cond.methodLink RX2 83 yX2_stick, Cond.instanceMethod yX2_stick, Cond.selects RX2 yX2_stick yX2_stick, Cond.code yX2_stick cX2_stick 3 none]
def wsX2_would_r3 : List Cond := [Cond.methodLink RX2 57 Lib.Math.max.name, Cond.static Lib.Math.max.name, Cond.code Lib.Math.max.name Lib.Math.max.code 2 (some .int), Cond.methodLink RX2 73 yX2_brings, Cond.instanceMethod yX2_brings, Cond.selects RX2 yX2_brings yX2_brings, Cond.code yX2_brings cX2_brings 2 (some .int), Cond.fieldLink RX2 9 "KnifeLedgerModel" "light" "[I", Cond.methodLink RX2 76 yX2_more, Cond.instanceMethod yX2_more, Cond.selects RX2 yX2_more yX2_more, Cond.code yX2_more cX2_more 3 none]
def wsX2_would : List Cond := .code yX2_would cX2_would 3 (some .int) :: ((wsX2_would_r1 ++ (wsX2_would_r2 ++ wsX2_would_r3)) ++ wsX20)
def wsX2_mean_r1 : List Cond := [Cond.fieldLink RX2 32 "KnifeLedgerModel" "thrown" "I", Cond.fieldLink RX2 36 "KnifeLedgerModel" "entries" "I", Cond.fieldLink RX2 60 "KnifeLedgerModel" "joined" "I", Cond.methodLink RX2 111 yX2_reckon, Cond.instanceMethod yX2_reckon, Cond.selects RX2 yX2_reckon yX2_reckon, Cond.initialized RX2, Cond.code yX2_reckon cX2_reckon 4 (some .boolean), Cond.fieldLink RX2 70 "KnifeLedgerModel" "coins" "I", Cond.fieldLink RX2 80 "KnifeLedgerModel" "plasters" "I", Cond.fieldLink RX2 63 "KnifeLedgerModel" "stage" "I", Cond.fieldLink RX2 86 "KnifeLedgerModel" "counting" "I", Cond.fieldLink RX2 89 "KnifeLedgerModel" "idle" "I", Cond.fieldLink RX2 92 "KnifeLedgerModel" "firstIdle" "I", Cond.fieldLink RX2 95 "KnifeLedgerModel" "fewest" "I", Cond.fieldLink RX2 25 "KnifeLedgerModel" "struck" "[Z", Cond.methodLink RX2 51 Lib.Math.min.name, Cond.static Lib.Math.min.name, Cond.initialized "java/lang/Math", Cond.code Lib.Math.min.name Lib.Math.min.code 2 (some .int), Cond.methodLink RX2 98 yX2_holds, Cond.instanceMethod yX2_holds, Cond.selects RX2 yX2_holds yX2_holds, Cond.code yX2_holds cX2_holds 3 (some .boolean)]
def wsX2_mean_r2 : List Cond := [Cond.fieldLink RX2 19 "KnifeLedgerModel" "firsts" "[I", Cond.fieldLink RX2 16 "KnifeLedgerModel" "kinds" "[I", Cond.fieldLink RX2 22 "KnifeLedgerModel" "seconds" "[I", Cond.methodLink RX2 66 yX2_canToss, Cond.instanceMethod yX2_canToss, Cond.selects RX2 yX2_canToss yX2_canToss, Cond.code yX2_canToss cX2_canToss 2 (some .boolean), Cond.fieldLink RX2 29 "KnifeLedgerModel" "trusts" "[I", Cond.fieldLink RX2 13 "KnifeLedgerModel" "tremble" "[I", Cond.methodLink RX2 101 yX2_carryOut, Cond.instanceMethod yX2_carryOut, Cond.selects RX2 yX2_carryOut yX2_carryOut, Cond.code yX2_carryOut cX2_carryOut 4 none, Cond.methodLink RX2 83 yX2_stick, Cond.instanceMethod yX2_stick, Cond.selects RX2 yX2_stick yX2_stick, Cond.code yX2_stick cX2_stick 3 none, Cond.methodLink RX2 57 Lib.Math.max.name, Cond.static Lib.Math.max.name, Cond.code Lib.Math.max.name Lib.Math.max.code 2 (some .int), Cond.methodLink RX2 73 yX2_brings, Cond.instanceMethod yX2_brings, Cond.selects RX2 yX2_brings yX2_brings, Cond.code yX2_brings cX2_brings 2 (some .int)]
def wsX2_mean_r3 : List Cond := [Cond.fieldLink RX2 9 "KnifeLedgerModel" "light" "[I", Cond.methodLink RX2 76 yX2_more, Cond.instanceMethod yX2_more, Cond.selects RX2 yX2_more yX2_more, Cond.code yX2_more cX2_more 3 none, Cond.methodLink RX2 117 yX2_trustAll, Cond.instanceMethod yX2_trustAll, Cond.selects RX2 yX2_trustAll yX2_trustAll, Cond.code yX2_trustAll cX2_trustAll 3 (some .int)]
def wsX2_mean : List Cond := .code yX2_mean cX2_mean 1 (some .double) :: ((wsX2_mean_r1 ++ (wsX2_mean_r2 ++ wsX2_mean_r3)) ++ wsX20)
def wsX2_digest_r1 : List Cond := [Cond.fieldLink RX2 32 "KnifeLedgerModel" "thrown" "I", Cond.constantLong RX2 130 (1229), Cond.constantLong RX2 132 (31), Cond.fieldLink RX2 9 "KnifeLedgerModel" "light" "[I", Cond.fieldLink RX2 13 "KnifeLedgerModel" "tremble" "[I", Cond.fieldLink RX2 36 "KnifeLedgerModel" "entries" "I", Cond.fieldLink RX2 70 "KnifeLedgerModel" "coins" "I", Cond.fieldLink RX2 60 "KnifeLedgerModel" "joined" "I", Cond.fieldLink RX2 29 "KnifeLedgerModel" "trusts" "[I", Cond.methodLink RX2 121 yX2_counted, Cond.instanceMethod yX2_counted, Cond.selects RX2 yX2_counted yX2_counted, Cond.initialized RX2, Cond.code yX2_counted cX2_counted 4 (some .int), Cond.fieldLink RX2 25 "KnifeLedgerModel" "struck" "[Z", Cond.fieldLink RX2 86 "KnifeLedgerModel" "counting" "I", Cond.fieldLink RX2 92 "KnifeLedgerModel" "firstIdle" "I", Cond.fieldLink RX2 95 "KnifeLedgerModel" "fewest" "I", Cond.methodLink RX2 111 yX2_reckon, Cond.instanceMethod yX2_reckon, Cond.selects RX2 yX2_reckon yX2_reckon, Cond.code yX2_reckon cX2_reckon 4 (some .boolean), Cond.fieldLink RX2 80 "KnifeLedgerModel" "plasters" "I", Cond.fieldLink RX2 63 "KnifeLedgerModel" "stage" "I"]
def wsX2_digest_r2 : List Cond := [Cond.fieldLink RX2 89 "KnifeLedgerModel" "idle" "I", Cond.methodLink RX2 51 Lib.Math.min.name, Cond.static Lib.Math.min.name, Cond.initialized "java/lang/Math", Cond.code Lib.Math.min.name Lib.Math.min.code 2 (some .int), Cond.methodLink RX2 98 yX2_holds, Cond.instanceMethod yX2_holds, Cond.selects RX2 yX2_holds yX2_holds, Cond.code yX2_holds cX2_holds 3 (some .boolean), Cond.fieldLink RX2 19 "KnifeLedgerModel" "firsts" "[I", Cond.fieldLink RX2 16 "KnifeLedgerModel" "kinds" "[I", Cond.fieldLink RX2 22 "KnifeLedgerModel" "seconds" "[I", Cond.methodLink RX2 66 yX2_canToss, Cond.instanceMethod yX2_canToss, Cond.selects RX2 yX2_canToss yX2_canToss, Cond.code yX2_canToss cX2_canToss 2 (some .boolean), Cond.methodLink RX2 101 yX2_carryOut, Cond.instanceMethod yX2_carryOut, Cond.selects RX2 yX2_carryOut yX2_carryOut, Cond.code yX2_carryOut cX2_carryOut 4 none, Cond.methodLink RX2 83 yX2_stick, Cond.instanceMethod yX2_stick, Cond.selects RX2 yX2_stick yX2_stick, Cond.code yX2_stick cX2_stick 3 none]
def wsX2_digest_r3 : List Cond := [Cond.methodLink RX2 57 Lib.Math.max.name, Cond.static Lib.Math.max.name, Cond.code Lib.Math.max.name Lib.Math.max.code 2 (some .int), Cond.methodLink RX2 73 yX2_brings, Cond.instanceMethod yX2_brings, Cond.selects RX2 yX2_brings yX2_brings, Cond.code yX2_brings cX2_brings 2 (some .int), Cond.methodLink RX2 76 yX2_more, Cond.instanceMethod yX2_more, Cond.selects RX2 yX2_more yX2_more, Cond.code yX2_more cX2_more 3 none, Cond.methodLink RX2 114 yX2_entryTold, Cond.instanceMethod yX2_entryTold, Cond.selects RX2 yX2_entryTold yX2_entryTold, Cond.code yX2_entryTold cX2_entryTold 3 (some .int)]
def wsX2_digest : List Cond := .code yX2_digest cX2_digest 5 (some .long) :: ((wsX2_digest_r1 ++ (wsX2_digest_r2 ++ wsX2_digest_r3)) ++ wsX20)
def wsJ9_max_7cf53 : List Cond := .code yJ9_max_7cf53 cJ9_max_7cf53 2 (some .int) :: ([])
def wsJ9_min_7cf53 : List Cond := .code yJ9_min_7cf53 cJ9_min_7cf53 2 (some .int) :: ([])
def wsL_set : List Cond := .codeWith yL_set cL_set 6 (some .int) [(0, 12, 15, 13), (0, 12, 19, 15)] :: ([.classLink RL 13 "java/lang/IndexOutOfBoundsException", .classLink RL 15 "java/lang/IllegalArgumentException", .methodLink RL 7 yX1_set, .instanceMethod yX1_set, .selects RX1 yX1_set yX1_set, .initialized RX1, .code yX1_set cX1_set 5 (some .int), .fieldLink RX1 9 "KnifeLedger" "lights" "[I", .fieldLink RX1 13 "KnifeLedger" "trembles" "[I", .methodLink RX1 42 yX1_needIndex, .static yX1_needIndex, .code yX1_needIndex cX1_needIndex 2 none, .classLink RX1 132 "java/lang/IndexOutOfBoundsException", .initialized "java/lang/IndexOutOfBoundsException", .methodLink RX1 46 yX1_needWithin, .static yX1_needWithin, .code yX1_needWithin cX1_needWithin 3 none, .classLink RX1 137 "java/lang/IllegalArgumentException", .initialized "java/lang/IllegalArgumentException"] ++ wsX10 ++ (vx_atS RX1 136 "java/lang/IndexOutOfBoundsException" ["java/lang/RuntimeException", "java/lang/Exception"]).filter goodWord ++ (vx_atS RX1 141 "java/lang/IllegalArgumentException" ["java/lang/RuntimeException", "java/lang/Exception"]).filter goodWord)
def wsL_join : List Cond := .codeWith yL_join cL_join 4 (some .int) [(0, 9, 12, 15), (0, 9, 15, 21)] :: ([.classLink RL 15 "java/lang/IllegalArgumentException", .classLink RL 21 "java/lang/IllegalStateException", .methodLink RL 17 yX1_join, .instanceMethod yX1_join, .selects RX1 yX1_join yX1_join, .initialized RX1, .code yX1_join cX1_join 2 (some .int), .methodLink RX1 46 yX1_needWithin, .static yX1_needWithin, .code yX1_needWithin cX1_needWithin 3 none, .classLink RX1 137 "java/lang/IllegalArgumentException", .initialized "java/lang/IllegalArgumentException", .methodLink RX1 50 yX1_append, .instanceMethod yX1_append, .selects RX1 yX1_append yX1_append, .code yX1_append cX1_append 4 (some .int), .classLink RX1 57 "java/lang/IllegalStateException", .initialized "java/lang/IllegalStateException", .fieldLink RX1 29 "KnifeLedger" "size" "I", .fieldLink RX1 16 "KnifeLedger" "kinds" "[I", .fieldLink RX1 19 "KnifeLedger" "firsts" "[I", .fieldLink RX1 22 "KnifeLedger" "seconds" "[I", .fieldLink RX1 25 "KnifeLedger" "struck" "[Z"] ++ wsX10 ++ (vx_atS RX1 141 "java/lang/IllegalArgumentException" ["java/lang/RuntimeException", "java/lang/Exception"]).filter goodWord ++ (vx_atS RX1 61 "java/lang/IllegalStateException" ["java/lang/RuntimeException", "java/lang/Exception"]).filter goodWord)
def wsL_toss_r1 : List Cond := [Cond.classLink RL 13 "java/lang/IndexOutOfBoundsException", Cond.classLink RL 15 "java/lang/IllegalArgumentException", Cond.classLink RL 21 "java/lang/IllegalStateException", Cond.methodLink RL 23 yX1_toss, Cond.instanceMethod yX1_toss, Cond.selects RX1 yX1_toss yX1_toss, Cond.initialized RX1, Cond.code yX1_toss cX1_toss 3 (some .int), Cond.methodLink RX1 42 yX1_needIndex, Cond.static yX1_needIndex, Cond.code yX1_needIndex cX1_needIndex 2 none, Cond.classLink RX1 132 "java/lang/IndexOutOfBoundsException", Cond.initialized "java/lang/IndexOutOfBoundsException", Cond.methodLink RX1 46 yX1_needWithin, Cond.static yX1_needWithin, Cond.code yX1_needWithin cX1_needWithin 3 none, Cond.classLink RX1 137 "java/lang/IllegalArgumentException", Cond.initialized "java/lang/IllegalArgumentException", Cond.methodLink RX1 50 yX1_append, Cond.instanceMethod yX1_append, Cond.selects RX1 yX1_append yX1_append, Cond.code yX1_append cX1_append 4 (some .int), Cond.classLink RX1 57 "java/lang/IllegalStateException", Cond.initialized "java/lang/IllegalStateException"]
def wsL_toss_r2 : List Cond := [Cond.fieldLink RX1 29 "KnifeLedger" "size" "I", Cond.fieldLink RX1 16 "KnifeLedger" "kinds" "[I", Cond.fieldLink RX1 19 "KnifeLedger" "firsts" "[I", Cond.fieldLink RX1 22 "KnifeLedger" "seconds" "[I", Cond.fieldLink RX1 25 "KnifeLedger" "struck" "[Z"]
def wsL_toss : List Cond := .codeWith yL_toss cL_toss 5 (some .int) [(0, 10, 13, 13), (0, 10, 17, 15), (0, 10, 21, 21)] :: ((wsL_toss_r1 ++ wsL_toss_r2) ++ wsX10 ++ (vx_atS RX1 136 "java/lang/IndexOutOfBoundsException" ["java/lang/RuntimeException", "java/lang/Exception"]).filter goodWord ++ (vx_atS RX1 141 "java/lang/IllegalArgumentException" ["java/lang/RuntimeException", "java/lang/Exception"]).filter goodWord ++ (vx_atS RX1 61 "java/lang/IllegalStateException" ["java/lang/RuntimeException", "java/lang/Exception"]).filter goodWord)
def wsL_rest : List Cond := .codeWith yL_rest cL_rest 4 (some .int) [(0, 9, 12, 13), (0, 9, 15, 21)] :: ([.classLink RL 13 "java/lang/IndexOutOfBoundsException", .classLink RL 21 "java/lang/IllegalStateException", .methodLink RL 27 yX1_rest, .instanceMethod yX1_rest, .selects RX1 yX1_rest yX1_rest, .initialized RX1, .code yX1_rest cX1_rest 2 (some .int), .methodLink RX1 42 yX1_needIndex, .static yX1_needIndex, .code yX1_needIndex cX1_needIndex 2 none, .classLink RX1 132 "java/lang/IndexOutOfBoundsException", .initialized "java/lang/IndexOutOfBoundsException", .methodLink RX1 50 yX1_append, .instanceMethod yX1_append, .selects RX1 yX1_append yX1_append, .code yX1_append cX1_append 4 (some .int), .classLink RX1 57 "java/lang/IllegalStateException", .initialized "java/lang/IllegalStateException", .fieldLink RX1 29 "KnifeLedger" "size" "I", .fieldLink RX1 16 "KnifeLedger" "kinds" "[I", .fieldLink RX1 19 "KnifeLedger" "firsts" "[I", .fieldLink RX1 22 "KnifeLedger" "seconds" "[I", .fieldLink RX1 25 "KnifeLedger" "struck" "[Z"] ++ wsX10 ++ (vx_atS RX1 136 "java/lang/IndexOutOfBoundsException" ["java/lang/RuntimeException", "java/lang/Exception"]).filter goodWord ++ (vx_atS RX1 61 "java/lang/IllegalStateException" ["java/lang/RuntimeException", "java/lang/Exception"]).filter goodWord)
def wsL_go : List Cond := .codeWith yL_go cL_go 4 (some .int) [(0, 9, 12, 13), (0, 9, 15, 21)] :: ([.classLink RL 13 "java/lang/IndexOutOfBoundsException", .classLink RL 21 "java/lang/IllegalStateException", .methodLink RL 30 yX1_go, .instanceMethod yX1_go, .selects RX1 yX1_go yX1_go, .initialized RX1, .code yX1_go cX1_go 2 (some .int), .methodLink RX1 42 yX1_needIndex, .static yX1_needIndex, .code yX1_needIndex cX1_needIndex 2 none, .classLink RX1 132 "java/lang/IndexOutOfBoundsException", .initialized "java/lang/IndexOutOfBoundsException", .methodLink RX1 50 yX1_append, .instanceMethod yX1_append, .selects RX1 yX1_append yX1_append, .code yX1_append cX1_append 4 (some .int), .classLink RX1 57 "java/lang/IllegalStateException", .initialized "java/lang/IllegalStateException", .fieldLink RX1 29 "KnifeLedger" "size" "I", .fieldLink RX1 16 "KnifeLedger" "kinds" "[I", .fieldLink RX1 19 "KnifeLedger" "firsts" "[I", .fieldLink RX1 22 "KnifeLedger" "seconds" "[I", .fieldLink RX1 25 "KnifeLedger" "struck" "[Z"] ++ wsX10 ++ (vx_atS RX1 136 "java/lang/IndexOutOfBoundsException" ["java/lang/RuntimeException", "java/lang/Exception"]).filter goodWord ++ (vx_atS RX1 61 "java/lang/IllegalStateException" ["java/lang/RuntimeException", "java/lang/Exception"]).filter goodWord)
def wsL_pay_r1 : List Cond := [Cond.classLink RL 13 "java/lang/IndexOutOfBoundsException", Cond.classLink RL 15 "java/lang/IllegalArgumentException", Cond.classLink RL 21 "java/lang/IllegalStateException", Cond.methodLink RL 33 yX1_pay, Cond.instanceMethod yX1_pay, Cond.selects RX1 yX1_pay yX1_pay, Cond.initialized RX1, Cond.code yX1_pay cX1_pay 3 (some .int), Cond.methodLink RX1 42 yX1_needIndex, Cond.static yX1_needIndex, Cond.code yX1_needIndex cX1_needIndex 2 none, Cond.classLink RX1 132 "java/lang/IndexOutOfBoundsException", Cond.initialized "java/lang/IndexOutOfBoundsException", Cond.methodLink RX1 46 yX1_needWithin, Cond.static yX1_needWithin, Cond.code yX1_needWithin cX1_needWithin 3 none, Cond.classLink RX1 137 "java/lang/IllegalArgumentException", Cond.initialized "java/lang/IllegalArgumentException", Cond.methodLink RX1 50 yX1_append, Cond.instanceMethod yX1_append, Cond.selects RX1 yX1_append yX1_append, Cond.code yX1_append cX1_append 4 (some .int), Cond.classLink RX1 57 "java/lang/IllegalStateException", Cond.initialized "java/lang/IllegalStateException"]
def wsL_pay_r2 : List Cond := [Cond.fieldLink RX1 29 "KnifeLedger" "size" "I", Cond.fieldLink RX1 16 "KnifeLedger" "kinds" "[I", Cond.fieldLink RX1 19 "KnifeLedger" "firsts" "[I", Cond.fieldLink RX1 22 "KnifeLedger" "seconds" "[I", Cond.fieldLink RX1 25 "KnifeLedger" "struck" "[Z"]
def wsL_pay : List Cond := .codeWith yL_pay cL_pay 5 (some .int) [(0, 10, 13, 13), (0, 10, 17, 15), (0, 10, 21, 21)] :: ((wsL_pay_r1 ++ wsL_pay_r2) ++ wsX10 ++ (vx_atS RX1 136 "java/lang/IndexOutOfBoundsException" ["java/lang/RuntimeException", "java/lang/Exception"]).filter goodWord ++ (vx_atS RX1 141 "java/lang/IllegalArgumentException" ["java/lang/RuntimeException", "java/lang/Exception"]).filter goodWord ++ (vx_atS RX1 61 "java/lang/IllegalStateException" ["java/lang/RuntimeException", "java/lang/Exception"]).filter goodWord)
def wsL_buy : List Cond := .codeWith yL_buy cL_buy 4 (some .int) [(0, 9, 12, 15), (0, 9, 15, 21)] :: ([.classLink RL 15 "java/lang/IllegalArgumentException", .classLink RL 21 "java/lang/IllegalStateException", .methodLink RL 36 yX1_buy, .instanceMethod yX1_buy, .selects RX1 yX1_buy yX1_buy, .initialized RX1, .code yX1_buy cX1_buy 2 (some .int), .methodLink RX1 46 yX1_needWithin, .static yX1_needWithin, .code yX1_needWithin cX1_needWithin 3 none, .classLink RX1 137 "java/lang/IllegalArgumentException", .initialized "java/lang/IllegalArgumentException", .methodLink RX1 50 yX1_append, .instanceMethod yX1_append, .selects RX1 yX1_append yX1_append, .code yX1_append cX1_append 4 (some .int), .classLink RX1 57 "java/lang/IllegalStateException", .initialized "java/lang/IllegalStateException", .fieldLink RX1 29 "KnifeLedger" "size" "I", .fieldLink RX1 16 "KnifeLedger" "kinds" "[I", .fieldLink RX1 19 "KnifeLedger" "firsts" "[I", .fieldLink RX1 22 "KnifeLedger" "seconds" "[I", .fieldLink RX1 25 "KnifeLedger" "struck" "[Z"] ++ wsX10 ++ (vx_atS RX1 141 "java/lang/IllegalArgumentException" ["java/lang/RuntimeException", "java/lang/Exception"]).filter goodWord ++ (vx_atS RX1 61 "java/lang/IllegalStateException" ["java/lang/RuntimeException", "java/lang/Exception"]).filter goodWord)
def wsL_strike : List Cond := .codeWith yL_strike cL_strike 4 (some .int) [(0, 16, 19, 13)] :: ([.classLink RL 13 "java/lang/IndexOutOfBoundsException", .methodLink RL 39 yX1_strike, .instanceMethod yX1_strike, .selects RX1 yX1_strike yX1_strike, .initialized RX1, .code yX1_strike cX1_strike 2 (some .boolean), .fieldLink RX1 29 "KnifeLedger" "size" "I", .fieldLink RX1 25 "KnifeLedger" "struck" "[Z", .methodLink RX1 42 yX1_needIndex, .static yX1_needIndex, .code yX1_needIndex cX1_needIndex 2 none, .classLink RX1 132 "java/lang/IndexOutOfBoundsException", .initialized "java/lang/IndexOutOfBoundsException"] ++ wsX10 ++ (vx_atS RX1 136 "java/lang/IndexOutOfBoundsException" ["java/lang/RuntimeException", "java/lang/Exception"]).filter goodWord)
def wsL_shift : List Cond := .codeWith yL_shift cL_shift 5 (some .int) [(0, 10, 13, 13)] :: ([.classLink RL 13 "java/lang/IndexOutOfBoundsException", .methodLink RL 43 yX1_shift, .instanceMethod yX1_shift, .selects RX1 yX1_shift yX1_shift, .initialized RX1, .code yX1_shift cX1_shift 5 (some .int), .fieldLink RX1 29 "KnifeLedger" "size" "I", .fieldLink RX1 16 "KnifeLedger" "kinds" "[I", .methodLink RX1 42 yX1_needIndex, .static yX1_needIndex, .code yX1_needIndex cX1_needIndex 2 none, .classLink RX1 132 "java/lang/IndexOutOfBoundsException", .initialized "java/lang/IndexOutOfBoundsException", .methodLink RX1 54 yX1_swap, .instanceMethod yX1_swap, .selects RX1 yX1_swap yX1_swap, .code yX1_swap cX1_swap 4 none, .fieldLink RX1 19 "KnifeLedger" "firsts" "[I", .fieldLink RX1 22 "KnifeLedger" "seconds" "[I", .fieldLink RX1 25 "KnifeLedger" "struck" "[Z", .methodLink RX1 144 yX1_swapNumbers, .static yX1_swapNumbers, .code yX1_swapNumbers cX1_swapNumbers 4 none] ++ wsX10 ++ (vx_atS RX1 136 "java/lang/IndexOutOfBoundsException" ["java/lang/RuntimeException", "java/lang/Exception"]).filter goodWord)
def wsL_tear : List Cond := .codeWith yL_tear cL_tear 3 (some .int) [(0, 8, 11, 21)] :: ([.classLink RL 21 "java/lang/IllegalStateException", .methodLink RL 46 yX1_tear, .instanceMethod yX1_tear, .selects RX1 yX1_tear yX1_tear, .initialized RX1, .code yX1_tear cX1_tear 1 (some .int), .classLink RX1 57 "java/lang/IllegalStateException", .initialized "java/lang/IllegalStateException", .fieldLink RX1 29 "KnifeLedger" "size" "I", .fieldLink RX1 16 "KnifeLedger" "kinds" "[I"] ++ wsX10 ++ (vx_atS RX1 61 "java/lang/IllegalStateException" ["java/lang/RuntimeException", "java/lang/Exception"]).filter goodWord)
def wsL_entry_r1 : List Cond := [Cond.classLink RL 13 "java/lang/IndexOutOfBoundsException", Cond.methodLink RL 50 yX1_entry, Cond.instanceMethod yX1_entry, Cond.selects RX1 yX1_entry yX1_entry, Cond.initialized RX1, Cond.code yX1_entry cX1_entry 3 (some .int), Cond.fieldLink RX1 29 "KnifeLedger" "size" "I", Cond.fieldLink RX1 16 "KnifeLedger" "kinds" "[I", Cond.fieldLink RX1 19 "KnifeLedger" "firsts" "[I", Cond.fieldLink RX1 22 "KnifeLedger" "seconds" "[I", Cond.fieldLink RX1 25 "KnifeLedger" "struck" "[Z", Cond.methodLink RX1 42 yX1_needIndex, Cond.static yX1_needIndex, Cond.code yX1_needIndex cX1_needIndex 2 none, Cond.classLink RX1 132 "java/lang/IndexOutOfBoundsException", Cond.initialized "java/lang/IndexOutOfBoundsException", Cond.methodLink RX1 64 yX1_counts, Cond.instanceMethod yX1_counts, Cond.selects RX1 yX1_counts yX1_counts, Cond.code yX1_counts cX1_counts 2 (some .boolean), Cond.fieldLink RX1 38 "KnifeLedger" "reckoning" "LKnifeLedger$Reckoning;", Cond.methodLink RX1 68 yX1_reckon, Cond.instanceMethod yX1_reckon, Cond.selects RX1 yX1_reckon yX1_reckon]
def wsL_entry_r2 : List Cond := [Cond.code yX1_reckon cX1_reckon 5 none, Cond.instanceMethod yX0_begin, Cond.initialized RX0, Cond.selects RX0 yX0_begin yX0_begin, Cond.code yX0_begin cX0_begin 1 none, Cond.fieldLink RX0 21 "KnifeLedger$Reckoning" "coins" "I", Cond.fieldLink RX0 25 "KnifeLedger$Reckoning" "plasters" "I", Cond.fieldLink RX0 28 "KnifeLedger$Reckoning" "stage" "I", Cond.fieldLink RX0 31 "KnifeLedger$Reckoning" "joined" "I", Cond.fieldLink RX0 34 "KnifeLedger$Reckoning" "counting" "I", Cond.fieldLink RX0 37 "KnifeLedger$Reckoning" "idle" "I", Cond.fieldLink RX0 40 "KnifeLedger$Reckoning" "firstIdle" "I", Cond.fieldLink RX0 43 "KnifeLedger$Reckoning" "fewestCoins" "I", Cond.instanceMethod yX0_reckonEntry, Cond.selects RX0 yX0_reckonEntry yX0_reckonEntry, Cond.code yX0_reckonEntry cX0_reckonEntry 5 none, Cond.methodLink RX0 50 Lib.Math.min.name, Cond.static Lib.Math.min.name, Cond.initialized "java/lang/Math", Cond.code Lib.Math.min.name Lib.Math.min.code 2 (some .int), Cond.methodLink RX0 46 yX0_happens, Cond.instanceMethod yX0_happens, Cond.selects RX0 yX0_happens yX0_happens, Cond.code yX0_happens cX0_happens 4 (some .boolean)]
def wsL_entry_r3 : List Cond := [Cond.methodLink RX0 56 yX0_happensJoin, Cond.instanceMethod yX0_happensJoin, Cond.selects RX0 yX0_happensJoin yX0_happensJoin, Cond.code yX0_happensJoin cX0_happensJoin 2 (some .boolean), Cond.fieldLink RX0 9 "KnifeLedger$Reckoning" "trusts" "[I", Cond.methodLink RX0 60 yX0_happensToss, Cond.instanceMethod yX0_happensToss, Cond.selects RX0 yX0_happensToss yX0_happensToss, Cond.code yX0_happensToss cX0_happensToss 3 (some .boolean), Cond.methodLink RX0 73 yX0_standsFor, Cond.instanceMethod yX0_standsFor, Cond.selects RX0 yX0_standsFor yX0_standsFor, Cond.code yX0_standsFor cX0_standsFor 2 (some .boolean), Cond.fieldLink RX0 18 "KnifeLedger$Reckoning" "trembles" "[I", Cond.methodLink RX0 88 yX0_hasJoined, Cond.instanceMethod yX0_hasJoined, Cond.selects RX0 yX0_hasJoined yX0_hasJoined, Cond.code yX0_hasJoined cX0_hasJoined 2 (some .boolean), Cond.methodLink RX0 76 yX0_takings, Cond.instanceMethod yX0_takings, Cond.selects RX0 yX0_takings yX0_takings, Cond.code yX0_takings cX0_takings 2 (some .int), Cond.fieldLink RX0 15 "KnifeLedger$Reckoning" "lights" "[I", Cond.methodLink RX0 80 yX0_scratch]
def wsL_entry_r4 : List Cond := [Cond.instanceMethod yX0_scratch, Cond.selects RX0 yX0_scratch yX0_scratch, Cond.code yX0_scratch cX0_scratch 2 none, Cond.methodLink RX0 84 yX0_addTrust, Cond.instanceMethod yX0_addTrust, Cond.selects RX0 yX0_addTrust yX0_addTrust, Cond.code yX0_addTrust cX0_addTrust 3 none, Cond.methodLink RX0 91 Lib.Math.max.name, Cond.static Lib.Math.max.name, Cond.code Lib.Math.max.name Lib.Math.max.code 2 (some .int), Cond.methodLink RX0 64 yX0_happensRest, Cond.instanceMethod yX0_happensRest, Cond.selects RX0 yX0_happensRest yX0_happensRest, Cond.code yX0_happensRest cX0_happensRest 2 (some .boolean), Cond.methodLink RX0 67 yX0_happensPay, Cond.instanceMethod yX0_happensPay, Cond.selects RX0 yX0_happensPay yX0_happensPay, Cond.code yX0_happensPay cX0_happensPay 3 (some .boolean), Cond.methodLink RX0 70 yX0_happensBuy, Cond.instanceMethod yX0_happensBuy, Cond.selects RX0 yX0_happensBuy yX0_happensBuy, Cond.code yX0_happensBuy cX0_happensBuy 3 (some .boolean)]
def wsL_entry : List Cond := .codeWith yL_entry cL_entry 5 (some .int) [(0, 10, 13, 13)] :: ((wsL_entry_r1 ++ (wsL_entry_r2 ++ (wsL_entry_r3 ++ wsL_entry_r4))) ++ wsX10 ++ wsX00 ++ (vx_atS RX1 136 "java/lang/IndexOutOfBoundsException" ["java/lang/RuntimeException", "java/lang/Exception"]).filter goodWord)
def wsL_behind_r1 : List Cond := [Cond.classLink RL 15 "java/lang/IllegalArgumentException", Cond.classLink RL 13 "java/lang/IndexOutOfBoundsException", Cond.methodLink RL 53 yX1_behind, Cond.instanceMethod yX1_behind, Cond.selects RX1 yX1_behind yX1_behind, Cond.initialized RX1, Cond.code yX1_behind cX1_behind 3 (some .int), Cond.fieldLink RX1 29 "KnifeLedger" "size" "I", Cond.fieldLink RX1 38 "KnifeLedger" "reckoning" "LKnifeLedger$Reckoning;", Cond.methodLink RX1 46 yX1_needWithin, Cond.static yX1_needWithin, Cond.code yX1_needWithin cX1_needWithin 3 none, Cond.classLink RX1 137 "java/lang/IllegalArgumentException", Cond.initialized "java/lang/IllegalArgumentException", Cond.methodLink RX1 42 yX1_needIndex, Cond.static yX1_needIndex, Cond.code yX1_needIndex cX1_needIndex 2 none, Cond.classLink RX1 132 "java/lang/IndexOutOfBoundsException", Cond.initialized "java/lang/IndexOutOfBoundsException", Cond.methodLink RX1 68 yX1_reckon, Cond.instanceMethod yX1_reckon, Cond.selects RX1 yX1_reckon yX1_reckon, Cond.code yX1_reckon cX1_reckon 5 none, Cond.fieldLink RX1 25 "KnifeLedger" "struck" "[Z"]
def wsL_behind_r2 : List Cond := [Cond.fieldLink RX1 16 "KnifeLedger" "kinds" "[I", Cond.fieldLink RX1 19 "KnifeLedger" "firsts" "[I", Cond.fieldLink RX1 22 "KnifeLedger" "seconds" "[I", Cond.instanceMethod yX0_begin, Cond.initialized RX0, Cond.selects RX0 yX0_begin yX0_begin, Cond.code yX0_begin cX0_begin 1 none, Cond.fieldLink RX0 21 "KnifeLedger$Reckoning" "coins" "I", Cond.fieldLink RX0 25 "KnifeLedger$Reckoning" "plasters" "I", Cond.fieldLink RX0 28 "KnifeLedger$Reckoning" "stage" "I", Cond.fieldLink RX0 31 "KnifeLedger$Reckoning" "joined" "I", Cond.fieldLink RX0 34 "KnifeLedger$Reckoning" "counting" "I", Cond.fieldLink RX0 37 "KnifeLedger$Reckoning" "idle" "I", Cond.fieldLink RX0 40 "KnifeLedger$Reckoning" "firstIdle" "I", Cond.fieldLink RX0 43 "KnifeLedger$Reckoning" "fewestCoins" "I", Cond.instanceMethod yX0_reckonEntry, Cond.selects RX0 yX0_reckonEntry yX0_reckonEntry, Cond.code yX0_reckonEntry cX0_reckonEntry 5 none, Cond.methodLink RX0 50 Lib.Math.min.name, Cond.static Lib.Math.min.name, Cond.initialized "java/lang/Math", Cond.code Lib.Math.min.name Lib.Math.min.code 2 (some .int), Cond.methodLink RX0 46 yX0_happens, Cond.instanceMethod yX0_happens]
def wsL_behind_r3 : List Cond := [Cond.selects RX0 yX0_happens yX0_happens, Cond.code yX0_happens cX0_happens 4 (some .boolean), Cond.methodLink RX0 56 yX0_happensJoin, Cond.instanceMethod yX0_happensJoin, Cond.selects RX0 yX0_happensJoin yX0_happensJoin, Cond.code yX0_happensJoin cX0_happensJoin 2 (some .boolean), Cond.fieldLink RX0 9 "KnifeLedger$Reckoning" "trusts" "[I", Cond.methodLink RX0 60 yX0_happensToss, Cond.instanceMethod yX0_happensToss, Cond.selects RX0 yX0_happensToss yX0_happensToss, Cond.code yX0_happensToss cX0_happensToss 3 (some .boolean), Cond.methodLink RX0 73 yX0_standsFor, Cond.instanceMethod yX0_standsFor, Cond.selects RX0 yX0_standsFor yX0_standsFor, Cond.code yX0_standsFor cX0_standsFor 2 (some .boolean), Cond.fieldLink RX0 18 "KnifeLedger$Reckoning" "trembles" "[I", Cond.methodLink RX0 88 yX0_hasJoined, Cond.instanceMethod yX0_hasJoined, Cond.selects RX0 yX0_hasJoined yX0_hasJoined, Cond.code yX0_hasJoined cX0_hasJoined 2 (some .boolean), Cond.methodLink RX0 76 yX0_takings, Cond.instanceMethod yX0_takings, Cond.selects RX0 yX0_takings yX0_takings, Cond.code yX0_takings cX0_takings 2 (some .int)]
def wsL_behind_r4 : List Cond := [Cond.fieldLink RX0 15 "KnifeLedger$Reckoning" "lights" "[I", Cond.methodLink RX0 80 yX0_scratch, Cond.instanceMethod yX0_scratch, Cond.selects RX0 yX0_scratch yX0_scratch, Cond.code yX0_scratch cX0_scratch 2 none, Cond.methodLink RX0 84 yX0_addTrust, Cond.instanceMethod yX0_addTrust, Cond.selects RX0 yX0_addTrust yX0_addTrust, Cond.code yX0_addTrust cX0_addTrust 3 none, Cond.methodLink RX0 91 Lib.Math.max.name, Cond.static Lib.Math.max.name, Cond.code Lib.Math.max.name Lib.Math.max.code 2 (some .int), Cond.methodLink RX0 64 yX0_happensRest, Cond.instanceMethod yX0_happensRest, Cond.selects RX0 yX0_happensRest yX0_happensRest, Cond.code yX0_happensRest cX0_happensRest 2 (some .boolean), Cond.methodLink RX0 67 yX0_happensPay, Cond.instanceMethod yX0_happensPay, Cond.selects RX0 yX0_happensPay yX0_happensPay, Cond.code yX0_happensPay cX0_happensPay 3 (some .boolean), Cond.methodLink RX0 70 yX0_happensBuy, Cond.instanceMethod yX0_happensBuy, Cond.selects RX0 yX0_happensBuy yX0_happensBuy, Cond.code yX0_happensBuy cX0_happensBuy 3 (some .boolean)]
def wsL_behind_r5 : List Cond := [Cond.instanceMethod yX0_trustOfAll, Cond.selects RX0 yX0_trustOfAll yX0_trustOfAll, Cond.code yX0_trustOfAll cX0_trustOfAll 3 (some .int)]
def wsL_behind : List Cond := .codeWith yL_behind cL_behind 5 (some .int) [(0, 10, 13, 15), (0, 10, 17, 13)] :: ((wsL_behind_r1 ++ (wsL_behind_r2 ++ (wsL_behind_r3 ++ (wsL_behind_r4 ++ wsL_behind_r5)))) ++ wsX10 ++ wsX00 ++ (vx_atS RX1 141 "java/lang/IllegalArgumentException" ["java/lang/RuntimeException", "java/lang/Exception"]).filter goodWord ++ (vx_atS RX1 136 "java/lang/IndexOutOfBoundsException" ["java/lang/RuntimeException", "java/lang/Exception"]).filter goodWord)
def wsL_trust_r1 : List Cond := [Cond.classLink RL 13 "java/lang/IndexOutOfBoundsException", Cond.classLink RL 15 "java/lang/IllegalArgumentException", Cond.methodLink RL 56 yX1_trust, Cond.instanceMethod yX1_trust, Cond.selects RX1 yX1_trust yX1_trust, Cond.initialized RX1, Cond.code yX1_trust cX1_trust 3 (some .int), Cond.fieldLink RX1 29 "KnifeLedger" "size" "I", Cond.fieldLink RX1 38 "KnifeLedger" "reckoning" "LKnifeLedger$Reckoning;", Cond.methodLink RX1 42 yX1_needIndex, Cond.static yX1_needIndex, Cond.code yX1_needIndex cX1_needIndex 2 none, Cond.classLink RX1 132 "java/lang/IndexOutOfBoundsException", Cond.initialized "java/lang/IndexOutOfBoundsException", Cond.methodLink RX1 46 yX1_needWithin, Cond.static yX1_needWithin, Cond.code yX1_needWithin cX1_needWithin 3 none, Cond.classLink RX1 137 "java/lang/IllegalArgumentException", Cond.initialized "java/lang/IllegalArgumentException", Cond.methodLink RX1 68 yX1_reckon, Cond.instanceMethod yX1_reckon, Cond.selects RX1 yX1_reckon yX1_reckon, Cond.code yX1_reckon cX1_reckon 5 none, Cond.fieldLink RX1 25 "KnifeLedger" "struck" "[Z"]
def wsL_trust_r2 : List Cond := [Cond.fieldLink RX1 16 "KnifeLedger" "kinds" "[I", Cond.fieldLink RX1 19 "KnifeLedger" "firsts" "[I", Cond.fieldLink RX1 22 "KnifeLedger" "seconds" "[I", Cond.instanceMethod yX0_begin, Cond.initialized RX0, Cond.selects RX0 yX0_begin yX0_begin, Cond.code yX0_begin cX0_begin 1 none, Cond.fieldLink RX0 21 "KnifeLedger$Reckoning" "coins" "I", Cond.fieldLink RX0 25 "KnifeLedger$Reckoning" "plasters" "I", Cond.fieldLink RX0 28 "KnifeLedger$Reckoning" "stage" "I", Cond.fieldLink RX0 31 "KnifeLedger$Reckoning" "joined" "I", Cond.fieldLink RX0 34 "KnifeLedger$Reckoning" "counting" "I", Cond.fieldLink RX0 37 "KnifeLedger$Reckoning" "idle" "I", Cond.fieldLink RX0 40 "KnifeLedger$Reckoning" "firstIdle" "I", Cond.fieldLink RX0 43 "KnifeLedger$Reckoning" "fewestCoins" "I", Cond.instanceMethod yX0_reckonEntry, Cond.selects RX0 yX0_reckonEntry yX0_reckonEntry, Cond.code yX0_reckonEntry cX0_reckonEntry 5 none, Cond.methodLink RX0 50 Lib.Math.min.name, Cond.static Lib.Math.min.name, Cond.initialized "java/lang/Math", Cond.code Lib.Math.min.name Lib.Math.min.code 2 (some .int), Cond.methodLink RX0 46 yX0_happens, Cond.instanceMethod yX0_happens]
def wsL_trust_r3 : List Cond := [Cond.selects RX0 yX0_happens yX0_happens, Cond.code yX0_happens cX0_happens 4 (some .boolean), Cond.methodLink RX0 56 yX0_happensJoin, Cond.instanceMethod yX0_happensJoin, Cond.selects RX0 yX0_happensJoin yX0_happensJoin, Cond.code yX0_happensJoin cX0_happensJoin 2 (some .boolean), Cond.fieldLink RX0 9 "KnifeLedger$Reckoning" "trusts" "[I", Cond.methodLink RX0 60 yX0_happensToss, Cond.instanceMethod yX0_happensToss, Cond.selects RX0 yX0_happensToss yX0_happensToss, Cond.code yX0_happensToss cX0_happensToss 3 (some .boolean), Cond.methodLink RX0 73 yX0_standsFor, Cond.instanceMethod yX0_standsFor, Cond.selects RX0 yX0_standsFor yX0_standsFor, Cond.code yX0_standsFor cX0_standsFor 2 (some .boolean), Cond.fieldLink RX0 18 "KnifeLedger$Reckoning" "trembles" "[I", Cond.methodLink RX0 88 yX0_hasJoined, Cond.instanceMethod yX0_hasJoined, Cond.selects RX0 yX0_hasJoined yX0_hasJoined, Cond.code yX0_hasJoined cX0_hasJoined 2 (some .boolean), Cond.methodLink RX0 76 yX0_takings, Cond.instanceMethod yX0_takings, Cond.selects RX0 yX0_takings yX0_takings, Cond.code yX0_takings cX0_takings 2 (some .int)]
def wsL_trust_r4 : List Cond := [Cond.fieldLink RX0 15 "KnifeLedger$Reckoning" "lights" "[I", Cond.methodLink RX0 80 yX0_scratch, Cond.instanceMethod yX0_scratch, Cond.selects RX0 yX0_scratch yX0_scratch, Cond.code yX0_scratch cX0_scratch 2 none, Cond.methodLink RX0 84 yX0_addTrust, Cond.instanceMethod yX0_addTrust, Cond.selects RX0 yX0_addTrust yX0_addTrust, Cond.code yX0_addTrust cX0_addTrust 3 none, Cond.methodLink RX0 91 Lib.Math.max.name, Cond.static Lib.Math.max.name, Cond.code Lib.Math.max.name Lib.Math.max.code 2 (some .int), Cond.methodLink RX0 64 yX0_happensRest, Cond.instanceMethod yX0_happensRest, Cond.selects RX0 yX0_happensRest yX0_happensRest, Cond.code yX0_happensRest cX0_happensRest 2 (some .boolean), Cond.methodLink RX0 67 yX0_happensPay, Cond.instanceMethod yX0_happensPay, Cond.selects RX0 yX0_happensPay yX0_happensPay, Cond.code yX0_happensPay cX0_happensPay 3 (some .boolean), Cond.methodLink RX0 70 yX0_happensBuy, Cond.instanceMethod yX0_happensBuy, Cond.selects RX0 yX0_happensBuy yX0_happensBuy, Cond.code yX0_happensBuy cX0_happensBuy 3 (some .boolean)]
def wsL_trust : List Cond := .codeWith yL_trust cL_trust 5 (some .int) [(0, 10, 13, 13), (0, 10, 17, 15)] :: ((wsL_trust_r1 ++ (wsL_trust_r2 ++ (wsL_trust_r3 ++ wsL_trust_r4))) ++ wsX10 ++ wsX00 ++ (vx_atS RX1 136 "java/lang/IndexOutOfBoundsException" ["java/lang/RuntimeException", "java/lang/Exception"]).filter goodWord ++ (vx_atS RX1 141 "java/lang/IllegalArgumentException" ["java/lang/RuntimeException", "java/lang/Exception"]).filter goodWord)
def wsL_count_r1 : List Cond := [Cond.classLink RL 13 "java/lang/IndexOutOfBoundsException", Cond.methodLink RL 59 yX1_count, Cond.instanceMethod yX1_count, Cond.selects RX1 yX1_count yX1_count, Cond.initialized RX1, Cond.code yX1_count cX1_count 2 (some .int), Cond.fieldLink RX1 29 "KnifeLedger" "size" "I", Cond.fieldLink RX1 38 "KnifeLedger" "reckoning" "LKnifeLedger$Reckoning;", Cond.methodLink RX1 42 yX1_needIndex, Cond.static yX1_needIndex, Cond.code yX1_needIndex cX1_needIndex 2 none, Cond.classLink RX1 132 "java/lang/IndexOutOfBoundsException", Cond.initialized "java/lang/IndexOutOfBoundsException", Cond.methodLink RX1 68 yX1_reckon, Cond.instanceMethod yX1_reckon, Cond.selects RX1 yX1_reckon yX1_reckon, Cond.code yX1_reckon cX1_reckon 5 none, Cond.fieldLink RX1 25 "KnifeLedger" "struck" "[Z", Cond.fieldLink RX1 16 "KnifeLedger" "kinds" "[I", Cond.fieldLink RX1 19 "KnifeLedger" "firsts" "[I", Cond.fieldLink RX1 22 "KnifeLedger" "seconds" "[I", Cond.instanceMethod yX0_begin, Cond.initialized RX0, Cond.selects RX0 yX0_begin yX0_begin]
def wsL_count_r2 : List Cond := [Cond.code yX0_begin cX0_begin 1 none, Cond.fieldLink RX0 21 "KnifeLedger$Reckoning" "coins" "I", Cond.fieldLink RX0 25 "KnifeLedger$Reckoning" "plasters" "I", Cond.fieldLink RX0 28 "KnifeLedger$Reckoning" "stage" "I", Cond.fieldLink RX0 31 "KnifeLedger$Reckoning" "joined" "I", Cond.fieldLink RX0 34 "KnifeLedger$Reckoning" "counting" "I", Cond.fieldLink RX0 37 "KnifeLedger$Reckoning" "idle" "I", Cond.fieldLink RX0 40 "KnifeLedger$Reckoning" "firstIdle" "I", Cond.fieldLink RX0 43 "KnifeLedger$Reckoning" "fewestCoins" "I", Cond.instanceMethod yX0_reckonEntry, Cond.selects RX0 yX0_reckonEntry yX0_reckonEntry, Cond.code yX0_reckonEntry cX0_reckonEntry 5 none, Cond.methodLink RX0 50 Lib.Math.min.name, Cond.static Lib.Math.min.name, Cond.initialized "java/lang/Math", Cond.code Lib.Math.min.name Lib.Math.min.code 2 (some .int), Cond.methodLink RX0 46 yX0_happens, Cond.instanceMethod yX0_happens, Cond.selects RX0 yX0_happens yX0_happens, Cond.code yX0_happens cX0_happens 4 (some .boolean), Cond.methodLink RX0 56 yX0_happensJoin, Cond.instanceMethod yX0_happensJoin, Cond.selects RX0 yX0_happensJoin yX0_happensJoin, Cond.code yX0_happensJoin cX0_happensJoin 2 (some .boolean)]
def wsL_count_r3 : List Cond := [Cond.fieldLink RX0 9 "KnifeLedger$Reckoning" "trusts" "[I", Cond.methodLink RX0 60 yX0_happensToss, Cond.instanceMethod yX0_happensToss, Cond.selects RX0 yX0_happensToss yX0_happensToss, Cond.code yX0_happensToss cX0_happensToss 3 (some .boolean), Cond.methodLink RX0 73 yX0_standsFor, Cond.instanceMethod yX0_standsFor, Cond.selects RX0 yX0_standsFor yX0_standsFor, Cond.code yX0_standsFor cX0_standsFor 2 (some .boolean), Cond.fieldLink RX0 18 "KnifeLedger$Reckoning" "trembles" "[I", Cond.methodLink RX0 88 yX0_hasJoined, Cond.instanceMethod yX0_hasJoined, Cond.selects RX0 yX0_hasJoined yX0_hasJoined, Cond.code yX0_hasJoined cX0_hasJoined 2 (some .boolean), Cond.methodLink RX0 76 yX0_takings, Cond.instanceMethod yX0_takings, Cond.selects RX0 yX0_takings yX0_takings, Cond.code yX0_takings cX0_takings 2 (some .int), Cond.fieldLink RX0 15 "KnifeLedger$Reckoning" "lights" "[I", Cond.methodLink RX0 80 yX0_scratch, Cond.instanceMethod yX0_scratch, Cond.selects RX0 yX0_scratch yX0_scratch, Cond.code yX0_scratch cX0_scratch 2 none, Cond.methodLink RX0 84 yX0_addTrust]
def wsL_count_r4 : List Cond := [Cond.instanceMethod yX0_addTrust, Cond.selects RX0 yX0_addTrust yX0_addTrust, Cond.code yX0_addTrust cX0_addTrust 3 none, Cond.methodLink RX0 91 Lib.Math.max.name, Cond.static Lib.Math.max.name, Cond.code Lib.Math.max.name Lib.Math.max.code 2 (some .int), Cond.methodLink RX0 64 yX0_happensRest, Cond.instanceMethod yX0_happensRest, Cond.selects RX0 yX0_happensRest yX0_happensRest, Cond.code yX0_happensRest cX0_happensRest 2 (some .boolean), Cond.methodLink RX0 67 yX0_happensPay, Cond.instanceMethod yX0_happensPay, Cond.selects RX0 yX0_happensPay yX0_happensPay, Cond.code yX0_happensPay cX0_happensPay 3 (some .boolean), Cond.methodLink RX0 70 yX0_happensBuy, Cond.instanceMethod yX0_happensBuy, Cond.selects RX0 yX0_happensBuy yX0_happensBuy, Cond.code yX0_happensBuy cX0_happensBuy 3 (some .boolean)]
def wsL_count : List Cond := .codeWith yL_count cL_count 4 (some .int) [(0, 9, 12, 13)] :: ((wsL_count_r1 ++ (wsL_count_r2 ++ (wsL_count_r3 ++ wsL_count_r4))) ++ wsX10 ++ wsX00 ++ (vx_atS RX1 136 "java/lang/IndexOutOfBoundsException" ["java/lang/RuntimeException", "java/lang/Exception"]).filter goodWord)
def wsL_worth_r1 : List Cond := [Cond.classLink RL 13 "java/lang/IndexOutOfBoundsException", Cond.methodLink RL 62 yX1_worth, Cond.instanceMethod yX1_worth, Cond.selects RX1 yX1_worth yX1_worth, Cond.initialized RX1, Cond.code yX1_worth cX1_worth 2 (some .int), Cond.fieldLink RX1 29 "KnifeLedger" "size" "I", Cond.methodLink RX1 42 yX1_needIndex, Cond.static yX1_needIndex, Cond.code yX1_needIndex cX1_needIndex 2 none, Cond.classLink RX1 132 "java/lang/IndexOutOfBoundsException", Cond.initialized "java/lang/IndexOutOfBoundsException", Cond.methodLink RX1 105 yX1_coinsBehindAll, Cond.instanceMethod yX1_coinsBehindAll, Cond.selects RX1 yX1_coinsBehindAll yX1_coinsBehindAll, Cond.code yX1_coinsBehindAll cX1_coinsBehindAll 2 (some .int), Cond.fieldLink RX1 38 "KnifeLedger" "reckoning" "LKnifeLedger$Reckoning;", Cond.methodLink RX1 68 yX1_reckon, Cond.instanceMethod yX1_reckon, Cond.selects RX1 yX1_reckon yX1_reckon, Cond.code yX1_reckon cX1_reckon 5 none, Cond.fieldLink RX1 25 "KnifeLedger" "struck" "[Z", Cond.fieldLink RX1 16 "KnifeLedger" "kinds" "[I", Cond.fieldLink RX1 19 "KnifeLedger" "firsts" "[I"]
def wsL_worth_r2 : List Cond := [Cond.fieldLink RX1 22 "KnifeLedger" "seconds" "[I", Cond.instanceMethod yX0_begin, Cond.initialized RX0, Cond.selects RX0 yX0_begin yX0_begin, Cond.code yX0_begin cX0_begin 1 none, Cond.fieldLink RX0 21 "KnifeLedger$Reckoning" "coins" "I", Cond.fieldLink RX0 25 "KnifeLedger$Reckoning" "plasters" "I", Cond.fieldLink RX0 28 "KnifeLedger$Reckoning" "stage" "I", Cond.fieldLink RX0 31 "KnifeLedger$Reckoning" "joined" "I", Cond.fieldLink RX0 34 "KnifeLedger$Reckoning" "counting" "I", Cond.fieldLink RX0 37 "KnifeLedger$Reckoning" "idle" "I", Cond.fieldLink RX0 40 "KnifeLedger$Reckoning" "firstIdle" "I", Cond.fieldLink RX0 43 "KnifeLedger$Reckoning" "fewestCoins" "I", Cond.instanceMethod yX0_reckonEntry, Cond.selects RX0 yX0_reckonEntry yX0_reckonEntry, Cond.code yX0_reckonEntry cX0_reckonEntry 5 none, Cond.methodLink RX0 50 Lib.Math.min.name, Cond.static Lib.Math.min.name, Cond.initialized "java/lang/Math", Cond.code Lib.Math.min.name Lib.Math.min.code 2 (some .int), Cond.methodLink RX0 46 yX0_happens, Cond.instanceMethod yX0_happens, Cond.selects RX0 yX0_happens yX0_happens, Cond.code yX0_happens cX0_happens 4 (some .boolean)]
def wsL_worth_r3 : List Cond := [Cond.methodLink RX0 56 yX0_happensJoin, Cond.instanceMethod yX0_happensJoin, Cond.selects RX0 yX0_happensJoin yX0_happensJoin, Cond.code yX0_happensJoin cX0_happensJoin 2 (some .boolean), Cond.fieldLink RX0 9 "KnifeLedger$Reckoning" "trusts" "[I", Cond.methodLink RX0 60 yX0_happensToss, Cond.instanceMethod yX0_happensToss, Cond.selects RX0 yX0_happensToss yX0_happensToss, Cond.code yX0_happensToss cX0_happensToss 3 (some .boolean), Cond.methodLink RX0 73 yX0_standsFor, Cond.instanceMethod yX0_standsFor, Cond.selects RX0 yX0_standsFor yX0_standsFor, Cond.code yX0_standsFor cX0_standsFor 2 (some .boolean), Cond.fieldLink RX0 18 "KnifeLedger$Reckoning" "trembles" "[I", Cond.methodLink RX0 88 yX0_hasJoined, Cond.instanceMethod yX0_hasJoined, Cond.selects RX0 yX0_hasJoined yX0_hasJoined, Cond.code yX0_hasJoined cX0_hasJoined 2 (some .boolean), Cond.methodLink RX0 76 yX0_takings, Cond.instanceMethod yX0_takings, Cond.selects RX0 yX0_takings yX0_takings, Cond.code yX0_takings cX0_takings 2 (some .int), Cond.fieldLink RX0 15 "KnifeLedger$Reckoning" "lights" "[I", Cond.methodLink RX0 80 yX0_scratch]
def wsL_worth_r4 : List Cond := [Cond.instanceMethod yX0_scratch, Cond.selects RX0 yX0_scratch yX0_scratch, Cond.code yX0_scratch cX0_scratch 2 none, Cond.methodLink RX0 84 yX0_addTrust, Cond.instanceMethod yX0_addTrust, Cond.selects RX0 yX0_addTrust yX0_addTrust, Cond.code yX0_addTrust cX0_addTrust 3 none, Cond.methodLink RX0 91 Lib.Math.max.name, Cond.static Lib.Math.max.name, Cond.code Lib.Math.max.name Lib.Math.max.code 2 (some .int), Cond.methodLink RX0 64 yX0_happensRest, Cond.instanceMethod yX0_happensRest, Cond.selects RX0 yX0_happensRest yX0_happensRest, Cond.code yX0_happensRest cX0_happensRest 2 (some .boolean), Cond.methodLink RX0 67 yX0_happensPay, Cond.instanceMethod yX0_happensPay, Cond.selects RX0 yX0_happensPay yX0_happensPay, Cond.code yX0_happensPay cX0_happensPay 3 (some .boolean), Cond.methodLink RX0 70 yX0_happensBuy, Cond.instanceMethod yX0_happensBuy, Cond.selects RX0 yX0_happensBuy yX0_happensBuy, Cond.code yX0_happensBuy cX0_happensBuy 3 (some .boolean)]
def wsL_worth : List Cond := .codeWith yL_worth cL_worth 4 (some .int) [(0, 9, 12, 13)] :: ((wsL_worth_r1 ++ (wsL_worth_r2 ++ (wsL_worth_r3 ++ wsL_worth_r4))) ++ wsX10 ++ wsX00 ++ (vx_atS RX1 136 "java/lang/IndexOutOfBoundsException" ["java/lang/RuntimeException", "java/lang/Exception"]).filter goodWord)
def wsL_would_r1 : List Cond := [Cond.classLink RL 13 "java/lang/IndexOutOfBoundsException", Cond.classLink RL 15 "java/lang/IllegalArgumentException", Cond.methodLink RL 65 yX1_would, Cond.instanceMethod yX1_would, Cond.selects RX1 yX1_would yX1_would, Cond.initialized RX1, Cond.code yX1_would cX1_would 3 (some .int), Cond.fieldLink RX1 29 "KnifeLedger" "size" "I", Cond.fieldLink RX1 38 "KnifeLedger" "reckoning" "LKnifeLedger$Reckoning;", Cond.methodLink RX1 42 yX1_needIndex, Cond.static yX1_needIndex, Cond.code yX1_needIndex cX1_needIndex 2 none, Cond.classLink RX1 132 "java/lang/IndexOutOfBoundsException", Cond.initialized "java/lang/IndexOutOfBoundsException", Cond.methodLink RX1 46 yX1_needWithin, Cond.static yX1_needWithin, Cond.code yX1_needWithin cX1_needWithin 3 none, Cond.classLink RX1 137 "java/lang/IllegalArgumentException", Cond.initialized "java/lang/IllegalArgumentException", Cond.methodLink RX1 68 yX1_reckon, Cond.instanceMethod yX1_reckon, Cond.selects RX1 yX1_reckon yX1_reckon, Cond.code yX1_reckon cX1_reckon 5 none, Cond.fieldLink RX1 25 "KnifeLedger" "struck" "[Z"]
def wsL_would_r2 : List Cond := [Cond.fieldLink RX1 16 "KnifeLedger" "kinds" "[I", Cond.fieldLink RX1 19 "KnifeLedger" "firsts" "[I", Cond.fieldLink RX1 22 "KnifeLedger" "seconds" "[I", Cond.instanceMethod yX0_begin, Cond.initialized RX0, Cond.selects RX0 yX0_begin yX0_begin, Cond.code yX0_begin cX0_begin 1 none, Cond.fieldLink RX0 21 "KnifeLedger$Reckoning" "coins" "I", Cond.fieldLink RX0 25 "KnifeLedger$Reckoning" "plasters" "I", Cond.fieldLink RX0 28 "KnifeLedger$Reckoning" "stage" "I", Cond.fieldLink RX0 31 "KnifeLedger$Reckoning" "joined" "I", Cond.fieldLink RX0 34 "KnifeLedger$Reckoning" "counting" "I", Cond.fieldLink RX0 37 "KnifeLedger$Reckoning" "idle" "I", Cond.fieldLink RX0 40 "KnifeLedger$Reckoning" "firstIdle" "I", Cond.fieldLink RX0 43 "KnifeLedger$Reckoning" "fewestCoins" "I", Cond.instanceMethod yX0_reckonEntry, Cond.selects RX0 yX0_reckonEntry yX0_reckonEntry, Cond.code yX0_reckonEntry cX0_reckonEntry 5 none, Cond.methodLink RX0 50 Lib.Math.min.name, Cond.static Lib.Math.min.name, Cond.initialized "java/lang/Math", Cond.code Lib.Math.min.name Lib.Math.min.code 2 (some .int), Cond.methodLink RX0 46 yX0_happens, Cond.instanceMethod yX0_happens]
def wsL_would_r3 : List Cond := [Cond.selects RX0 yX0_happens yX0_happens, Cond.code yX0_happens cX0_happens 4 (some .boolean), Cond.methodLink RX0 56 yX0_happensJoin, Cond.instanceMethod yX0_happensJoin, Cond.selects RX0 yX0_happensJoin yX0_happensJoin, Cond.code yX0_happensJoin cX0_happensJoin 2 (some .boolean), Cond.fieldLink RX0 9 "KnifeLedger$Reckoning" "trusts" "[I", Cond.methodLink RX0 60 yX0_happensToss, Cond.instanceMethod yX0_happensToss, Cond.selects RX0 yX0_happensToss yX0_happensToss, Cond.code yX0_happensToss cX0_happensToss 3 (some .boolean), Cond.methodLink RX0 73 yX0_standsFor, Cond.instanceMethod yX0_standsFor, Cond.selects RX0 yX0_standsFor yX0_standsFor, Cond.code yX0_standsFor cX0_standsFor 2 (some .boolean), Cond.fieldLink RX0 18 "KnifeLedger$Reckoning" "trembles" "[I", Cond.methodLink RX0 88 yX0_hasJoined, Cond.instanceMethod yX0_hasJoined, Cond.selects RX0 yX0_hasJoined yX0_hasJoined, Cond.code yX0_hasJoined cX0_hasJoined 2 (some .boolean), Cond.methodLink RX0 76 yX0_takings, Cond.instanceMethod yX0_takings, Cond.selects RX0 yX0_takings yX0_takings, Cond.code yX0_takings cX0_takings 2 (some .int)]
def wsL_would_r4 : List Cond := [Cond.fieldLink RX0 15 "KnifeLedger$Reckoning" "lights" "[I", Cond.methodLink RX0 80 yX0_scratch, Cond.instanceMethod yX0_scratch, Cond.selects RX0 yX0_scratch yX0_scratch, Cond.code yX0_scratch cX0_scratch 2 none, Cond.methodLink RX0 84 yX0_addTrust, Cond.instanceMethod yX0_addTrust, Cond.selects RX0 yX0_addTrust yX0_addTrust, Cond.code yX0_addTrust cX0_addTrust 3 none, Cond.methodLink RX0 91 Lib.Math.max.name, Cond.static Lib.Math.max.name, Cond.code Lib.Math.max.name Lib.Math.max.code 2 (some .int), Cond.methodLink RX0 64 yX0_happensRest, Cond.instanceMethod yX0_happensRest, Cond.selects RX0 yX0_happensRest yX0_happensRest, Cond.code yX0_happensRest cX0_happensRest 2 (some .boolean), Cond.methodLink RX0 67 yX0_happensPay, Cond.instanceMethod yX0_happensPay, Cond.selects RX0 yX0_happensPay yX0_happensPay, Cond.code yX0_happensPay cX0_happensPay 3 (some .boolean), Cond.methodLink RX0 70 yX0_happensBuy, Cond.instanceMethod yX0_happensBuy, Cond.selects RX0 yX0_happensBuy yX0_happensBuy, Cond.code yX0_happensBuy cX0_happensBuy 3 (some .boolean)]
def wsL_would : List Cond := .codeWith yL_would cL_would 5 (some .int) [(0, 10, 13, 13), (0, 10, 17, 15)] :: ((wsL_would_r1 ++ (wsL_would_r2 ++ (wsL_would_r3 ++ wsL_would_r4))) ++ wsX10 ++ wsX00 ++ (vx_atS RX1 136 "java/lang/IndexOutOfBoundsException" ["java/lang/RuntimeException", "java/lang/Exception"]).filter goodWord ++ (vx_atS RX1 141 "java/lang/IllegalArgumentException" ["java/lang/RuntimeException", "java/lang/Exception"]).filter goodWord)
def wsL_law0_r1 : List Cond := [Cond.classLink RL 8 RX1, Cond.instantiable RX1 8, Cond.initialized RX1, Cond.classLink RL 69 RX2, Cond.instantiable RX2 17, Cond.initialized RX2, Cond.arrayClass .long, Cond.methodLink RL 68 yX1_init, Cond.instanceMethod yX1_init, Cond.code yX1_init cX1_init 1 none, Cond.methodLink RX1 1 objectInit, Cond.instanceMethod objectInit, Cond.code objectInit ⟨#[0xb1]⟩ 1 none, Cond.arrayClass .int, Cond.fieldLink RX1 9 "KnifeLedger" "lights" "[I", Cond.fieldLink RX1 13 "KnifeLedger" "trembles" "[I", Cond.fieldLink RX1 16 "KnifeLedger" "kinds" "[I", Cond.fieldLink RX1 19 "KnifeLedger" "firsts" "[I", Cond.fieldLink RX1 22 "KnifeLedger" "seconds" "[I", Cond.arrayClass .boolean, Cond.fieldLink RX1 25 "KnifeLedger" "struck" "[Z", Cond.fieldLink RX1 29 "KnifeLedger" "size" "I", Cond.classLink RX1 33 RX0, Cond.instantiable RX0 11]
def wsL_law0_r2 : List Cond := [Cond.initialized RX0, Cond.fieldLink RX1 38 "KnifeLedger" "reckoning" "LKnifeLedger$Reckoning;", Cond.instanceMethod yX0_init, Cond.code yX0_init cX0_init 3 none, Cond.methodLink RX0 3 objectInit, Cond.fieldLink RX0 9 "KnifeLedger$Reckoning" "trusts" "[I", Cond.fieldLink RX0 15 "KnifeLedger$Reckoning" "lights" "[I", Cond.fieldLink RX0 18 "KnifeLedger$Reckoning" "trembles" "[I", Cond.methodLink RL 71 yX2_init, Cond.instanceMethod yX2_init, Cond.code yX2_init cX2_init 1 none, Cond.methodLink RX2 1 objectInit, Cond.fieldLink RX2 9 "KnifeLedgerModel" "light" "[I", Cond.fieldLink RX2 13 "KnifeLedgerModel" "tremble" "[I", Cond.fieldLink RX2 16 "KnifeLedgerModel" "kinds" "[I", Cond.fieldLink RX2 19 "KnifeLedgerModel" "firsts" "[I", Cond.fieldLink RX2 22 "KnifeLedgerModel" "seconds" "[I", Cond.fieldLink RX2 25 "KnifeLedgerModel" "struck" "[Z", Cond.fieldLink RX2 29 "KnifeLedgerModel" "trusts" "[I", Cond.methodLink RL 72 yL_set, Cond.static yL_set, Cond.initialized RL, Cond.codeWith yL_set cL_set 6 (some .int) [(0, 12, 15, 13), (0, 12, 19, 15)], Cond.classLink RL 13 "java/lang/IndexOutOfBoundsException"]
def wsL_law0_r3 : List Cond := [Cond.classLink RL 15 "java/lang/IllegalArgumentException", Cond.methodLink RL 7 yX1_set, Cond.instanceMethod yX1_set, Cond.selects RX1 yX1_set yX1_set, Cond.code yX1_set cX1_set 5 (some .int), Cond.methodLink RX1 42 yX1_needIndex, Cond.static yX1_needIndex, Cond.code yX1_needIndex cX1_needIndex 2 none, Cond.classLink RX1 132 "java/lang/IndexOutOfBoundsException", Cond.initialized "java/lang/IndexOutOfBoundsException", Cond.methodLink RX1 46 yX1_needWithin, Cond.static yX1_needWithin, Cond.code yX1_needWithin cX1_needWithin 3 none, Cond.classLink RX1 137 "java/lang/IllegalArgumentException", Cond.initialized "java/lang/IllegalArgumentException", Cond.methodLink RL 77 yX2_set, Cond.instanceMethod yX2_set, Cond.selects RX2 yX2_set yX2_set, Cond.code yX2_set cX2_set 5 (some .int), Cond.fieldLink RX2 32 "KnifeLedgerModel" "thrown" "I", Cond.methodLink RX2 39 yX2_isIn, Cond.static yX2_isIn, Cond.code yX2_isIn cX2_isIn 3 (some .boolean), Cond.methodLink RX2 43 yX2_fail]
def wsL_law0_r4 : List Cond := [Cond.instanceMethod yX2_fail, Cond.selects RX2 yX2_fail yX2_fail, Cond.code yX2_fail cX2_fail 2 (some .int), Cond.methodLink RL 78 yX2_thrown, Cond.instanceMethod yX2_thrown, Cond.selects RX2 yX2_thrown yX2_thrown, Cond.code yX2_thrown cX2_thrown 1 (some .int), Cond.methodLink RL 81 yL_join, Cond.static yL_join, Cond.codeWith yL_join cL_join 4 (some .int) [(0, 9, 12, 15), (0, 9, 15, 21)], Cond.classLink RL 21 "java/lang/IllegalStateException", Cond.methodLink RL 17 yX1_join, Cond.instanceMethod yX1_join, Cond.selects RX1 yX1_join yX1_join, Cond.code yX1_join cX1_join 2 (some .int), Cond.methodLink RX1 50 yX1_append, Cond.instanceMethod yX1_append, Cond.selects RX1 yX1_append yX1_append, Cond.code yX1_append cX1_append 4 (some .int), Cond.classLink RX1 57 "java/lang/IllegalStateException", Cond.initialized "java/lang/IllegalStateException", Cond.methodLink RL 84 yX2_join, Cond.instanceMethod yX2_join, Cond.selects RX2 yX2_join yX2_join]
def wsL_law0_r5 : List Cond := [Cond.code yX2_join cX2_join 2 (some .int), Cond.fieldLink RX2 36 "KnifeLedgerModel" "entries" "I", Cond.methodLink RX2 47 yX2_write, Cond.instanceMethod yX2_write, Cond.selects RX2 yX2_write yX2_write, Cond.code yX2_write cX2_write 4 (some .int), Cond.methodLink RL 85 yL_toss, Cond.static yL_toss, Cond.codeWith yL_toss cL_toss 5 (some .int) [(0, 10, 13, 13), (0, 10, 17, 15), (0, 10, 21, 21)], Cond.methodLink RL 23 yX1_toss, Cond.instanceMethod yX1_toss, Cond.selects RX1 yX1_toss yX1_toss, Cond.code yX1_toss cX1_toss 3 (some .int), Cond.methodLink RL 88 yX2_toss, Cond.instanceMethod yX2_toss, Cond.selects RX2 yX2_toss yX2_toss, Cond.code yX2_toss cX2_toss 3 (some .int), Cond.methodLink RL 89 yL_rest, Cond.static yL_rest, Cond.codeWith yL_rest cL_rest 4 (some .int) [(0, 9, 12, 13), (0, 9, 15, 21)], Cond.methodLink RL 27 yX1_rest, Cond.instanceMethod yX1_rest, Cond.selects RX1 yX1_rest yX1_rest, Cond.code yX1_rest cX1_rest 2 (some .int)]
def wsL_law0_r6 : List Cond := [Cond.methodLink RL 91 yX2_rest, Cond.instanceMethod yX2_rest, Cond.selects RX2 yX2_rest yX2_rest, Cond.code yX2_rest cX2_rest 2 (some .int), Cond.methodLink RL 92 yL_go, Cond.static yL_go, Cond.codeWith yL_go cL_go 4 (some .int) [(0, 9, 12, 13), (0, 9, 15, 21)], Cond.methodLink RL 30 yX1_go, Cond.instanceMethod yX1_go, Cond.selects RX1 yX1_go yX1_go, Cond.code yX1_go cX1_go 2 (some .int), Cond.methodLink RL 94 yX2_go, Cond.instanceMethod yX2_go, Cond.selects RX2 yX2_go yX2_go, Cond.code yX2_go cX2_go 2 (some .int), Cond.methodLink RL 95 yL_pay, Cond.static yL_pay, Cond.codeWith yL_pay cL_pay 5 (some .int) [(0, 10, 13, 13), (0, 10, 17, 15), (0, 10, 21, 21)], Cond.methodLink RL 33 yX1_pay, Cond.instanceMethod yX1_pay, Cond.selects RX1 yX1_pay yX1_pay, Cond.code yX1_pay cX1_pay 3 (some .int), Cond.methodLink RL 97 yX2_pay, Cond.instanceMethod yX2_pay]
def wsL_law0_r7 : List Cond := [Cond.selects RX2 yX2_pay yX2_pay, Cond.code yX2_pay cX2_pay 3 (some .int), Cond.methodLink RL 98 yL_buy, Cond.static yL_buy, Cond.codeWith yL_buy cL_buy 4 (some .int) [(0, 9, 12, 15), (0, 9, 15, 21)], Cond.methodLink RL 36 yX1_buy, Cond.instanceMethod yX1_buy, Cond.selects RX1 yX1_buy yX1_buy, Cond.code yX1_buy cX1_buy 2 (some .int), Cond.methodLink RL 100 yX2_buy, Cond.instanceMethod yX2_buy, Cond.selects RX2 yX2_buy yX2_buy, Cond.code yX2_buy cX2_buy 2 (some .int), Cond.methodLink RL 101 yL_strike, Cond.static yL_strike, Cond.codeWith yL_strike cL_strike 4 (some .int) [(0, 16, 19, 13)], Cond.methodLink RL 39 yX1_strike, Cond.instanceMethod yX1_strike, Cond.selects RX1 yX1_strike yX1_strike, Cond.code yX1_strike cX1_strike 2 (some .boolean), Cond.methodLink RL 103 yX2_strike, Cond.instanceMethod yX2_strike, Cond.selects RX2 yX2_strike yX2_strike, Cond.code yX2_strike cX2_strike 2 (some .boolean)]
def wsL_law0_r8 : List Cond := [Cond.methodLink RX2 105 yX2_isEntry, Cond.instanceMethod yX2_isEntry, Cond.selects RX2 yX2_isEntry yX2_isEntry, Cond.code yX2_isEntry cX2_isEntry 2 (some .boolean), Cond.methodLink RL 104 yL_shift, Cond.static yL_shift, Cond.codeWith yL_shift cL_shift 5 (some .int) [(0, 10, 13, 13)], Cond.methodLink RL 43 yX1_shift, Cond.instanceMethod yX1_shift, Cond.selects RX1 yX1_shift yX1_shift, Cond.code yX1_shift cX1_shift 5 (some .int), Cond.methodLink RX1 54 yX1_swap, Cond.instanceMethod yX1_swap, Cond.selects RX1 yX1_swap yX1_swap, Cond.code yX1_swap cX1_swap 4 none, Cond.methodLink RX1 144 yX1_swapNumbers, Cond.static yX1_swapNumbers, Cond.code yX1_swapNumbers cX1_swapNumbers 4 none, Cond.methodLink RL 106 yX2_shift, Cond.instanceMethod yX2_shift, Cond.selects RX2 yX2_shift yX2_shift, Cond.code yX2_shift cX2_shift 4 (some .int), Cond.methodLink RX2 108 yX2_exchange, Cond.instanceMethod yX2_exchange]
def wsL_law0_r9 : List Cond := [Cond.selects RX2 yX2_exchange yX2_exchange, Cond.code yX2_exchange cX2_exchange 7 none, Cond.methodLink RL 107 yL_tear, Cond.static yL_tear, Cond.codeWith yL_tear cL_tear 3 (some .int) [(0, 8, 11, 21)], Cond.methodLink RL 46 yX1_tear, Cond.instanceMethod yX1_tear, Cond.selects RX1 yX1_tear yX1_tear, Cond.code yX1_tear cX1_tear 1 (some .int), Cond.methodLink RL 110 yX2_tear, Cond.instanceMethod yX2_tear, Cond.selects RX2 yX2_tear yX2_tear, Cond.code yX2_tear cX2_tear 1 (some .int), Cond.methodLink RL 111 yL_entry, Cond.static yL_entry, Cond.codeWith yL_entry cL_entry 5 (some .int) [(0, 10, 13, 13)], Cond.methodLink RL 50 yX1_entry, Cond.instanceMethod yX1_entry, Cond.selects RX1 yX1_entry yX1_entry, Cond.code yX1_entry cX1_entry 3 (some .int), Cond.methodLink RX1 64 yX1_counts, Cond.instanceMethod yX1_counts, Cond.selects RX1 yX1_counts yX1_counts, Cond.code yX1_counts cX1_counts 2 (some .boolean)]
def wsL_law0_r10 : List Cond := [Cond.methodLink RX1 68 yX1_reckon, Cond.instanceMethod yX1_reckon, Cond.selects RX1 yX1_reckon yX1_reckon, Cond.code yX1_reckon cX1_reckon 5 none, Cond.instanceMethod yX0_begin, Cond.selects RX0 yX0_begin yX0_begin, Cond.code yX0_begin cX0_begin 1 none, Cond.fieldLink RX0 21 "KnifeLedger$Reckoning" "coins" "I", Cond.fieldLink RX0 25 "KnifeLedger$Reckoning" "plasters" "I", Cond.fieldLink RX0 28 "KnifeLedger$Reckoning" "stage" "I", Cond.fieldLink RX0 31 "KnifeLedger$Reckoning" "joined" "I", Cond.fieldLink RX0 34 "KnifeLedger$Reckoning" "counting" "I", Cond.fieldLink RX0 37 "KnifeLedger$Reckoning" "idle" "I", Cond.fieldLink RX0 40 "KnifeLedger$Reckoning" "firstIdle" "I", Cond.fieldLink RX0 43 "KnifeLedger$Reckoning" "fewestCoins" "I", Cond.instanceMethod yX0_reckonEntry, Cond.selects RX0 yX0_reckonEntry yX0_reckonEntry, Cond.code yX0_reckonEntry cX0_reckonEntry 5 none, Cond.methodLink RX0 50 Lib.Math.min.name, Cond.static Lib.Math.min.name, Cond.initialized "java/lang/Math", Cond.code Lib.Math.min.name Lib.Math.min.code 2 (some .int), Cond.methodLink RX0 46 yX0_happens, Cond.instanceMethod yX0_happens]
def wsL_law0_r11 : List Cond := [Cond.selects RX0 yX0_happens yX0_happens, Cond.code yX0_happens cX0_happens 4 (some .boolean), Cond.methodLink RX0 56 yX0_happensJoin, Cond.instanceMethod yX0_happensJoin, Cond.selects RX0 yX0_happensJoin yX0_happensJoin, Cond.code yX0_happensJoin cX0_happensJoin 2 (some .boolean), Cond.methodLink RX0 60 yX0_happensToss, Cond.instanceMethod yX0_happensToss, Cond.selects RX0 yX0_happensToss yX0_happensToss, Cond.code yX0_happensToss cX0_happensToss 3 (some .boolean), Cond.methodLink RX0 73 yX0_standsFor, Cond.instanceMethod yX0_standsFor, Cond.selects RX0 yX0_standsFor yX0_standsFor, Cond.code yX0_standsFor cX0_standsFor 2 (some .boolean), Cond.methodLink RX0 88 yX0_hasJoined, Cond.instanceMethod yX0_hasJoined, Cond.selects RX0 yX0_hasJoined yX0_hasJoined, Cond.code yX0_hasJoined cX0_hasJoined 2 (some .boolean), Cond.methodLink RX0 76 yX0_takings, Cond.instanceMethod yX0_takings, Cond.selects RX0 yX0_takings yX0_takings, Cond.code yX0_takings cX0_takings 2 (some .int), Cond.methodLink RX0 80 yX0_scratch, Cond.instanceMethod yX0_scratch]
def wsL_law0_r12 : List Cond := [Cond.selects RX0 yX0_scratch yX0_scratch, Cond.code yX0_scratch cX0_scratch 2 none, Cond.methodLink RX0 84 yX0_addTrust, Cond.instanceMethod yX0_addTrust, Cond.selects RX0 yX0_addTrust yX0_addTrust, Cond.code yX0_addTrust cX0_addTrust 3 none, Cond.methodLink RX0 91 Lib.Math.max.name, Cond.static Lib.Math.max.name, Cond.code Lib.Math.max.name Lib.Math.max.code 2 (some .int), Cond.methodLink RX0 64 yX0_happensRest, Cond.instanceMethod yX0_happensRest, Cond.selects RX0 yX0_happensRest yX0_happensRest, Cond.code yX0_happensRest cX0_happensRest 2 (some .boolean), Cond.methodLink RX0 67 yX0_happensPay, Cond.instanceMethod yX0_happensPay, Cond.selects RX0 yX0_happensPay yX0_happensPay, Cond.code yX0_happensPay cX0_happensPay 3 (some .boolean), Cond.methodLink RX0 70 yX0_happensBuy, Cond.instanceMethod yX0_happensBuy, Cond.selects RX0 yX0_happensBuy yX0_happensBuy, Cond.code yX0_happensBuy cX0_happensBuy 3 (some .boolean), Cond.methodLink RL 113 yX2_entry, Cond.instanceMethod yX2_entry, Cond.selects RX2 yX2_entry yX2_entry]
def wsL_law0_r13 : List Cond := [Cond.code yX2_entry cX2_entry 3 (some .int), Cond.methodLink RX2 114 yX2_entryTold, Cond.instanceMethod yX2_entryTold, Cond.selects RX2 yX2_entryTold yX2_entryTold, Cond.code yX2_entryTold cX2_entryTold 3 (some .int), Cond.methodLink RX2 111 yX2_reckon, Cond.instanceMethod yX2_reckon, Cond.selects RX2 yX2_reckon yX2_reckon, Cond.code yX2_reckon cX2_reckon 4 (some .boolean), Cond.fieldLink RX2 70 "KnifeLedgerModel" "coins" "I", Cond.fieldLink RX2 80 "KnifeLedgerModel" "plasters" "I", Cond.fieldLink RX2 63 "KnifeLedgerModel" "stage" "I", Cond.fieldLink RX2 60 "KnifeLedgerModel" "joined" "I", Cond.fieldLink RX2 86 "KnifeLedgerModel" "counting" "I", Cond.fieldLink RX2 89 "KnifeLedgerModel" "idle" "I", Cond.fieldLink RX2 92 "KnifeLedgerModel" "firstIdle" "I", Cond.fieldLink RX2 95 "KnifeLedgerModel" "fewest" "I", Cond.methodLink RX2 51 Lib.Math.min.name, Cond.methodLink RX2 98 yX2_holds, Cond.instanceMethod yX2_holds, Cond.selects RX2 yX2_holds yX2_holds, Cond.code yX2_holds cX2_holds 3 (some .boolean), Cond.methodLink RX2 66 yX2_canToss, Cond.instanceMethod yX2_canToss]
def wsL_law0_r14 : List Cond := [Cond.selects RX2 yX2_canToss yX2_canToss, Cond.code yX2_canToss cX2_canToss 2 (some .boolean), Cond.methodLink RX2 101 yX2_carryOut, Cond.instanceMethod yX2_carryOut, Cond.selects RX2 yX2_carryOut yX2_carryOut, Cond.code yX2_carryOut cX2_carryOut 4 none, Cond.methodLink RX2 83 yX2_stick, Cond.instanceMethod yX2_stick, Cond.selects RX2 yX2_stick yX2_stick, Cond.code yX2_stick cX2_stick 3 none, Cond.methodLink RX2 57 Lib.Math.max.name, Cond.methodLink RX2 73 yX2_brings, Cond.instanceMethod yX2_brings, Cond.selects RX2 yX2_brings yX2_brings, Cond.code yX2_brings cX2_brings 2 (some .int), Cond.methodLink RX2 76 yX2_more, Cond.instanceMethod yX2_more, Cond.selects RX2 yX2_more yX2_more, Cond.code yX2_more cX2_more 3 none, Cond.methodLink RL 114 yL_behind, Cond.static yL_behind, Cond.codeWith yL_behind cL_behind 5 (some .int) [(0, 10, 13, 15), (0, 10, 17, 13)], Cond.methodLink RL 53 yX1_behind, Cond.instanceMethod yX1_behind]
def wsL_law0_r15 : List Cond := [Cond.selects RX1 yX1_behind yX1_behind, Cond.code yX1_behind cX1_behind 3 (some .int), Cond.instanceMethod yX0_trustOfAll, Cond.selects RX0 yX0_trustOfAll yX0_trustOfAll, Cond.code yX0_trustOfAll cX0_trustOfAll 3 (some .int), Cond.methodLink RL 116 yX2_behind, Cond.instanceMethod yX2_behind, Cond.selects RX2 yX2_behind yX2_behind, Cond.code yX2_behind cX2_behind 4 (some .int), Cond.methodLink RX2 117 yX2_trustAll, Cond.instanceMethod yX2_trustAll, Cond.selects RX2 yX2_trustAll yX2_trustAll, Cond.code yX2_trustAll cX2_trustAll 3 (some .int), Cond.methodLink RL 117 yL_trust, Cond.static yL_trust, Cond.codeWith yL_trust cL_trust 5 (some .int) [(0, 10, 13, 13), (0, 10, 17, 15)], Cond.methodLink RL 56 yX1_trust, Cond.instanceMethod yX1_trust, Cond.selects RX1 yX1_trust yX1_trust, Cond.code yX1_trust cX1_trust 3 (some .int), Cond.methodLink RL 119 yX2_trust, Cond.instanceMethod yX2_trust, Cond.selects RX2 yX2_trust yX2_trust, Cond.code yX2_trust cX2_trust 3 (some .int)]
def wsL_law0_r16 : List Cond := [Cond.methodLink RL 120 yL_count, Cond.static yL_count, Cond.codeWith yL_count cL_count 4 (some .int) [(0, 9, 12, 13)], Cond.methodLink RL 59 yX1_count, Cond.instanceMethod yX1_count, Cond.selects RX1 yX1_count yX1_count, Cond.code yX1_count cX1_count 2 (some .int), Cond.methodLink RL 122 yX2_count, Cond.instanceMethod yX2_count, Cond.selects RX2 yX2_count yX2_count, Cond.code yX2_count cX2_count 2 (some .int), Cond.methodLink RX2 121 yX2_counted, Cond.instanceMethod yX2_counted, Cond.selects RX2 yX2_counted yX2_counted, Cond.code yX2_counted cX2_counted 4 (some .int), Cond.methodLink RL 123 yL_worth, Cond.static yL_worth, Cond.codeWith yL_worth cL_worth 4 (some .int) [(0, 9, 12, 13)], Cond.methodLink RL 62 yX1_worth, Cond.instanceMethod yX1_worth, Cond.selects RX1 yX1_worth yX1_worth, Cond.code yX1_worth cX1_worth 2 (some .int), Cond.methodLink RX1 105 yX1_coinsBehindAll, Cond.instanceMethod yX1_coinsBehindAll]
def wsL_law0_r17 : List Cond := [Cond.selects RX1 yX1_coinsBehindAll yX1_coinsBehindAll, Cond.code yX1_coinsBehindAll cX1_coinsBehindAll 2 (some .int), Cond.methodLink RL 125 yX2_worth, Cond.instanceMethod yX2_worth, Cond.selects RX2 yX2_worth yX2_worth, Cond.code yX2_worth cX2_worth 2 (some .int), Cond.methodLink RX2 124 yX2_coinsNow, Cond.instanceMethod yX2_coinsNow, Cond.selects RX2 yX2_coinsNow yX2_coinsNow, Cond.code yX2_coinsNow cX2_coinsNow 1 (some .int), Cond.methodLink RX2 127 yX2_coinsOther, Cond.instanceMethod yX2_coinsOther, Cond.selects RX2 yX2_coinsOther yX2_coinsOther, Cond.code yX2_coinsOther cX2_coinsOther 3 (some .int), Cond.methodLink RL 126 yX1_best, Cond.instanceMethod yX1_best, Cond.selects RX1 yX1_best yX1_best, Cond.code yX1_best cX1_best 5 (some .int), Cond.methodLink RL 129 yX2_best, Cond.instanceMethod yX2_best, Cond.selects RX2 yX2_best yX2_best, Cond.code yX2_best cX2_best 5 (some .int), Cond.methodLink RL 130 yL_would, Cond.static yL_would]
def wsL_law0_r18 : List Cond := [Cond.codeWith yL_would cL_would 5 (some .int) [(0, 10, 13, 13), (0, 10, 17, 15)], Cond.methodLink RL 65 yX1_would, Cond.instanceMethod yX1_would, Cond.selects RX1 yX1_would yX1_would, Cond.code yX1_would cX1_would 3 (some .int), Cond.methodLink RL 132 yX2_would, Cond.instanceMethod yX2_would, Cond.selects RX2 yX2_would yX2_would, Cond.code yX2_would cX2_would 3 (some .int), Cond.methodLink RL 133 yX1_mean, Cond.instanceMethod yX1_mean, Cond.selects RX1 yX1_mean yX1_mean, Cond.code yX1_mean cX1_mean 1 (some .double), Cond.methodLink RL 137 yX2_mean, Cond.instanceMethod yX2_mean, Cond.selects RX2 yX2_mean yX2_mean, Cond.code yX2_mean cX2_mean 1 (some .double), Cond.methodLink RL 138 yX1_digest, Cond.instanceMethod yX1_digest, Cond.selects RX1 yX1_digest yX1_digest, Cond.code yX1_digest cX1_digest 5 (some .long), Cond.constantLong RX1 115 (1229), Cond.constantLong RX1 117 (31), Cond.methodLink RX1 119 yX1_count]
def wsL_law0_r19 : List Cond := [Cond.methodLink RX1 122 yX1_entry, Cond.methodLink RX1 126 yX1_behind, Cond.methodLink RX1 129 yX1_trust, Cond.methodLink RL 142 yX2_digest, Cond.instanceMethod yX2_digest, Cond.selects RX2 yX2_digest yX2_digest, Cond.code yX2_digest cX2_digest 5 (some .long), Cond.constantLong RX2 130 (1229), Cond.constantLong RX2 132 (31)]
def wsL_law0 : List Cond := (wsL_law0_r1 ++ (wsL_law0_r2 ++ (wsL_law0_r3 ++ (wsL_law0_r4 ++ (wsL_law0_r5 ++ (wsL_law0_r6 ++ (wsL_law0_r7 ++ (wsL_law0_r8 ++ (wsL_law0_r9 ++ (wsL_law0_r10 ++ (wsL_law0_r11 ++ (wsL_law0_r12 ++ (wsL_law0_r13 ++ (wsL_law0_r14 ++ (wsL_law0_r15 ++ (wsL_law0_r16 ++ (wsL_law0_r17 ++ (wsL_law0_r18 ++ wsL_law0_r19)))))))))))))))))) ++ wsX10 ++ wsX20 ++ wsX00 ++ ([] : List Cond)
def wsL_law : List Cond := wsL_law0 ++ (vx_atS RX1 136 "java/lang/IndexOutOfBoundsException" ["java/lang/RuntimeException", "java/lang/Exception"]).filter goodWord ++ (vx_atS RX1 141 "java/lang/IllegalArgumentException" ["java/lang/RuntimeException", "java/lang/Exception"]).filter goodWord ++ (vx_atS RX1 61 "java/lang/IllegalStateException" ["java/lang/RuntimeException", "java/lang/Exception"]).filter goodWord
set_option maxRecDepth 20000 in
theorem wsL_law_in0 : ∀ w ∈ wsL_law0, w ∈ lw_tbl := fun w h => (goodIn_p wsL_law0 [51, 54, 59, 464, 335, 221, 305, 525, 528, 532, 521, 343, 347, 536, 540, 370, 544, 377, 548, 384, 552, 391, 556, 398, 560, 405, 564, 568, 412, 416, 419, 572, 576, 426, 580, 293, 297, 142, 146, 150, 185, 154, 158, 162, 166, 170, 174, 178, 182, 188, 192, 196, 200, 584, 588, 592, 596, 600, 604, 608, 612, 616, 302, 208, 622, 626, 325, 630, 218, 634, 638, 450, 138, 642, 646, 650, 134, 654, 457, 658, 204, 662, 212, 666] (by decide +kernel) (by decide +kernel) w h).1
theorem wsL_law_x0 : ∀ w ∈ (vx_atS RX1 136 "java/lang/IndexOutOfBoundsException" ["java/lang/RuntimeException", "java/lang/Exception"]).filter goodWord, w ∈ lw_tbl := by decide +kernel
theorem wsL_law_x1 : ∀ w ∈ (vx_atS RX1 141 "java/lang/IllegalArgumentException" ["java/lang/RuntimeException", "java/lang/Exception"]).filter goodWord, w ∈ lw_tbl := by decide +kernel
theorem wsL_law_x2 : ∀ w ∈ (vx_atS RX1 61 "java/lang/IllegalStateException" ["java/lang/RuntimeException", "java/lang/Exception"]).filter goodWord, w ∈ lw_tbl := by decide +kernel
theorem wsL_law_in : ∀ w ∈ wsL_law, w ∈ lw_tbl := fun w h => (List.mem_append.mp h).elim (fun h => (List.mem_append.mp h).elim (fun h => (List.mem_append.mp h).elim (fun h => wsL_law_in0 w h) (fun h => wsL_law_x0 w h)) (fun h => wsL_law_x1 w h)) (fun h => wsL_law_x2 w h)
theorem inlX0 : ∀ w ∈ wsX00, w ∈ wsL_law := fun _ h => List.mem_append_left _ (List.mem_append_left _ (List.mem_append_left _ (List.mem_append_left _ (List.mem_append_right _ h))))
theorem inX0 : ∀ w ∈ wsX00, w ∈ lw_tbl := fun w h => wsL_law_in w (inlX0 w h)
theorem inlX1 : ∀ w ∈ wsX10, w ∈ wsL_law := fun _ h => List.mem_append_left _ (List.mem_append_left _ (List.mem_append_left _ (List.mem_append_left _ (List.mem_append_left _ (List.mem_append_left _ (List.mem_append_right _ h))))))
theorem inX1 : ∀ w ∈ wsX10, w ∈ lw_tbl := fun w h => wsL_law_in w (inlX1 w h)
theorem inlX2 : ∀ w ∈ wsX20, w ∈ wsL_law := fun _ h => List.mem_append_left _ (List.mem_append_left _ (List.mem_append_left _ (List.mem_append_left _ (List.mem_append_left _ (List.mem_append_right _ h)))))
theorem inX2 : ∀ w ∈ wsX20, w ∈ lw_tbl := fun w h => wsL_law_in w (inlX2 w h)
theorem inJ9 : ∀ w ∈ wsJ90, w ∈ lw_tbl := by decide +kernel
theorem inJ0 : ∀ w ∈ wsJ00, w ∈ lw_tbl := by decide +kernel
theorem dX0_init_0 : decode cX0_init 0 = .ok (.aload_n 0, 1) := by decide +kernel
theorem dX0_init_1 : decode cX0_init 1 = .ok (.invokespecial 3, 3) := by decide +kernel
theorem dX0_init_4 : decode cX0_init 4 = .ok (.aload_n 0, 1) := by decide +kernel
theorem dX0_init_5 : decode cX0_init 5 = .ok (.bipush 6, 2) := by decide +kernel
theorem dX0_init_7 : decode cX0_init 7 = .ok (.newarray .int, 2) := by decide +kernel
theorem dX0_init_9 : decode cX0_init 9 = .ok (.putfield 9, 3) := by decide +kernel
theorem dX0_init_12 : decode cX0_init 12 = .ok (.aload_n 0, 1) := by decide +kernel
theorem dX0_init_13 : decode cX0_init 13 = .ok (.aload_n 1, 1) := by decide +kernel
theorem dX0_init_14 : decode cX0_init 14 = .ok (.putfield 15, 3) := by decide +kernel
theorem dX0_init_17 : decode cX0_init 17 = .ok (.aload_n 0, 1) := by decide +kernel
theorem dX0_init_18 : decode cX0_init 18 = .ok (.aload_n 2, 1) := by decide +kernel
theorem dX0_init_19 : decode cX0_init 19 = .ok (.putfield 18, 3) := by decide +kernel
theorem dX0_init_22 : decode cX0_init 22 = .ok (.return_, 1) := by decide +kernel
theorem dX0_begin_0 : decode cX0_begin 0 = .ok (.aload_n 0, 1) := by decide +kernel
theorem dX0_begin_1 : decode cX0_begin 1 = .ok (.bipush 10, 2) := by decide +kernel
theorem dX0_begin_3 : decode cX0_begin 3 = .ok (.putfield 21, 3) := by decide +kernel
theorem dX0_begin_6 : decode cX0_begin 6 = .ok (.aload_n 0, 1) := by decide +kernel
theorem dX0_begin_7 : decode cX0_begin 7 = .ok (.iconst 0, 1) := by decide +kernel
theorem dX0_begin_8 : decode cX0_begin 8 = .ok (.putfield 25, 3) := by decide +kernel
theorem dX0_begin_11 : decode cX0_begin 11 = .ok (.aload_n 0, 1) := by decide +kernel
theorem dX0_begin_12 : decode cX0_begin 12 = .ok (.iconst 0, 1) := by decide +kernel
theorem dX0_begin_13 : decode cX0_begin 13 = .ok (.putfield 28, 3) := by decide +kernel
theorem dX0_begin_16 : decode cX0_begin 16 = .ok (.aload_n 0, 1) := by decide +kernel
theorem dX0_begin_17 : decode cX0_begin 17 = .ok (.iconst 0, 1) := by decide +kernel
theorem dX0_begin_18 : decode cX0_begin 18 = .ok (.putfield 31, 3) := by decide +kernel
theorem dX0_begin_21 : decode cX0_begin 21 = .ok (.aload_n 0, 1) := by decide +kernel
theorem dX0_begin_22 : decode cX0_begin 22 = .ok (.iconst 0, 1) := by decide +kernel
theorem dX0_begin_23 : decode cX0_begin 23 = .ok (.putfield 34, 3) := by decide +kernel
theorem dX0_begin_26 : decode cX0_begin 26 = .ok (.aload_n 0, 1) := by decide +kernel
theorem dX0_begin_27 : decode cX0_begin 27 = .ok (.iconst 0, 1) := by decide +kernel
theorem dX0_begin_28 : decode cX0_begin 28 = .ok (.putfield 37, 3) := by decide +kernel
theorem dX0_begin_31 : decode cX0_begin 31 = .ok (.aload_n 0, 1) := by decide +kernel
theorem dX0_begin_32 : decode cX0_begin 32 = .ok (.iconst (-1), 1) := by decide +kernel
theorem dX0_begin_33 : decode cX0_begin 33 = .ok (.putfield 40, 3) := by decide +kernel
theorem dX0_begin_36 : decode cX0_begin 36 = .ok (.aload_n 0, 1) := by decide +kernel
theorem dX0_begin_37 : decode cX0_begin 37 = .ok (.bipush 10, 2) := by decide +kernel
theorem dX0_begin_39 : decode cX0_begin 39 = .ok (.putfield 43, 3) := by decide +kernel
theorem dX0_begin_42 : decode cX0_begin 42 = .ok (.return_, 1) := by decide +kernel
set_option maxRecDepth 20000 in
theorem ggX0_reckonEntry_X0_happens : GoodIn wsX0_reckonEntry wsX0_happens := goodIn_r _ [14, 15, 16, 17, 18, 13, 19, 20, 21, 22, 23, 24, 25, 3, 26, 27, 28, 29, 30, 31, 32, 33, 34, 35, 36, 37, 38, 39, 40, 41, 42, 43, 44, 45, 46, 47, 48, 4, 5, 6, 7, 49, 50, 51, 52, 53, 54, 55, 56, 57, 58, 59, 60, 61, 62, 63, 64, 65, 66, 67, 68, 69, 70, 71, 72, 73, 74] (by decide +kernel) (by decide +kernel)
set_option maxRecDepth 20000 in
theorem gX0_reckonEntry_X0_happens : GoodIn wsX0_reckonEntry (wsV RX0 46 RX0 yX0_happens wsX0_happens) := goodIn_app (goodIn_of _ (by decide +kernel)) ggX0_reckonEntry_X0_happens
theorem dX0_reckonEntry_0 : decode cX0_reckonEntry 0 = .ok (.aload_n 0, 1) := by decide +kernel
theorem dX0_reckonEntry_1 : decode cX0_reckonEntry 1 = .ok (.iload_n 2, 1) := by decide +kernel
theorem dX0_reckonEntry_2 : decode cX0_reckonEntry 2 = .ok (.iload_n 3, 1) := by decide +kernel
theorem dX0_reckonEntry_3 : decode cX0_reckonEntry 3 = .ok (.iload 4, 2) := by decide +kernel
theorem dX0_reckonEntry_5 : decode cX0_reckonEntry 5 = .ok (.invokevirtual 46, 3) := by decide +kernel
theorem dX0_reckonEntry_8 : decode cX0_reckonEntry 8 = .ok (.ifCond .eq 29, 3) := by decide +kernel
theorem dX0_reckonEntry_11 : decode cX0_reckonEntry 11 = .ok (.aload_n 0, 1) := by decide +kernel
theorem dX0_reckonEntry_12 : decode cX0_reckonEntry 12 = .ok (.dup, 1) := by decide +kernel
theorem dX0_reckonEntry_13 : decode cX0_reckonEntry 13 = .ok (.getfield 34, 3) := by decide +kernel
theorem dX0_reckonEntry_16 : decode cX0_reckonEntry 16 = .ok (.iconst 1, 1) := by decide +kernel
theorem dX0_reckonEntry_17 : decode cX0_reckonEntry 17 = .ok (.iadd, 1) := by decide +kernel
theorem dX0_reckonEntry_18 : decode cX0_reckonEntry 18 = .ok (.putfield 34, 3) := by decide +kernel
theorem dX0_reckonEntry_21 : decode cX0_reckonEntry 21 = .ok (.aload_n 0, 1) := by decide +kernel
theorem dX0_reckonEntry_22 : decode cX0_reckonEntry 22 = .ok (.aload_n 0, 1) := by decide +kernel
theorem dX0_reckonEntry_23 : decode cX0_reckonEntry 23 = .ok (.getfield 43, 3) := by decide +kernel
theorem dX0_reckonEntry_26 : decode cX0_reckonEntry 26 = .ok (.aload_n 0, 1) := by decide +kernel
theorem dX0_reckonEntry_27 : decode cX0_reckonEntry 27 = .ok (.getfield 21, 3) := by decide +kernel
theorem dX0_reckonEntry_30 : decode cX0_reckonEntry 30 = .ok (.invokestatic 50, 3) := by decide +kernel
theorem dX0_reckonEntry_33 : decode cX0_reckonEntry 33 = .ok (.putfield 43, 3) := by decide +kernel
theorem dX0_reckonEntry_36 : decode cX0_reckonEntry 36 = .ok (.return_, 1) := by decide +kernel
theorem dX0_reckonEntry_37 : decode cX0_reckonEntry 37 = .ok (.aload_n 0, 1) := by decide +kernel
theorem dX0_reckonEntry_38 : decode cX0_reckonEntry 38 = .ok (.getfield 37, 3) := by decide +kernel
theorem dX0_reckonEntry_41 : decode cX0_reckonEntry 41 = .ok (.ifCond .ne 8, 3) := by decide +kernel
theorem dX0_reckonEntry_44 : decode cX0_reckonEntry 44 = .ok (.aload_n 0, 1) := by decide +kernel
theorem dX0_reckonEntry_45 : decode cX0_reckonEntry 45 = .ok (.iload_n 1, 1) := by decide +kernel
theorem dX0_reckonEntry_46 : decode cX0_reckonEntry 46 = .ok (.putfield 40, 3) := by decide +kernel
theorem dX0_reckonEntry_49 : decode cX0_reckonEntry 49 = .ok (.aload_n 0, 1) := by decide +kernel
theorem dX0_reckonEntry_50 : decode cX0_reckonEntry 50 = .ok (.dup, 1) := by decide +kernel
theorem dX0_reckonEntry_51 : decode cX0_reckonEntry 51 = .ok (.getfield 37, 3) := by decide +kernel
theorem dX0_reckonEntry_54 : decode cX0_reckonEntry 54 = .ok (.iconst 1, 1) := by decide +kernel
theorem dX0_reckonEntry_55 : decode cX0_reckonEntry 55 = .ok (.iadd, 1) := by decide +kernel
theorem dX0_reckonEntry_56 : decode cX0_reckonEntry 56 = .ok (.putfield 37, 3) := by decide +kernel
theorem dX0_reckonEntry_59 : decode cX0_reckonEntry 59 = .ok (.return_, 1) := by decide +kernel
set_option maxRecDepth 20000 in
theorem ggX0_happens_X0_happensJoin : GoodIn wsX0_happens wsX0_happensJoin := goodIn_r _ [6, 7, 8, 56, 57, 58, 59, 60, 61, 62, 63, 64, 65, 66] (by decide +kernel) (by decide +kernel)
set_option maxRecDepth 20000 in
theorem gX0_happens_X0_happensJoin : GoodIn wsX0_happens (wsV RX0 56 RX0 yX0_happensJoin wsX0_happensJoin) := goodIn_app (goodIn_of _ (by decide +kernel)) ggX0_happens_X0_happensJoin
set_option maxRecDepth 20000 in
theorem ggX0_happens_X0_happensToss : GoodIn wsX0_happens wsX0_happensToss := goodIn_r _ [12, 13, 14, 15, 16, 5, 17, 8, 18, 1, 19, 20, 21, 22, 7, 23, 24, 25, 26, 27, 28, 29, 30, 31, 32, 33, 34, 35, 36, 37, 38, 39, 40, 41, 42, 43, 56, 57, 58, 59, 60, 61, 62, 63, 64, 65, 66] (by decide +kernel) (by decide +kernel)
set_option maxRecDepth 20000 in
theorem gX0_happens_X0_happensToss : GoodIn wsX0_happens (wsV RX0 60 RX0 yX0_happensToss wsX0_happensToss) := goodIn_app (goodIn_of _ (by decide +kernel)) ggX0_happens_X0_happensToss
set_option maxRecDepth 20000 in
theorem ggX0_happens_X0_happensRest : GoodIn wsX0_happens wsX0_happensRest := goodIn_r _ [47, 19, 20, 21, 5, 22, 7, 33, 34, 35, 36, 8, 37, 38, 39, 40, 41, 42, 43, 56, 57, 58, 59, 60, 61, 62, 63, 64, 65, 66] (by decide +kernel) (by decide +kernel)
set_option maxRecDepth 20000 in
theorem gX0_happens_X0_happensRest : GoodIn wsX0_happens (wsV RX0 64 RX0 yX0_happensRest wsX0_happensRest) := goodIn_app (goodIn_of _ (by decide +kernel)) ggX0_happens_X0_happensRest
set_option maxRecDepth 20000 in
theorem ggX0_happens_X0_happensPay : GoodIn wsX0_happens wsX0_happensPay := goodIn_r _ [51, 13, 19, 20, 21, 5, 22, 7, 33, 34, 35, 36, 8, 37, 38, 39, 40, 41, 42, 43, 56, 57, 58, 59, 60, 61, 62, 63, 64, 65, 66] (by decide +kernel) (by decide +kernel)
set_option maxRecDepth 20000 in
theorem gX0_happens_X0_happensPay : GoodIn wsX0_happens (wsV RX0 67 RX0 yX0_happensPay wsX0_happensPay) := goodIn_app (goodIn_of _ (by decide +kernel)) ggX0_happens_X0_happensPay
set_option maxRecDepth 20000 in
theorem ggX0_happens_X0_happensBuy : GoodIn wsX0_happens wsX0_happensBuy := goodIn_r _ [55, 13, 32, 56, 57, 58, 59, 60, 61, 62, 63, 64, 65, 66] (by decide +kernel) (by decide +kernel)
set_option maxRecDepth 20000 in
theorem gX0_happens_X0_happensBuy : GoodIn wsX0_happens (wsV RX0 70 RX0 yX0_happensBuy wsX0_happensBuy) := goodIn_app (goodIn_of _ (by decide +kernel)) ggX0_happens_X0_happensBuy
theorem dX0_happens_0 : decode cX0_happens 0 = .ok (.iload_n 1, 1) := by decide +kernel
theorem dX0_happens_1 : decode cX0_happens 1 = .ok (.tableswitch 68 0 4 #[35, 41, 48, 54, 61], 35) := by decide +kernel
theorem dX0_happens_36 : decode cX0_happens 36 = .ok (.aload_n 0, 1) := by decide +kernel
theorem dX0_happens_37 : decode cX0_happens 37 = .ok (.iload_n 2, 1) := by decide +kernel
theorem dX0_happens_38 : decode cX0_happens 38 = .ok (.invokevirtual 56, 3) := by decide +kernel
theorem dX0_happens_41 : decode cX0_happens 41 = .ok (.ireturn, 1) := by decide +kernel
theorem dX0_happens_42 : decode cX0_happens 42 = .ok (.aload_n 0, 1) := by decide +kernel
theorem dX0_happens_43 : decode cX0_happens 43 = .ok (.iload_n 2, 1) := by decide +kernel
theorem dX0_happens_44 : decode cX0_happens 44 = .ok (.iload_n 3, 1) := by decide +kernel
theorem dX0_happens_45 : decode cX0_happens 45 = .ok (.invokevirtual 60, 3) := by decide +kernel
theorem dX0_happens_48 : decode cX0_happens 48 = .ok (.ireturn, 1) := by decide +kernel
theorem dX0_happens_49 : decode cX0_happens 49 = .ok (.aload_n 0, 1) := by decide +kernel
theorem dX0_happens_50 : decode cX0_happens 50 = .ok (.iload_n 2, 1) := by decide +kernel
theorem dX0_happens_51 : decode cX0_happens 51 = .ok (.invokevirtual 64, 3) := by decide +kernel
theorem dX0_happens_54 : decode cX0_happens 54 = .ok (.ireturn, 1) := by decide +kernel
theorem dX0_happens_55 : decode cX0_happens 55 = .ok (.aload_n 0, 1) := by decide +kernel
theorem dX0_happens_56 : decode cX0_happens 56 = .ok (.iload_n 2, 1) := by decide +kernel
theorem dX0_happens_57 : decode cX0_happens 57 = .ok (.putfield 28, 3) := by decide +kernel
theorem dX0_happens_60 : decode cX0_happens 60 = .ok (.iconst 1, 1) := by decide +kernel
theorem dX0_happens_61 : decode cX0_happens 61 = .ok (.ireturn, 1) := by decide +kernel
theorem dX0_happens_62 : decode cX0_happens 62 = .ok (.aload_n 0, 1) := by decide +kernel
theorem dX0_happens_63 : decode cX0_happens 63 = .ok (.iload_n 2, 1) := by decide +kernel
theorem dX0_happens_64 : decode cX0_happens 64 = .ok (.iload_n 3, 1) := by decide +kernel
theorem dX0_happens_65 : decode cX0_happens 65 = .ok (.invokevirtual 67, 3) := by decide +kernel
theorem dX0_happens_68 : decode cX0_happens 68 = .ok (.ireturn, 1) := by decide +kernel
theorem dX0_happens_69 : decode cX0_happens 69 = .ok (.aload_n 0, 1) := by decide +kernel
theorem dX0_happens_70 : decode cX0_happens 70 = .ok (.iload_n 2, 1) := by decide +kernel
theorem dX0_happens_71 : decode cX0_happens 71 = .ok (.invokevirtual 70, 3) := by decide +kernel
theorem dX0_happens_74 : decode cX0_happens 74 = .ok (.ireturn, 1) := by decide +kernel
theorem dX0_happensJoin_0 : decode cX0_happensJoin 0 = .ok (.aload_n 0, 1) := by decide +kernel
theorem dX0_happensJoin_1 : decode cX0_happensJoin 1 = .ok (.getfield 31, 3) := by decide +kernel
theorem dX0_happensJoin_4 : decode cX0_happensJoin 4 = .ok (.bipush 6, 2) := by decide +kernel
theorem dX0_happensJoin_6 : decode cX0_happensJoin 6 = .ok (.if_icmp .lt 5, 3) := by decide +kernel
theorem dX0_happensJoin_9 : decode cX0_happensJoin 9 = .ok (.iconst 0, 1) := by decide +kernel
theorem dX0_happensJoin_10 : decode cX0_happensJoin 10 = .ok (.ireturn, 1) := by decide +kernel
theorem dX0_happensJoin_11 : decode cX0_happensJoin 11 = .ok (.aload_n 0, 1) := by decide +kernel
theorem dX0_happensJoin_12 : decode cX0_happensJoin 12 = .ok (.getfield 9, 3) := by decide +kernel
theorem dX0_happensJoin_15 : decode cX0_happensJoin 15 = .ok (.aload_n 0, 1) := by decide +kernel
theorem dX0_happensJoin_16 : decode cX0_happensJoin 16 = .ok (.getfield 31, 3) := by decide +kernel
theorem dX0_happensJoin_19 : decode cX0_happensJoin 19 = .ok (.iload_n 1, 1) := by decide +kernel
theorem dX0_happensJoin_20 : decode cX0_happensJoin 20 = .ok (.iastore, 1) := by decide +kernel
theorem dX0_happensJoin_21 : decode cX0_happensJoin 21 = .ok (.aload_n 0, 1) := by decide +kernel
theorem dX0_happensJoin_22 : decode cX0_happensJoin 22 = .ok (.dup, 1) := by decide +kernel
theorem dX0_happensJoin_23 : decode cX0_happensJoin 23 = .ok (.getfield 31, 3) := by decide +kernel
theorem dX0_happensJoin_26 : decode cX0_happensJoin 26 = .ok (.iconst 1, 1) := by decide +kernel
theorem dX0_happensJoin_27 : decode cX0_happensJoin 27 = .ok (.iadd, 1) := by decide +kernel
theorem dX0_happensJoin_28 : decode cX0_happensJoin 28 = .ok (.putfield 31, 3) := by decide +kernel
theorem dX0_happensJoin_31 : decode cX0_happensJoin 31 = .ok (.iconst 1, 1) := by decide +kernel
theorem dX0_happensJoin_32 : decode cX0_happensJoin 32 = .ok (.ireturn, 1) := by decide +kernel
set_option maxRecDepth 20000 in
theorem ggX0_happensToss_X0_standsFor : GoodIn wsX0_happensToss wsX0_standsFor := goodIn_r _ [6, 7, 8, 9, 10, 11, 12, 5, 13, 14, 36, 37, 38, 39, 40, 41, 42, 43, 44, 45, 46] (by decide +kernel) (by decide +kernel)
set_option maxRecDepth 20000 in
theorem gX0_happensToss_X0_standsFor : GoodIn wsX0_happensToss (wsV RX0 73 RX0 yX0_standsFor wsX0_standsFor) := goodIn_app (goodIn_of _ (by decide +kernel)) ggX0_happensToss_X0_standsFor
set_option maxRecDepth 20000 in
theorem ggX0_happensToss_X0_takings : GoodIn wsX0_happensToss wsX0_takings := goodIn_r _ [18, 19, 9, 36, 37, 38, 39, 40, 41, 42, 43, 44, 45, 46] (by decide +kernel) (by decide +kernel)
set_option maxRecDepth 20000 in
theorem gX0_happensToss_X0_takings : GoodIn wsX0_happensToss (wsV RX0 76 RX0 yX0_takings wsX0_takings) := goodIn_app (goodIn_of _ (by decide +kernel)) ggX0_happensToss_X0_takings
set_option maxRecDepth 20000 in
theorem ggX0_happensToss_X0_scratch : GoodIn wsX0_happensToss wsX0_scratch := goodIn_r _ [23, 24, 25, 26, 27, 5, 28, 7, 29, 30, 31, 32, 33, 34, 35, 36, 37, 38, 39, 40, 41, 42, 43, 44, 45, 46] (by decide +kernel) (by decide +kernel)
set_option maxRecDepth 20000 in
theorem gX0_happensToss_X0_scratch : GoodIn wsX0_happensToss (wsV RX0 80 RX0 yX0_scratch wsX0_scratch) := goodIn_app (goodIn_of _ (by decide +kernel)) ggX0_happensToss_X0_scratch
set_option maxRecDepth 20000 in
theorem ggX0_happensToss_X0_addTrust : GoodIn wsX0_happensToss wsX0_addTrust := goodIn_r _ [28, 7, 29, 30, 31, 32, 33, 34, 35, 36, 37, 38, 39, 40, 41, 42, 43, 44, 45, 46] (by decide +kernel) (by decide +kernel)
set_option maxRecDepth 20000 in
theorem gX0_happensToss_X0_addTrust : GoodIn wsX0_happensToss (wsV RX0 84 RX0 yX0_addTrust wsX0_addTrust) := goodIn_app (goodIn_of _ (by decide +kernel)) ggX0_happensToss_X0_addTrust
theorem dX0_happensToss_0 : decode cX0_happensToss 0 = .ok (.aload_n 0, 1) := by decide +kernel
theorem dX0_happensToss_1 : decode cX0_happensToss 1 = .ok (.iload_n 1, 1) := by decide +kernel
theorem dX0_happensToss_2 : decode cX0_happensToss 2 = .ok (.invokevirtual 73, 3) := by decide +kernel
theorem dX0_happensToss_5 : decode cX0_happensToss 5 = .ok (.ifCond .ne 5, 3) := by decide +kernel
theorem dX0_happensToss_8 : decode cX0_happensToss 8 = .ok (.iconst 0, 1) := by decide +kernel
theorem dX0_happensToss_9 : decode cX0_happensToss 9 = .ok (.ireturn, 1) := by decide +kernel
theorem dX0_happensToss_10 : decode cX0_happensToss 10 = .ok (.aload_n 0, 1) := by decide +kernel
theorem dX0_happensToss_11 : decode cX0_happensToss 11 = .ok (.dup, 1) := by decide +kernel
theorem dX0_happensToss_12 : decode cX0_happensToss 12 = .ok (.getfield 21, 3) := by decide +kernel
theorem dX0_happensToss_15 : decode cX0_happensToss 15 = .ok (.aload_n 0, 1) := by decide +kernel
theorem dX0_happensToss_16 : decode cX0_happensToss 16 = .ok (.iload_n 2, 1) := by decide +kernel
theorem dX0_happensToss_17 : decode cX0_happensToss 17 = .ok (.invokevirtual 76, 3) := by decide +kernel
theorem dX0_happensToss_20 : decode cX0_happensToss 20 = .ok (.iadd, 1) := by decide +kernel
theorem dX0_happensToss_21 : decode cX0_happensToss 21 = .ok (.putfield 21, 3) := by decide +kernel
theorem dX0_happensToss_24 : decode cX0_happensToss 24 = .ok (.iload_n 2, 1) := by decide +kernel
theorem dX0_happensToss_25 : decode cX0_happensToss 25 = .ok (.ifCond .ne 11, 3) := by decide +kernel
theorem dX0_happensToss_28 : decode cX0_happensToss 28 = .ok (.aload_n 0, 1) := by decide +kernel
theorem dX0_happensToss_29 : decode cX0_happensToss 29 = .ok (.iload_n 1, 1) := by decide +kernel
theorem dX0_happensToss_30 : decode cX0_happensToss 30 = .ok (.invokevirtual 80, 3) := by decide +kernel
theorem dX0_happensToss_33 : decode cX0_happensToss 33 = .ok (.goto 39, 3) := by decide +kernel
theorem dX0_happensToss_36 : decode cX0_happensToss 36 = .ok (.iload_n 2, 1) := by decide +kernel
theorem dX0_happensToss_37 : decode cX0_happensToss 37 = .ok (.iconst 3, 1) := by decide +kernel
theorem dX0_happensToss_38 : decode cX0_happensToss 38 = .ok (.if_icmp .gt 13, 3) := by decide +kernel
theorem dX0_happensToss_41 : decode cX0_happensToss 41 = .ok (.aload_n 0, 1) := by decide +kernel
theorem dX0_happensToss_42 : decode cX0_happensToss 42 = .ok (.iload_n 1, 1) := by decide +kernel
theorem dX0_happensToss_43 : decode cX0_happensToss 43 = .ok (.bipush (-4), 2) := by decide +kernel
theorem dX0_happensToss_45 : decode cX0_happensToss 45 = .ok (.invokevirtual 84, 3) := by decide +kernel
theorem dX0_happensToss_48 : decode cX0_happensToss 48 = .ok (.goto 24, 3) := by decide +kernel
theorem dX0_happensToss_51 : decode cX0_happensToss 51 = .ok (.iload_n 2, 1) := by decide +kernel
theorem dX0_happensToss_52 : decode cX0_happensToss 52 = .ok (.bipush 9, 2) := by decide +kernel
theorem dX0_happensToss_54 : decode cX0_happensToss 54 = .ok (.if_icmp .gt 12, 3) := by decide +kernel
theorem dX0_happensToss_57 : decode cX0_happensToss 57 = .ok (.aload_n 0, 1) := by decide +kernel
theorem dX0_happensToss_58 : decode cX0_happensToss 58 = .ok (.iload_n 1, 1) := by decide +kernel
theorem dX0_happensToss_59 : decode cX0_happensToss 59 = .ok (.iconst 1, 1) := by decide +kernel
theorem dX0_happensToss_60 : decode cX0_happensToss 60 = .ok (.invokevirtual 84, 3) := by decide +kernel
theorem dX0_happensToss_63 : decode cX0_happensToss 63 = .ok (.goto 9, 3) := by decide +kernel
theorem dX0_happensToss_66 : decode cX0_happensToss 66 = .ok (.aload_n 0, 1) := by decide +kernel
theorem dX0_happensToss_67 : decode cX0_happensToss 67 = .ok (.iload_n 1, 1) := by decide +kernel
theorem dX0_happensToss_68 : decode cX0_happensToss 68 = .ok (.iconst 3, 1) := by decide +kernel
theorem dX0_happensToss_69 : decode cX0_happensToss 69 = .ok (.invokevirtual 84, 3) := by decide +kernel
theorem dX0_happensToss_72 : decode cX0_happensToss 72 = .ok (.iconst 1, 1) := by decide +kernel
theorem dX0_happensToss_73 : decode cX0_happensToss 73 = .ok (.ireturn, 1) := by decide +kernel
set_option maxRecDepth 20000 in
theorem ggX0_scratch_X0_addTrust : GoodIn wsX0_scratch wsX0_addTrust := goodIn_r _ [6, 7, 8, 9, 10, 11, 12, 13, 14, 15, 16, 17, 18, 19, 20, 21, 22, 23, 24, 25] (by decide +kernel) (by decide +kernel)
set_option maxRecDepth 20000 in
theorem gX0_scratch_X0_addTrust : GoodIn wsX0_scratch (wsV RX0 84 RX0 yX0_addTrust wsX0_addTrust) := goodIn_app (goodIn_of _ (by decide +kernel)) ggX0_scratch_X0_addTrust
theorem dX0_scratch_0 : decode cX0_scratch 0 = .ok (.aload_n 0, 1) := by decide +kernel
theorem dX0_scratch_1 : decode cX0_scratch 1 = .ok (.getfield 25, 3) := by decide +kernel
theorem dX0_scratch_4 : decode cX0_scratch 4 = .ok (.ifCond .le 23, 3) := by decide +kernel
theorem dX0_scratch_7 : decode cX0_scratch 7 = .ok (.aload_n 0, 1) := by decide +kernel
theorem dX0_scratch_8 : decode cX0_scratch 8 = .ok (.dup, 1) := by decide +kernel
theorem dX0_scratch_9 : decode cX0_scratch 9 = .ok (.getfield 25, 3) := by decide +kernel
theorem dX0_scratch_12 : decode cX0_scratch 12 = .ok (.iconst 1, 1) := by decide +kernel
theorem dX0_scratch_13 : decode cX0_scratch 13 = .ok (.isub, 1) := by decide +kernel
theorem dX0_scratch_14 : decode cX0_scratch 14 = .ok (.putfield 25, 3) := by decide +kernel
theorem dX0_scratch_17 : decode cX0_scratch 17 = .ok (.aload_n 0, 1) := by decide +kernel
theorem dX0_scratch_18 : decode cX0_scratch 18 = .ok (.iload_n 1, 1) := by decide +kernel
theorem dX0_scratch_19 : decode cX0_scratch 19 = .ok (.bipush (-30), 2) := by decide +kernel
theorem dX0_scratch_21 : decode cX0_scratch 21 = .ok (.invokevirtual 84, 3) := by decide +kernel
theorem dX0_scratch_24 : decode cX0_scratch 24 = .ok (.goto 10, 3) := by decide +kernel
theorem dX0_scratch_27 : decode cX0_scratch 27 = .ok (.aload_n 0, 1) := by decide +kernel
theorem dX0_scratch_28 : decode cX0_scratch 28 = .ok (.iload_n 1, 1) := by decide +kernel
theorem dX0_scratch_29 : decode cX0_scratch 29 = .ok (.bipush (-60), 2) := by decide +kernel
theorem dX0_scratch_31 : decode cX0_scratch 31 = .ok (.invokevirtual 84, 3) := by decide +kernel
theorem dX0_scratch_34 : decode cX0_scratch 34 = .ok (.return_, 1) := by decide +kernel
set_option maxRecDepth 20000 in
theorem ggX0_happensRest_X0_hasJoined : GoodIn wsX0_happensRest wsX0_hasJoined := goodIn_r _ [5, 6, 19, 20, 21, 22, 23, 24, 25, 26, 27, 28, 29] (by decide +kernel) (by decide +kernel)
set_option maxRecDepth 20000 in
theorem gX0_happensRest_X0_hasJoined : GoodIn wsX0_happensRest (wsV RX0 88 RX0 yX0_hasJoined wsX0_hasJoined) := goodIn_app (goodIn_of _ (by decide +kernel)) ggX0_happensRest_X0_hasJoined
set_option maxRecDepth 20000 in
theorem ggX0_happensRest_X0_addTrust : GoodIn wsX0_happensRest wsX0_addTrust := goodIn_r _ [10, 11, 12, 13, 14, 15, 16, 17, 18, 19, 20, 21, 22, 23, 24, 25, 26, 27, 28, 29] (by decide +kernel) (by decide +kernel)
set_option maxRecDepth 20000 in
theorem gX0_happensRest_X0_addTrust : GoodIn wsX0_happensRest (wsV RX0 84 RX0 yX0_addTrust wsX0_addTrust) := goodIn_app (goodIn_of _ (by decide +kernel)) ggX0_happensRest_X0_addTrust
theorem dX0_happensRest_0 : decode cX0_happensRest 0 = .ok (.aload_n 0, 1) := by decide +kernel
theorem dX0_happensRest_1 : decode cX0_happensRest 1 = .ok (.iload_n 1, 1) := by decide +kernel
theorem dX0_happensRest_2 : decode cX0_happensRest 2 = .ok (.invokevirtual 88, 3) := by decide +kernel
theorem dX0_happensRest_5 : decode cX0_happensRest 5 = .ok (.ifCond .ne 5, 3) := by decide +kernel
theorem dX0_happensRest_8 : decode cX0_happensRest 8 = .ok (.iconst 0, 1) := by decide +kernel
theorem dX0_happensRest_9 : decode cX0_happensRest 9 = .ok (.ireturn, 1) := by decide +kernel
theorem dX0_happensRest_10 : decode cX0_happensRest 10 = .ok (.aload_n 0, 1) := by decide +kernel
theorem dX0_happensRest_11 : decode cX0_happensRest 11 = .ok (.iload_n 1, 1) := by decide +kernel
theorem dX0_happensRest_12 : decode cX0_happensRest 12 = .ok (.bipush 6, 2) := by decide +kernel
theorem dX0_happensRest_14 : decode cX0_happensRest 14 = .ok (.invokevirtual 84, 3) := by decide +kernel
theorem dX0_happensRest_17 : decode cX0_happensRest 17 = .ok (.iconst 1, 1) := by decide +kernel
theorem dX0_happensRest_18 : decode cX0_happensRest 18 = .ok (.ireturn, 1) := by decide +kernel
set_option maxRecDepth 20000 in
theorem ggX0_happensPay_X0_hasJoined : GoodIn wsX0_happensPay wsX0_hasJoined := goodIn_r _ [6, 7, 20, 21, 22, 23, 24, 25, 26, 27, 28, 29, 30] (by decide +kernel) (by decide +kernel)
set_option maxRecDepth 20000 in
theorem gX0_happensPay_X0_hasJoined : GoodIn wsX0_happensPay (wsV RX0 88 RX0 yX0_hasJoined wsX0_hasJoined) := goodIn_app (goodIn_of _ (by decide +kernel)) ggX0_happensPay_X0_hasJoined
set_option maxRecDepth 20000 in
theorem ggX0_happensPay_X0_addTrust : GoodIn wsX0_happensPay wsX0_addTrust := goodIn_r _ [11, 12, 13, 14, 15, 16, 17, 18, 19, 20, 21, 22, 23, 24, 25, 26, 27, 28, 29, 30] (by decide +kernel) (by decide +kernel)
set_option maxRecDepth 20000 in
theorem gX0_happensPay_X0_addTrust : GoodIn wsX0_happensPay (wsV RX0 84 RX0 yX0_addTrust wsX0_addTrust) := goodIn_app (goodIn_of _ (by decide +kernel)) ggX0_happensPay_X0_addTrust
theorem dX0_happensPay_0 : decode cX0_happensPay 0 = .ok (.aload_n 0, 1) := by decide +kernel
theorem dX0_happensPay_1 : decode cX0_happensPay 1 = .ok (.iload_n 1, 1) := by decide +kernel
theorem dX0_happensPay_2 : decode cX0_happensPay 2 = .ok (.invokevirtual 88, 3) := by decide +kernel
theorem dX0_happensPay_5 : decode cX0_happensPay 5 = .ok (.ifCond .eq 11, 3) := by decide +kernel
theorem dX0_happensPay_8 : decode cX0_happensPay 8 = .ok (.aload_n 0, 1) := by decide +kernel
theorem dX0_happensPay_9 : decode cX0_happensPay 9 = .ok (.getfield 21, 3) := by decide +kernel
theorem dX0_happensPay_12 : decode cX0_happensPay 12 = .ok (.iload_n 2, 1) := by decide +kernel
theorem dX0_happensPay_13 : decode cX0_happensPay 13 = .ok (.if_icmp .ge 5, 3) := by decide +kernel
theorem dX0_happensPay_16 : decode cX0_happensPay 16 = .ok (.iconst 0, 1) := by decide +kernel
theorem dX0_happensPay_17 : decode cX0_happensPay 17 = .ok (.ireturn, 1) := by decide +kernel
theorem dX0_happensPay_18 : decode cX0_happensPay 18 = .ok (.aload_n 0, 1) := by decide +kernel
theorem dX0_happensPay_19 : decode cX0_happensPay 19 = .ok (.dup, 1) := by decide +kernel
theorem dX0_happensPay_20 : decode cX0_happensPay 20 = .ok (.getfield 21, 3) := by decide +kernel
theorem dX0_happensPay_23 : decode cX0_happensPay 23 = .ok (.iload_n 2, 1) := by decide +kernel
theorem dX0_happensPay_24 : decode cX0_happensPay 24 = .ok (.isub, 1) := by decide +kernel
theorem dX0_happensPay_25 : decode cX0_happensPay 25 = .ok (.putfield 21, 3) := by decide +kernel
theorem dX0_happensPay_28 : decode cX0_happensPay 28 = .ok (.aload_n 0, 1) := by decide +kernel
theorem dX0_happensPay_29 : decode cX0_happensPay 29 = .ok (.iload_n 1, 1) := by decide +kernel
theorem dX0_happensPay_30 : decode cX0_happensPay 30 = .ok (.iload_n 2, 1) := by decide +kernel
theorem dX0_happensPay_31 : decode cX0_happensPay 31 = .ok (.iconst 3, 1) := by decide +kernel
theorem dX0_happensPay_32 : decode cX0_happensPay 32 = .ok (.idiv, 1) := by decide +kernel
theorem dX0_happensPay_33 : decode cX0_happensPay 33 = .ok (.invokevirtual 84, 3) := by decide +kernel
theorem dX0_happensPay_36 : decode cX0_happensPay 36 = .ok (.iconst 1, 1) := by decide +kernel
theorem dX0_happensPay_37 : decode cX0_happensPay 37 = .ok (.ireturn, 1) := by decide +kernel
theorem dX0_happensBuy_0 : decode cX0_happensBuy 0 = .ok (.iconst 2, 1) := by decide +kernel
theorem dX0_happensBuy_1 : decode cX0_happensBuy 1 = .ok (.iload_n 1, 1) := by decide +kernel
theorem dX0_happensBuy_2 : decode cX0_happensBuy 2 = .ok (.imul, 1) := by decide +kernel
theorem dX0_happensBuy_3 : decode cX0_happensBuy 3 = .ok (.istore_n 2, 1) := by decide +kernel
theorem dX0_happensBuy_4 : decode cX0_happensBuy 4 = .ok (.aload_n 0, 1) := by decide +kernel
theorem dX0_happensBuy_5 : decode cX0_happensBuy 5 = .ok (.getfield 21, 3) := by decide +kernel
theorem dX0_happensBuy_8 : decode cX0_happensBuy 8 = .ok (.iload_n 2, 1) := by decide +kernel
theorem dX0_happensBuy_9 : decode cX0_happensBuy 9 = .ok (.if_icmp .ge 5, 3) := by decide +kernel
theorem dX0_happensBuy_12 : decode cX0_happensBuy 12 = .ok (.iconst 0, 1) := by decide +kernel
theorem dX0_happensBuy_13 : decode cX0_happensBuy 13 = .ok (.ireturn, 1) := by decide +kernel
theorem dX0_happensBuy_14 : decode cX0_happensBuy 14 = .ok (.aload_n 0, 1) := by decide +kernel
theorem dX0_happensBuy_15 : decode cX0_happensBuy 15 = .ok (.dup, 1) := by decide +kernel
theorem dX0_happensBuy_16 : decode cX0_happensBuy 16 = .ok (.getfield 21, 3) := by decide +kernel
theorem dX0_happensBuy_19 : decode cX0_happensBuy 19 = .ok (.iload_n 2, 1) := by decide +kernel
theorem dX0_happensBuy_20 : decode cX0_happensBuy 20 = .ok (.isub, 1) := by decide +kernel
theorem dX0_happensBuy_21 : decode cX0_happensBuy 21 = .ok (.putfield 21, 3) := by decide +kernel
theorem dX0_happensBuy_24 : decode cX0_happensBuy 24 = .ok (.aload_n 0, 1) := by decide +kernel
theorem dX0_happensBuy_25 : decode cX0_happensBuy 25 = .ok (.dup, 1) := by decide +kernel
theorem dX0_happensBuy_26 : decode cX0_happensBuy 26 = .ok (.getfield 25, 3) := by decide +kernel
theorem dX0_happensBuy_29 : decode cX0_happensBuy 29 = .ok (.iload_n 1, 1) := by decide +kernel
theorem dX0_happensBuy_30 : decode cX0_happensBuy 30 = .ok (.iadd, 1) := by decide +kernel
theorem dX0_happensBuy_31 : decode cX0_happensBuy 31 = .ok (.putfield 25, 3) := by decide +kernel
theorem dX0_happensBuy_34 : decode cX0_happensBuy 34 = .ok (.iconst 1, 1) := by decide +kernel
theorem dX0_happensBuy_35 : decode cX0_happensBuy 35 = .ok (.ireturn, 1) := by decide +kernel
theorem dX0_hasJoined_0 : decode cX0_hasJoined 0 = .ok (.iload_n 1, 1) := by decide +kernel
theorem dX0_hasJoined_1 : decode cX0_hasJoined 1 = .ok (.aload_n 0, 1) := by decide +kernel
theorem dX0_hasJoined_2 : decode cX0_hasJoined 2 = .ok (.getfield 31, 3) := by decide +kernel
theorem dX0_hasJoined_5 : decode cX0_hasJoined 5 = .ok (.if_icmp .ge 7, 3) := by decide +kernel
theorem dX0_hasJoined_8 : decode cX0_hasJoined 8 = .ok (.iconst 1, 1) := by decide +kernel
theorem dX0_hasJoined_9 : decode cX0_hasJoined 9 = .ok (.goto 4, 3) := by decide +kernel
theorem dX0_hasJoined_12 : decode cX0_hasJoined 12 = .ok (.iconst 0, 1) := by decide +kernel
theorem dX0_hasJoined_13 : decode cX0_hasJoined 13 = .ok (.ireturn, 1) := by decide +kernel
set_option maxRecDepth 20000 in
theorem ggX0_standsFor_X0_hasJoined : GoodIn wsX0_standsFor wsX0_hasJoined := goodIn_r _ [8, 9, 10, 11, 12, 13, 14, 15, 16, 17, 18, 19, 20] (by decide +kernel) (by decide +kernel)
set_option maxRecDepth 20000 in
theorem gX0_standsFor_X0_hasJoined : GoodIn wsX0_standsFor (wsV RX0 88 RX0 yX0_hasJoined wsX0_hasJoined) := goodIn_app (goodIn_of _ (by decide +kernel)) ggX0_standsFor_X0_hasJoined
theorem dX0_standsFor_0 : decode cX0_standsFor 0 = .ok (.aload_n 0, 1) := by decide +kernel
theorem dX0_standsFor_1 : decode cX0_standsFor 1 = .ok (.iload_n 1, 1) := by decide +kernel
theorem dX0_standsFor_2 : decode cX0_standsFor 2 = .ok (.invokevirtual 88, 3) := by decide +kernel
theorem dX0_standsFor_5 : decode cX0_standsFor 5 = .ok (.ifCond .eq 28, 3) := by decide +kernel
theorem dX0_standsFor_8 : decode cX0_standsFor 8 = .ok (.aload_n 0, 1) := by decide +kernel
theorem dX0_standsFor_9 : decode cX0_standsFor 9 = .ok (.getfield 9, 3) := by decide +kernel
theorem dX0_standsFor_12 : decode cX0_standsFor 12 = .ok (.iload_n 1, 1) := by decide +kernel
theorem dX0_standsFor_13 : decode cX0_standsFor 13 = .ok (.iaload, 1) := by decide +kernel
theorem dX0_standsFor_14 : decode cX0_standsFor 14 = .ok (.bipush 20, 2) := by decide +kernel
theorem dX0_standsFor_16 : decode cX0_standsFor 16 = .ok (.aload_n 0, 1) := by decide +kernel
theorem dX0_standsFor_17 : decode cX0_standsFor 17 = .ok (.getfield 18, 3) := by decide +kernel
theorem dX0_standsFor_20 : decode cX0_standsFor 20 = .ok (.aload_n 0, 1) := by decide +kernel
theorem dX0_standsFor_21 : decode cX0_standsFor 21 = .ok (.getfield 28, 3) := by decide +kernel
theorem dX0_standsFor_24 : decode cX0_standsFor 24 = .ok (.iaload, 1) := by decide +kernel
theorem dX0_standsFor_25 : decode cX0_standsFor 25 = .ok (.iadd, 1) := by decide +kernel
theorem dX0_standsFor_26 : decode cX0_standsFor 26 = .ok (.if_icmp .lt 7, 3) := by decide +kernel
theorem dX0_standsFor_29 : decode cX0_standsFor 29 = .ok (.iconst 1, 1) := by decide +kernel
theorem dX0_standsFor_30 : decode cX0_standsFor 30 = .ok (.goto 4, 3) := by decide +kernel
theorem dX0_standsFor_33 : decode cX0_standsFor 33 = .ok (.iconst 0, 1) := by decide +kernel
theorem dX0_standsFor_34 : decode cX0_standsFor 34 = .ok (.ireturn, 1) := by decide +kernel
theorem dX0_takings_0 : decode cX0_takings 0 = .ok (.iload_n 1, 1) := by decide +kernel
theorem dX0_takings_1 : decode cX0_takings 1 = .ok (.ifCond .ne 5, 3) := by decide +kernel
theorem dX0_takings_4 : decode cX0_takings 4 = .ok (.iconst 0, 1) := by decide +kernel
theorem dX0_takings_5 : decode cX0_takings 5 = .ok (.ireturn, 1) := by decide +kernel
theorem dX0_takings_6 : decode cX0_takings 6 = .ok (.iload_n 1, 1) := by decide +kernel
theorem dX0_takings_7 : decode cX0_takings 7 = .ok (.iconst 3, 1) := by decide +kernel
theorem dX0_takings_8 : decode cX0_takings 8 = .ok (.if_icmp .gt 16, 3) := by decide +kernel
theorem dX0_takings_11 : decode cX0_takings 11 = .ok (.bipush 12, 2) := by decide +kernel
theorem dX0_takings_13 : decode cX0_takings 13 = .ok (.aload_n 0, 1) := by decide +kernel
theorem dX0_takings_14 : decode cX0_takings 14 = .ok (.getfield 15, 3) := by decide +kernel
theorem dX0_takings_17 : decode cX0_takings 17 = .ok (.aload_n 0, 1) := by decide +kernel
theorem dX0_takings_18 : decode cX0_takings 18 = .ok (.getfield 28, 3) := by decide +kernel
theorem dX0_takings_21 : decode cX0_takings 21 = .ok (.iaload, 1) := by decide +kernel
theorem dX0_takings_22 : decode cX0_takings 22 = .ok (.iadd, 1) := by decide +kernel
theorem dX0_takings_23 : decode cX0_takings 23 = .ok (.ireturn, 1) := by decide +kernel
theorem dX0_takings_24 : decode cX0_takings 24 = .ok (.iload_n 1, 1) := by decide +kernel
theorem dX0_takings_25 : decode cX0_takings 25 = .ok (.bipush 9, 2) := by decide +kernel
theorem dX0_takings_27 : decode cX0_takings 27 = .ok (.if_icmp .gt 17, 3) := by decide +kernel
theorem dX0_takings_30 : decode cX0_takings 30 = .ok (.iconst 5, 1) := by decide +kernel
theorem dX0_takings_31 : decode cX0_takings 31 = .ok (.aload_n 0, 1) := by decide +kernel
theorem dX0_takings_32 : decode cX0_takings 32 = .ok (.getfield 15, 3) := by decide +kernel
theorem dX0_takings_35 : decode cX0_takings 35 = .ok (.aload_n 0, 1) := by decide +kernel
theorem dX0_takings_36 : decode cX0_takings 36 = .ok (.getfield 28, 3) := by decide +kernel
theorem dX0_takings_39 : decode cX0_takings 39 = .ok (.iaload, 1) := by decide +kernel
theorem dX0_takings_40 : decode cX0_takings 40 = .ok (.iconst 2, 1) := by decide +kernel
theorem dX0_takings_41 : decode cX0_takings 41 = .ok (.idiv, 1) := by decide +kernel
theorem dX0_takings_42 : decode cX0_takings 42 = .ok (.iadd, 1) := by decide +kernel
theorem dX0_takings_43 : decode cX0_takings 43 = .ok (.ireturn, 1) := by decide +kernel
theorem dX0_takings_44 : decode cX0_takings 44 = .ok (.iconst 1, 1) := by decide +kernel
theorem dX0_takings_45 : decode cX0_takings 45 = .ok (.ireturn, 1) := by decide +kernel
theorem dX0_addTrust_0 : decode cX0_addTrust 0 = .ok (.aload_n 0, 1) := by decide +kernel
theorem dX0_addTrust_1 : decode cX0_addTrust 1 = .ok (.getfield 9, 3) := by decide +kernel
theorem dX0_addTrust_4 : decode cX0_addTrust 4 = .ok (.iload_n 1, 1) := by decide +kernel
theorem dX0_addTrust_5 : decode cX0_addTrust 5 = .ok (.iconst 0, 1) := by decide +kernel
theorem dX0_addTrust_6 : decode cX0_addTrust 6 = .ok (.bipush 100, 2) := by decide +kernel
theorem dX0_addTrust_8 : decode cX0_addTrust 8 = .ok (.aload_n 0, 1) := by decide +kernel
theorem dX0_addTrust_9 : decode cX0_addTrust 9 = .ok (.getfield 9, 3) := by decide +kernel
theorem dX0_addTrust_12 : decode cX0_addTrust 12 = .ok (.iload_n 1, 1) := by decide +kernel
theorem dX0_addTrust_13 : decode cX0_addTrust 13 = .ok (.iaload, 1) := by decide +kernel
theorem dX0_addTrust_14 : decode cX0_addTrust 14 = .ok (.iload_n 2, 1) := by decide +kernel
theorem dX0_addTrust_15 : decode cX0_addTrust 15 = .ok (.iadd, 1) := by decide +kernel
theorem dX0_addTrust_16 : decode cX0_addTrust 16 = .ok (.invokestatic 50, 3) := by decide +kernel
theorem dX0_addTrust_19 : decode cX0_addTrust 19 = .ok (.invokestatic 91, 3) := by decide +kernel
theorem dX0_addTrust_22 : decode cX0_addTrust 22 = .ok (.iastore, 1) := by decide +kernel
theorem dX0_addTrust_23 : decode cX0_addTrust 23 = .ok (.return_, 1) := by decide +kernel
theorem dX0_trustOfAll_0 : decode cX0_trustOfAll 0 = .ok (.iconst 0, 1) := by decide +kernel
theorem dX0_trustOfAll_1 : decode cX0_trustOfAll 1 = .ok (.istore_n 1, 1) := by decide +kernel
theorem dX0_trustOfAll_2 : decode cX0_trustOfAll 2 = .ok (.iconst 0, 1) := by decide +kernel
theorem dX0_trustOfAll_3 : decode cX0_trustOfAll 3 = .ok (.istore_n 2, 1) := by decide +kernel
theorem dX0_trustOfAll_4 : decode cX0_trustOfAll 4 = .ok (.iload_n 2, 1) := by decide +kernel
theorem dX0_trustOfAll_5 : decode cX0_trustOfAll 5 = .ok (.aload_n 0, 1) := by decide +kernel
theorem dX0_trustOfAll_6 : decode cX0_trustOfAll 6 = .ok (.getfield 31, 3) := by decide +kernel
theorem dX0_trustOfAll_9 : decode cX0_trustOfAll 9 = .ok (.if_icmp .ge 18, 3) := by decide +kernel
theorem dX0_trustOfAll_12 : decode cX0_trustOfAll 12 = .ok (.iload_n 1, 1) := by decide +kernel
theorem dX0_trustOfAll_13 : decode cX0_trustOfAll 13 = .ok (.aload_n 0, 1) := by decide +kernel
theorem dX0_trustOfAll_14 : decode cX0_trustOfAll 14 = .ok (.getfield 9, 3) := by decide +kernel
theorem dX0_trustOfAll_17 : decode cX0_trustOfAll 17 = .ok (.iload_n 2, 1) := by decide +kernel
theorem dX0_trustOfAll_18 : decode cX0_trustOfAll 18 = .ok (.iaload, 1) := by decide +kernel
theorem dX0_trustOfAll_19 : decode cX0_trustOfAll 19 = .ok (.iadd, 1) := by decide +kernel
theorem dX0_trustOfAll_20 : decode cX0_trustOfAll 20 = .ok (.istore_n 1, 1) := by decide +kernel
theorem dX0_trustOfAll_21 : decode cX0_trustOfAll 21 = .ok (.iinc 2 1, 3) := by decide +kernel
theorem dX0_trustOfAll_24 : decode cX0_trustOfAll 24 = .ok (.goto (-20), 3) := by decide +kernel
theorem dX0_trustOfAll_27 : decode cX0_trustOfAll 27 = .ok (.iload_n 1, 1) := by decide +kernel
theorem dX0_trustOfAll_28 : decode cX0_trustOfAll 28 = .ok (.ireturn, 1) := by decide +kernel
set_option maxRecDepth 20000 in
theorem ggX1_init_X0_init : GoodIn wsX1_init wsX0_init := goodIn_r _ [18, 19, 2, 3, 4, 20, 21, 22, 31, 32, 33, 34, 35, 36, 37, 38, 39, 40, 41] (by decide +kernel) (by decide +kernel)
set_option maxRecDepth 20000 in
theorem gX1_init_X0_init_n35 : GoodIn wsX1_init (wsX0_init) := ggX1_init_X0_init
theorem dX1_init_0 : decode cX1_init 0 = .ok (.aload_n 0, 1) := by decide +kernel
theorem dX1_init_1 : decode cX1_init 1 = .ok (.invokespecial 1, 3) := by decide +kernel
theorem dX1_init_4 : decode cX1_init 4 = .ok (.aload_n 0, 1) := by decide +kernel
theorem dX1_init_5 : decode cX1_init 5 = .ok (.iconst 4, 1) := by decide +kernel
theorem dX1_init_6 : decode cX1_init 6 = .ok (.newarray .int, 2) := by decide +kernel
theorem dX1_init_8 : decode cX1_init 8 = .ok (.putfield 9, 3) := by decide +kernel
theorem dX1_init_11 : decode cX1_init 11 = .ok (.aload_n 0, 1) := by decide +kernel
theorem dX1_init_12 : decode cX1_init 12 = .ok (.iconst 4, 1) := by decide +kernel
theorem dX1_init_13 : decode cX1_init 13 = .ok (.newarray .int, 2) := by decide +kernel
theorem dX1_init_15 : decode cX1_init 15 = .ok (.putfield 13, 3) := by decide +kernel
theorem dX1_init_18 : decode cX1_init 18 = .ok (.aload_n 0, 1) := by decide +kernel
theorem dX1_init_19 : decode cX1_init 19 = .ok (.bipush 60, 2) := by decide +kernel
theorem dX1_init_21 : decode cX1_init 21 = .ok (.newarray .int, 2) := by decide +kernel
theorem dX1_init_23 : decode cX1_init 23 = .ok (.putfield 16, 3) := by decide +kernel
theorem dX1_init_26 : decode cX1_init 26 = .ok (.aload_n 0, 1) := by decide +kernel
theorem dX1_init_27 : decode cX1_init 27 = .ok (.bipush 60, 2) := by decide +kernel
theorem dX1_init_29 : decode cX1_init 29 = .ok (.newarray .int, 2) := by decide +kernel
theorem dX1_init_31 : decode cX1_init 31 = .ok (.putfield 19, 3) := by decide +kernel
theorem dX1_init_34 : decode cX1_init 34 = .ok (.aload_n 0, 1) := by decide +kernel
theorem dX1_init_35 : decode cX1_init 35 = .ok (.bipush 60, 2) := by decide +kernel
theorem dX1_init_37 : decode cX1_init 37 = .ok (.newarray .int, 2) := by decide +kernel
theorem dX1_init_39 : decode cX1_init 39 = .ok (.putfield 22, 3) := by decide +kernel
theorem dX1_init_42 : decode cX1_init 42 = .ok (.aload_n 0, 1) := by decide +kernel
theorem dX1_init_43 : decode cX1_init 43 = .ok (.bipush 60, 2) := by decide +kernel
theorem dX1_init_45 : decode cX1_init 45 = .ok (.newarray .boolean, 2) := by decide +kernel
theorem dX1_init_47 : decode cX1_init 47 = .ok (.putfield 25, 3) := by decide +kernel
theorem dX1_init_50 : decode cX1_init 50 = .ok (.aload_n 0, 1) := by decide +kernel
theorem dX1_init_51 : decode cX1_init 51 = .ok (.iconst 0, 1) := by decide +kernel
theorem dX1_init_52 : decode cX1_init 52 = .ok (.putfield 29, 3) := by decide +kernel
theorem dX1_init_55 : decode cX1_init 55 = .ok (.aload_n 0, 1) := by decide +kernel
theorem dX1_init_56 : decode cX1_init 56 = .ok (.new 33, 3) := by decide +kernel
theorem dX1_init_59 : decode cX1_init 59 = .ok (.dup, 1) := by decide +kernel
theorem dX1_init_60 : decode cX1_init 60 = .ok (.aload_n 0, 1) := by decide +kernel
theorem dX1_init_61 : decode cX1_init 61 = .ok (.getfield 9, 3) := by decide +kernel
theorem dX1_init_64 : decode cX1_init 64 = .ok (.aload_n 0, 1) := by decide +kernel
theorem dX1_init_65 : decode cX1_init 65 = .ok (.getfield 13, 3) := by decide +kernel
theorem dX1_init_68 : decode cX1_init 68 = .ok (.invokespecial 35, 3) := by decide +kernel
theorem dX1_init_71 : decode cX1_init 71 = .ok (.putfield 38, 3) := by decide +kernel
theorem dX1_init_74 : decode cX1_init 74 = .ok (.return_, 1) := by decide +kernel
set_option maxRecDepth 20000 in
theorem ggX1_set_X1_needIndex : GoodIn wsX1_set wsX1_needIndex := goodIn_ca (goodIn_r _ [6, 7, 8] (by decide +kernel) (by decide +kernel)) (goodIn_sub (fun _ h => List.mem_cons_of_mem _ (List.mem_append_left _ (List.mem_append_right _ h))) (by decide +kernel))
set_option maxRecDepth 20000 in
theorem gX1_set_X1_needIndex : GoodIn wsX1_set (va_wsS RX1 42 yX1_needIndex wsX1_needIndex) := goodIn_app (goodIn_of _ (by decide +kernel)) ggX1_set_X1_needIndex
set_option maxRecDepth 20000 in
theorem ggX1_set_X1_needWithin : GoodIn wsX1_set wsX1_needWithin := goodIn_ca (goodIn_r _ [11, 12, 13] (by decide +kernel) (by decide +kernel)) (goodIn_sub (fun _ h => List.mem_cons_of_mem _ (List.mem_append_right _ h)) (by decide +kernel))
set_option maxRecDepth 20000 in
theorem gX1_set_X1_needWithin : GoodIn wsX1_set (va_wsS RX1 46 yX1_needWithin wsX1_needWithin) := goodIn_app (goodIn_of _ (by decide +kernel)) ggX1_set_X1_needWithin
theorem dX1_set_0 : decode cX1_set 0 = .ok (.iload_n 1, 1) := by decide +kernel
theorem dX1_set_1 : decode cX1_set 1 = .ok (.iconst 4, 1) := by decide +kernel
theorem dX1_set_2 : decode cX1_set 2 = .ok (.invokestatic 42, 3) := by decide +kernel
theorem dX1_set_5 : decode cX1_set 5 = .ok (.iload_n 2, 1) := by decide +kernel
theorem dX1_set_6 : decode cX1_set 6 = .ok (.iconst 0, 1) := by decide +kernel
theorem dX1_set_7 : decode cX1_set 7 = .ok (.bipush 9, 2) := by decide +kernel
theorem dX1_set_9 : decode cX1_set 9 = .ok (.invokestatic 46, 3) := by decide +kernel
theorem dX1_set_12 : decode cX1_set 12 = .ok (.iload_n 3, 1) := by decide +kernel
theorem dX1_set_13 : decode cX1_set 13 = .ok (.iconst 0, 1) := by decide +kernel
theorem dX1_set_14 : decode cX1_set 14 = .ok (.bipush 9, 2) := by decide +kernel
theorem dX1_set_16 : decode cX1_set 16 = .ok (.invokestatic 46, 3) := by decide +kernel
theorem dX1_set_19 : decode cX1_set 19 = .ok (.bipush 10, 2) := by decide +kernel
theorem dX1_set_21 : decode cX1_set 21 = .ok (.aload_n 0, 1) := by decide +kernel
theorem dX1_set_22 : decode cX1_set 22 = .ok (.getfield 9, 3) := by decide +kernel
theorem dX1_set_25 : decode cX1_set 25 = .ok (.iload_n 1, 1) := by decide +kernel
theorem dX1_set_26 : decode cX1_set 26 = .ok (.iaload, 1) := by decide +kernel
theorem dX1_set_27 : decode cX1_set 27 = .ok (.imul, 1) := by decide +kernel
theorem dX1_set_28 : decode cX1_set 28 = .ok (.aload_n 0, 1) := by decide +kernel
theorem dX1_set_29 : decode cX1_set 29 = .ok (.getfield 13, 3) := by decide +kernel
theorem dX1_set_32 : decode cX1_set 32 = .ok (.iload_n 1, 1) := by decide +kernel
theorem dX1_set_33 : decode cX1_set 33 = .ok (.iaload, 1) := by decide +kernel
theorem dX1_set_34 : decode cX1_set 34 = .ok (.iadd, 1) := by decide +kernel
theorem dX1_set_35 : decode cX1_set 35 = .ok (.istore 4, 2) := by decide +kernel
theorem dX1_set_37 : decode cX1_set 37 = .ok (.aload_n 0, 1) := by decide +kernel
theorem dX1_set_38 : decode cX1_set 38 = .ok (.getfield 9, 3) := by decide +kernel
theorem dX1_set_41 : decode cX1_set 41 = .ok (.iload_n 1, 1) := by decide +kernel
theorem dX1_set_42 : decode cX1_set 42 = .ok (.iload_n 2, 1) := by decide +kernel
theorem dX1_set_43 : decode cX1_set 43 = .ok (.iastore, 1) := by decide +kernel
theorem dX1_set_44 : decode cX1_set 44 = .ok (.aload_n 0, 1) := by decide +kernel
theorem dX1_set_45 : decode cX1_set 45 = .ok (.getfield 13, 3) := by decide +kernel
theorem dX1_set_48 : decode cX1_set 48 = .ok (.iload_n 1, 1) := by decide +kernel
theorem dX1_set_49 : decode cX1_set 49 = .ok (.iload_n 3, 1) := by decide +kernel
theorem dX1_set_50 : decode cX1_set 50 = .ok (.iastore, 1) := by decide +kernel
theorem dX1_set_51 : decode cX1_set 51 = .ok (.iload 4, 2) := by decide +kernel
theorem dX1_set_53 : decode cX1_set 53 = .ok (.ireturn, 1) := by decide +kernel
set_option maxRecDepth 20000 in
theorem ggX1_join_X1_needWithin : GoodIn wsX1_join wsX1_needWithin := goodIn_ca (goodIn_r _ [4, 5, 6] (by decide +kernel) (by decide +kernel)) (goodIn_sub (fun _ h => List.mem_cons_of_mem _ (List.mem_append_left _ (List.mem_append_right _ h))) (by decide +kernel))
set_option maxRecDepth 20000 in
theorem gX1_join_X1_needWithin : GoodIn wsX1_join (va_wsS RX1 46 yX1_needWithin wsX1_needWithin) := goodIn_app (goodIn_of _ (by decide +kernel)) ggX1_join_X1_needWithin
set_option maxRecDepth 20000 in
theorem ggX1_join_X1_append : GoodIn wsX1_join wsX1_append := goodIn_ca (goodIn_r _ [10, 11, 12, 13, 14, 15, 16, 17, 18, 19, 20, 21, 22, 23, 24, 25] (by decide +kernel) (by decide +kernel)) (goodIn_sub (fun _ h => List.mem_cons_of_mem _ (List.mem_append_right _ h)) (by decide +kernel))
set_option maxRecDepth 20000 in
theorem gX1_join_X1_append : GoodIn wsX1_join (wsV RX1 50 RX1 yX1_append wsX1_append) := goodIn_app (goodIn_of _ (by decide +kernel)) ggX1_join_X1_append
theorem dX1_join_0 : decode cX1_join 0 = .ok (.iload_n 1, 1) := by decide +kernel
theorem dX1_join_1 : decode cX1_join 1 = .ok (.iconst 0, 1) := by decide +kernel
theorem dX1_join_2 : decode cX1_join 2 = .ok (.bipush 100, 2) := by decide +kernel
theorem dX1_join_4 : decode cX1_join 4 = .ok (.invokestatic 46, 3) := by decide +kernel
theorem dX1_join_7 : decode cX1_join 7 = .ok (.aload_n 0, 1) := by decide +kernel
theorem dX1_join_8 : decode cX1_join 8 = .ok (.iconst 0, 1) := by decide +kernel
theorem dX1_join_9 : decode cX1_join 9 = .ok (.iload_n 1, 1) := by decide +kernel
theorem dX1_join_10 : decode cX1_join 10 = .ok (.iconst 0, 1) := by decide +kernel
theorem dX1_join_11 : decode cX1_join 11 = .ok (.invokevirtual 50, 3) := by decide +kernel
theorem dX1_join_14 : decode cX1_join 14 = .ok (.ireturn, 1) := by decide +kernel
set_option maxRecDepth 20000 in
theorem ggX1_toss_X1_needIndex : GoodIn wsX1_toss wsX1_needIndex := goodIn_ca (goodIn_r _ [4, 5, 6] (by decide +kernel) (by decide +kernel)) (goodIn_sub (fun _ h => List.mem_cons_of_mem _ (List.mem_append_left _ (List.mem_append_left _ (List.mem_append_right _ h)))) (by decide +kernel))
set_option maxRecDepth 20000 in
theorem gX1_toss_X1_needIndex : GoodIn wsX1_toss (va_wsS RX1 42 yX1_needIndex wsX1_needIndex) := goodIn_app (goodIn_of _ (by decide +kernel)) ggX1_toss_X1_needIndex
set_option maxRecDepth 20000 in
theorem ggX1_toss_X1_needWithin : GoodIn wsX1_toss wsX1_needWithin := goodIn_ca (goodIn_r _ [9, 10, 11] (by decide +kernel) (by decide +kernel)) (goodIn_sub (fun _ h => List.mem_cons_of_mem _ (List.mem_append_left _ (List.mem_append_right _ h))) (by decide +kernel))
set_option maxRecDepth 20000 in
theorem gX1_toss_X1_needWithin : GoodIn wsX1_toss (va_wsS RX1 46 yX1_needWithin wsX1_needWithin) := goodIn_app (goodIn_of _ (by decide +kernel)) ggX1_toss_X1_needWithin
set_option maxRecDepth 20000 in
theorem ggX1_toss_X1_append : GoodIn wsX1_toss wsX1_append := goodIn_ca (goodIn_r _ [15, 16, 17, 18, 19, 20, 21, 22, 23, 24, 25, 26, 27, 28, 29, 30] (by decide +kernel) (by decide +kernel)) (goodIn_sub (fun _ h => List.mem_cons_of_mem _ (List.mem_append_right _ h)) (by decide +kernel))
set_option maxRecDepth 20000 in
theorem gX1_toss_X1_append : GoodIn wsX1_toss (wsV RX1 50 RX1 yX1_append wsX1_append) := goodIn_app (goodIn_of _ (by decide +kernel)) ggX1_toss_X1_append
theorem dX1_toss_0 : decode cX1_toss 0 = .ok (.iload_n 1, 1) := by decide +kernel
theorem dX1_toss_1 : decode cX1_toss 1 = .ok (.bipush 6, 2) := by decide +kernel
theorem dX1_toss_3 : decode cX1_toss 3 = .ok (.invokestatic 42, 3) := by decide +kernel
theorem dX1_toss_6 : decode cX1_toss 6 = .ok (.iload_n 2, 1) := by decide +kernel
theorem dX1_toss_7 : decode cX1_toss 7 = .ok (.iconst 0, 1) := by decide +kernel
theorem dX1_toss_8 : decode cX1_toss 8 = .ok (.bipush 20, 2) := by decide +kernel
theorem dX1_toss_10 : decode cX1_toss 10 = .ok (.invokestatic 46, 3) := by decide +kernel
theorem dX1_toss_13 : decode cX1_toss 13 = .ok (.aload_n 0, 1) := by decide +kernel
theorem dX1_toss_14 : decode cX1_toss 14 = .ok (.iconst 1, 1) := by decide +kernel
theorem dX1_toss_15 : decode cX1_toss 15 = .ok (.iload_n 1, 1) := by decide +kernel
theorem dX1_toss_16 : decode cX1_toss 16 = .ok (.iload_n 2, 1) := by decide +kernel
theorem dX1_toss_17 : decode cX1_toss 17 = .ok (.invokevirtual 50, 3) := by decide +kernel
theorem dX1_toss_20 : decode cX1_toss 20 = .ok (.ireturn, 1) := by decide +kernel
set_option maxRecDepth 20000 in
theorem ggX1_rest_X1_needIndex : GoodIn wsX1_rest wsX1_needIndex := goodIn_ca (goodIn_r _ [4, 5, 6] (by decide +kernel) (by decide +kernel)) (goodIn_sub (fun _ h => List.mem_cons_of_mem _ (List.mem_append_left _ (List.mem_append_right _ h))) (by decide +kernel))
set_option maxRecDepth 20000 in
theorem gX1_rest_X1_needIndex : GoodIn wsX1_rest (va_wsS RX1 42 yX1_needIndex wsX1_needIndex) := goodIn_app (goodIn_of _ (by decide +kernel)) ggX1_rest_X1_needIndex
set_option maxRecDepth 20000 in
theorem ggX1_rest_X1_append : GoodIn wsX1_rest wsX1_append := goodIn_ca (goodIn_r _ [10, 11, 12, 13, 14, 15, 16, 17, 18, 19, 20, 21, 22, 23, 24, 25] (by decide +kernel) (by decide +kernel)) (goodIn_sub (fun _ h => List.mem_cons_of_mem _ (List.mem_append_right _ h)) (by decide +kernel))
set_option maxRecDepth 20000 in
theorem gX1_rest_X1_append : GoodIn wsX1_rest (wsV RX1 50 RX1 yX1_append wsX1_append) := goodIn_app (goodIn_of _ (by decide +kernel)) ggX1_rest_X1_append
theorem dX1_rest_0 : decode cX1_rest 0 = .ok (.iload_n 1, 1) := by decide +kernel
theorem dX1_rest_1 : decode cX1_rest 1 = .ok (.bipush 6, 2) := by decide +kernel
theorem dX1_rest_3 : decode cX1_rest 3 = .ok (.invokestatic 42, 3) := by decide +kernel
theorem dX1_rest_6 : decode cX1_rest 6 = .ok (.aload_n 0, 1) := by decide +kernel
theorem dX1_rest_7 : decode cX1_rest 7 = .ok (.iconst 2, 1) := by decide +kernel
theorem dX1_rest_8 : decode cX1_rest 8 = .ok (.iload_n 1, 1) := by decide +kernel
theorem dX1_rest_9 : decode cX1_rest 9 = .ok (.iconst 0, 1) := by decide +kernel
theorem dX1_rest_10 : decode cX1_rest 10 = .ok (.invokevirtual 50, 3) := by decide +kernel
theorem dX1_rest_13 : decode cX1_rest 13 = .ok (.ireturn, 1) := by decide +kernel
set_option maxRecDepth 20000 in
theorem ggX1_go_X1_needIndex : GoodIn wsX1_go wsX1_needIndex := goodIn_ca (goodIn_r _ [4, 5, 6] (by decide +kernel) (by decide +kernel)) (goodIn_sub (fun _ h => List.mem_cons_of_mem _ (List.mem_append_left _ (List.mem_append_right _ h))) (by decide +kernel))
set_option maxRecDepth 20000 in
theorem gX1_go_X1_needIndex : GoodIn wsX1_go (va_wsS RX1 42 yX1_needIndex wsX1_needIndex) := goodIn_app (goodIn_of _ (by decide +kernel)) ggX1_go_X1_needIndex
set_option maxRecDepth 20000 in
theorem ggX1_go_X1_append : GoodIn wsX1_go wsX1_append := goodIn_ca (goodIn_r _ [10, 11, 12, 13, 14, 15, 16, 17, 18, 19, 20, 21, 22, 23, 24, 25] (by decide +kernel) (by decide +kernel)) (goodIn_sub (fun _ h => List.mem_cons_of_mem _ (List.mem_append_right _ h)) (by decide +kernel))
set_option maxRecDepth 20000 in
theorem gX1_go_X1_append : GoodIn wsX1_go (wsV RX1 50 RX1 yX1_append wsX1_append) := goodIn_app (goodIn_of _ (by decide +kernel)) ggX1_go_X1_append
theorem dX1_go_0 : decode cX1_go 0 = .ok (.iload_n 1, 1) := by decide +kernel
theorem dX1_go_1 : decode cX1_go 1 = .ok (.iconst 4, 1) := by decide +kernel
theorem dX1_go_2 : decode cX1_go 2 = .ok (.invokestatic 42, 3) := by decide +kernel
theorem dX1_go_5 : decode cX1_go 5 = .ok (.aload_n 0, 1) := by decide +kernel
theorem dX1_go_6 : decode cX1_go 6 = .ok (.iconst 3, 1) := by decide +kernel
theorem dX1_go_7 : decode cX1_go 7 = .ok (.iload_n 1, 1) := by decide +kernel
theorem dX1_go_8 : decode cX1_go 8 = .ok (.iconst 0, 1) := by decide +kernel
theorem dX1_go_9 : decode cX1_go 9 = .ok (.invokevirtual 50, 3) := by decide +kernel
theorem dX1_go_12 : decode cX1_go 12 = .ok (.ireturn, 1) := by decide +kernel
set_option maxRecDepth 20000 in
theorem ggX1_pay_X1_needIndex : GoodIn wsX1_pay wsX1_needIndex := goodIn_ca (goodIn_r _ [4, 5, 6] (by decide +kernel) (by decide +kernel)) (goodIn_sub (fun _ h => List.mem_cons_of_mem _ (List.mem_append_left _ (List.mem_append_left _ (List.mem_append_right _ h)))) (by decide +kernel))
set_option maxRecDepth 20000 in
theorem gX1_pay_X1_needIndex : GoodIn wsX1_pay (va_wsS RX1 42 yX1_needIndex wsX1_needIndex) := goodIn_app (goodIn_of _ (by decide +kernel)) ggX1_pay_X1_needIndex
set_option maxRecDepth 20000 in
theorem ggX1_pay_X1_needWithin : GoodIn wsX1_pay wsX1_needWithin := goodIn_ca (goodIn_r _ [9, 10, 11] (by decide +kernel) (by decide +kernel)) (goodIn_sub (fun _ h => List.mem_cons_of_mem _ (List.mem_append_left _ (List.mem_append_right _ h))) (by decide +kernel))
set_option maxRecDepth 20000 in
theorem gX1_pay_X1_needWithin : GoodIn wsX1_pay (va_wsS RX1 46 yX1_needWithin wsX1_needWithin) := goodIn_app (goodIn_of _ (by decide +kernel)) ggX1_pay_X1_needWithin
set_option maxRecDepth 20000 in
theorem ggX1_pay_X1_append : GoodIn wsX1_pay wsX1_append := goodIn_ca (goodIn_r _ [15, 16, 17, 18, 19, 20, 21, 22, 23, 24, 25, 26, 27, 28, 29, 30] (by decide +kernel) (by decide +kernel)) (goodIn_sub (fun _ h => List.mem_cons_of_mem _ (List.mem_append_right _ h)) (by decide +kernel))
set_option maxRecDepth 20000 in
theorem gX1_pay_X1_append : GoodIn wsX1_pay (wsV RX1 50 RX1 yX1_append wsX1_append) := goodIn_app (goodIn_of _ (by decide +kernel)) ggX1_pay_X1_append
theorem dX1_pay_0 : decode cX1_pay 0 = .ok (.iload_n 1, 1) := by decide +kernel
theorem dX1_pay_1 : decode cX1_pay 1 = .ok (.bipush 6, 2) := by decide +kernel
theorem dX1_pay_3 : decode cX1_pay 3 = .ok (.invokestatic 42, 3) := by decide +kernel
theorem dX1_pay_6 : decode cX1_pay 6 = .ok (.iload_n 2, 1) := by decide +kernel
theorem dX1_pay_7 : decode cX1_pay 7 = .ok (.iconst 1, 1) := by decide +kernel
theorem dX1_pay_8 : decode cX1_pay 8 = .ok (.bipush 99, 2) := by decide +kernel
theorem dX1_pay_10 : decode cX1_pay 10 = .ok (.invokestatic 46, 3) := by decide +kernel
theorem dX1_pay_13 : decode cX1_pay 13 = .ok (.aload_n 0, 1) := by decide +kernel
theorem dX1_pay_14 : decode cX1_pay 14 = .ok (.iconst 4, 1) := by decide +kernel
theorem dX1_pay_15 : decode cX1_pay 15 = .ok (.iload_n 1, 1) := by decide +kernel
theorem dX1_pay_16 : decode cX1_pay 16 = .ok (.iload_n 2, 1) := by decide +kernel
theorem dX1_pay_17 : decode cX1_pay 17 = .ok (.invokevirtual 50, 3) := by decide +kernel
theorem dX1_pay_20 : decode cX1_pay 20 = .ok (.ireturn, 1) := by decide +kernel
set_option maxRecDepth 20000 in
theorem ggX1_buy_X1_needWithin : GoodIn wsX1_buy wsX1_needWithin := goodIn_ca (goodIn_r _ [4, 5, 6] (by decide +kernel) (by decide +kernel)) (goodIn_sub (fun _ h => List.mem_cons_of_mem _ (List.mem_append_left _ (List.mem_append_right _ h))) (by decide +kernel))
set_option maxRecDepth 20000 in
theorem gX1_buy_X1_needWithin : GoodIn wsX1_buy (va_wsS RX1 46 yX1_needWithin wsX1_needWithin) := goodIn_app (goodIn_of _ (by decide +kernel)) ggX1_buy_X1_needWithin
set_option maxRecDepth 20000 in
theorem ggX1_buy_X1_append : GoodIn wsX1_buy wsX1_append := goodIn_ca (goodIn_r _ [10, 11, 12, 13, 14, 15, 16, 17, 18, 19, 20, 21, 22, 23, 24, 25] (by decide +kernel) (by decide +kernel)) (goodIn_sub (fun _ h => List.mem_cons_of_mem _ (List.mem_append_right _ h)) (by decide +kernel))
set_option maxRecDepth 20000 in
theorem gX1_buy_X1_append : GoodIn wsX1_buy (wsV RX1 50 RX1 yX1_append wsX1_append) := goodIn_app (goodIn_of _ (by decide +kernel)) ggX1_buy_X1_append
theorem dX1_buy_0 : decode cX1_buy 0 = .ok (.iload_n 1, 1) := by decide +kernel
theorem dX1_buy_1 : decode cX1_buy 1 = .ok (.iconst 1, 1) := by decide +kernel
theorem dX1_buy_2 : decode cX1_buy 2 = .ok (.bipush 20, 2) := by decide +kernel
theorem dX1_buy_4 : decode cX1_buy 4 = .ok (.invokestatic 46, 3) := by decide +kernel
theorem dX1_buy_7 : decode cX1_buy 7 = .ok (.aload_n 0, 1) := by decide +kernel
theorem dX1_buy_8 : decode cX1_buy 8 = .ok (.iconst 5, 1) := by decide +kernel
theorem dX1_buy_9 : decode cX1_buy 9 = .ok (.iload_n 1, 1) := by decide +kernel
theorem dX1_buy_10 : decode cX1_buy 10 = .ok (.iconst 0, 1) := by decide +kernel
theorem dX1_buy_11 : decode cX1_buy 11 = .ok (.invokevirtual 50, 3) := by decide +kernel
theorem dX1_buy_14 : decode cX1_buy 14 = .ok (.ireturn, 1) := by decide +kernel
set_option maxRecDepth 20000 in
theorem ggX1_strike_X1_needIndex : GoodIn wsX1_strike wsX1_needIndex := goodIn_ca (goodIn_r _ [6, 7, 8] (by decide +kernel) (by decide +kernel)) (goodIn_sub (fun _ h => List.mem_cons_of_mem _ (List.mem_append_right _ h)) (by decide +kernel))
set_option maxRecDepth 20000 in
theorem gX1_strike_X1_needIndex : GoodIn wsX1_strike (va_wsS RX1 42 yX1_needIndex wsX1_needIndex) := goodIn_app (goodIn_of _ (by decide +kernel)) ggX1_strike_X1_needIndex
theorem dX1_strike_0 : decode cX1_strike 0 = .ok (.iload_n 1, 1) := by decide +kernel
theorem dX1_strike_1 : decode cX1_strike 1 = .ok (.aload_n 0, 1) := by decide +kernel
theorem dX1_strike_2 : decode cX1_strike 2 = .ok (.getfield 29, 3) := by decide +kernel
theorem dX1_strike_5 : decode cX1_strike 5 = .ok (.invokestatic 42, 3) := by decide +kernel
theorem dX1_strike_8 : decode cX1_strike 8 = .ok (.aload_n 0, 1) := by decide +kernel
theorem dX1_strike_9 : decode cX1_strike 9 = .ok (.getfield 25, 3) := by decide +kernel
theorem dX1_strike_12 : decode cX1_strike 12 = .ok (.iload_n 1, 1) := by decide +kernel
theorem dX1_strike_13 : decode cX1_strike 13 = .ok (.aload_n 0, 1) := by decide +kernel
theorem dX1_strike_14 : decode cX1_strike 14 = .ok (.getfield 25, 3) := by decide +kernel
theorem dX1_strike_17 : decode cX1_strike 17 = .ok (.iload_n 1, 1) := by decide +kernel
theorem dX1_strike_18 : decode cX1_strike 18 = .ok (.baload, 1) := by decide +kernel
theorem dX1_strike_19 : decode cX1_strike 19 = .ok (.ifCond .ne 7, 3) := by decide +kernel
theorem dX1_strike_22 : decode cX1_strike 22 = .ok (.iconst 1, 1) := by decide +kernel
theorem dX1_strike_23 : decode cX1_strike 23 = .ok (.goto 4, 3) := by decide +kernel
theorem dX1_strike_26 : decode cX1_strike 26 = .ok (.iconst 0, 1) := by decide +kernel
theorem dX1_strike_27 : decode cX1_strike 27 = .ok (.bastore, 1) := by decide +kernel
theorem dX1_strike_28 : decode cX1_strike 28 = .ok (.aload_n 0, 1) := by decide +kernel
theorem dX1_strike_29 : decode cX1_strike 29 = .ok (.getfield 25, 3) := by decide +kernel
theorem dX1_strike_32 : decode cX1_strike 32 = .ok (.iload_n 1, 1) := by decide +kernel
theorem dX1_strike_33 : decode cX1_strike 33 = .ok (.baload, 1) := by decide +kernel
theorem dX1_strike_34 : decode cX1_strike 34 = .ok (.ireturn, 1) := by decide +kernel
set_option maxRecDepth 20000 in
theorem ggX1_shift_X1_needIndex : GoodIn wsX1_shift wsX1_needIndex := goodIn_ca (goodIn_r _ [6, 7, 8] (by decide +kernel) (by decide +kernel)) (goodIn_sub (fun _ h => List.mem_cons_of_mem _ (List.mem_append_right _ h)) (by decide +kernel))
set_option maxRecDepth 20000 in
theorem gX1_shift_X1_needIndex : GoodIn wsX1_shift (va_wsS RX1 42 yX1_needIndex wsX1_needIndex) := goodIn_app (goodIn_of _ (by decide +kernel)) ggX1_shift_X1_needIndex
set_option maxRecDepth 20000 in
theorem ggX1_shift_X1_swap : GoodIn wsX1_shift wsX1_swap := goodIn_r _ [12, 2, 13, 14, 15, 16, 17, 5, 18, 19, 20, 21, 22, 23, 24, 25, 26] (by decide +kernel) (by decide +kernel)
set_option maxRecDepth 20000 in
theorem gX1_shift_X1_swap : GoodIn wsX1_shift (wsV RX1 54 RX1 yX1_swap wsX1_swap) := goodIn_app (goodIn_of _ (by decide +kernel)) ggX1_shift_X1_swap
theorem dX1_shift_0 : decode cX1_shift 0 = .ok (.iload_n 1, 1) := by decide +kernel
theorem dX1_shift_1 : decode cX1_shift 1 = .ok (.aload_n 0, 1) := by decide +kernel
theorem dX1_shift_2 : decode cX1_shift 2 = .ok (.getfield 29, 3) := by decide +kernel
theorem dX1_shift_5 : decode cX1_shift 5 = .ok (.invokestatic 42, 3) := by decide +kernel
theorem dX1_shift_8 : decode cX1_shift 8 = .ok (.iload_n 2, 1) := by decide +kernel
theorem dX1_shift_9 : decode cX1_shift 9 = .ok (.aload_n 0, 1) := by decide +kernel
theorem dX1_shift_10 : decode cX1_shift 10 = .ok (.getfield 29, 3) := by decide +kernel
theorem dX1_shift_13 : decode cX1_shift 13 = .ok (.invokestatic 42, 3) := by decide +kernel
theorem dX1_shift_16 : decode cX1_shift 16 = .ok (.aload_n 0, 1) := by decide +kernel
theorem dX1_shift_17 : decode cX1_shift 17 = .ok (.getfield 16, 3) := by decide +kernel
theorem dX1_shift_20 : decode cX1_shift 20 = .ok (.iload_n 1, 1) := by decide +kernel
theorem dX1_shift_21 : decode cX1_shift 21 = .ok (.iaload, 1) := by decide +kernel
theorem dX1_shift_22 : decode cX1_shift 22 = .ok (.istore_n 3, 1) := by decide +kernel
theorem dX1_shift_23 : decode cX1_shift 23 = .ok (.iload_n 1, 1) := by decide +kernel
theorem dX1_shift_24 : decode cX1_shift 24 = .ok (.istore 4, 2) := by decide +kernel
theorem dX1_shift_26 : decode cX1_shift 26 = .ok (.iload 4, 2) := by decide +kernel
theorem dX1_shift_28 : decode cX1_shift 28 = .ok (.iload_n 2, 1) := by decide +kernel
theorem dX1_shift_29 : decode cX1_shift 29 = .ok (.if_icmp .ge 19, 3) := by decide +kernel
theorem dX1_shift_32 : decode cX1_shift 32 = .ok (.aload_n 0, 1) := by decide +kernel
theorem dX1_shift_33 : decode cX1_shift 33 = .ok (.iload 4, 2) := by decide +kernel
theorem dX1_shift_35 : decode cX1_shift 35 = .ok (.iload 4, 2) := by decide +kernel
theorem dX1_shift_37 : decode cX1_shift 37 = .ok (.iconst 1, 1) := by decide +kernel
theorem dX1_shift_38 : decode cX1_shift 38 = .ok (.iadd, 1) := by decide +kernel
theorem dX1_shift_39 : decode cX1_shift 39 = .ok (.invokevirtual 54, 3) := by decide +kernel
theorem dX1_shift_42 : decode cX1_shift 42 = .ok (.iinc 4 1, 3) := by decide +kernel
theorem dX1_shift_45 : decode cX1_shift 45 = .ok (.goto (-19), 3) := by decide +kernel
theorem dX1_shift_48 : decode cX1_shift 48 = .ok (.iload_n 1, 1) := by decide +kernel
theorem dX1_shift_49 : decode cX1_shift 49 = .ok (.istore 4, 2) := by decide +kernel
theorem dX1_shift_51 : decode cX1_shift 51 = .ok (.iload 4, 2) := by decide +kernel
theorem dX1_shift_53 : decode cX1_shift 53 = .ok (.iload_n 2, 1) := by decide +kernel
theorem dX1_shift_54 : decode cX1_shift 54 = .ok (.if_icmp .le 19, 3) := by decide +kernel
theorem dX1_shift_57 : decode cX1_shift 57 = .ok (.aload_n 0, 1) := by decide +kernel
theorem dX1_shift_58 : decode cX1_shift 58 = .ok (.iload 4, 2) := by decide +kernel
theorem dX1_shift_60 : decode cX1_shift 60 = .ok (.iload 4, 2) := by decide +kernel
theorem dX1_shift_62 : decode cX1_shift 62 = .ok (.iconst 1, 1) := by decide +kernel
theorem dX1_shift_63 : decode cX1_shift 63 = .ok (.isub, 1) := by decide +kernel
theorem dX1_shift_64 : decode cX1_shift 64 = .ok (.invokevirtual 54, 3) := by decide +kernel
theorem dX1_shift_67 : decode cX1_shift 67 = .ok (.iinc 4 (-1), 3) := by decide +kernel
theorem dX1_shift_70 : decode cX1_shift 70 = .ok (.goto (-19), 3) := by decide +kernel
theorem dX1_shift_73 : decode cX1_shift 73 = .ok (.iload_n 3, 1) := by decide +kernel
theorem dX1_shift_74 : decode cX1_shift 74 = .ok (.ireturn, 1) := by decide +kernel
theorem dX1_tear_0 : decode cX1_tear 0 = .ok (.aload_n 0, 1) := by decide +kernel
theorem dX1_tear_1 : decode cX1_tear 1 = .ok (.getfield 29, 3) := by decide +kernel
theorem dX1_tear_4 : decode cX1_tear 4 = .ok (.ifCond .ne 13, 3) := by decide +kernel
theorem dX1_tear_7 : decode cX1_tear 7 = .ok (.new 57, 3) := by decide +kernel
theorem dX1_tear_10 : decode cX1_tear 10 = .ok (.dup, 1) := by decide +kernel
theorem dX1_tear_11 : decode cX1_tear 11 = .ok (.ldc 59, 2) := by decide +kernel
theorem dX1_tear_13 : decode cX1_tear 13 = .ok (.invokespecial 61, 3) := by decide +kernel
theorem dX1_tear_16 : decode cX1_tear 16 = .ok (.athrow, 1) := by decide +kernel
theorem dX1_tear_17 : decode cX1_tear 17 = .ok (.aload_n 0, 1) := by decide +kernel
theorem dX1_tear_18 : decode cX1_tear 18 = .ok (.dup, 1) := by decide +kernel
theorem dX1_tear_19 : decode cX1_tear 19 = .ok (.getfield 29, 3) := by decide +kernel
theorem dX1_tear_22 : decode cX1_tear 22 = .ok (.iconst 1, 1) := by decide +kernel
theorem dX1_tear_23 : decode cX1_tear 23 = .ok (.isub, 1) := by decide +kernel
theorem dX1_tear_24 : decode cX1_tear 24 = .ok (.putfield 29, 3) := by decide +kernel
theorem dX1_tear_27 : decode cX1_tear 27 = .ok (.aload_n 0, 1) := by decide +kernel
theorem dX1_tear_28 : decode cX1_tear 28 = .ok (.getfield 16, 3) := by decide +kernel
theorem dX1_tear_31 : decode cX1_tear 31 = .ok (.aload_n 0, 1) := by decide +kernel
theorem dX1_tear_32 : decode cX1_tear 32 = .ok (.getfield 29, 3) := by decide +kernel
theorem dX1_tear_35 : decode cX1_tear 35 = .ok (.iaload, 1) := by decide +kernel
theorem dX1_tear_36 : decode cX1_tear 36 = .ok (.ireturn, 1) := by decide +kernel
set_option maxRecDepth 20000 in
theorem ggX1_entry_X1_needIndex : GoodIn wsX1_entry wsX1_needIndex := goodIn_ca (goodIn_r _ [9, 10, 11] (by decide +kernel) (by decide +kernel)) (goodIn_sub (fun _ h => List.mem_cons_of_mem _ (List.mem_append_right _ h)) (by decide +kernel))
set_option maxRecDepth 20000 in
theorem gX1_entry_X1_needIndex : GoodIn wsX1_entry (va_wsS RX1 42 yX1_needIndex wsX1_needIndex) := goodIn_app (goodIn_of _ (by decide +kernel)) ggX1_entry_X1_needIndex
set_option maxRecDepth 20000 in
theorem ggX1_entry_X1_counts : GoodIn wsX1_entry wsX1_counts := goodIn_r _ [15, 5, 16, 2, 3, 4, 17, 18, 19, 8, 20, 21, 22, 23, 24, 25, 26, 27, 28, 29, 30, 31, 32, 33, 34, 35, 36, 37, 38, 39, 40, 41, 42, 43, 44, 45, 46, 47, 48, 49, 50, 51, 52, 53, 54, 55, 56, 57, 58, 59, 60, 61, 62, 63, 64, 65, 66, 67, 68, 69, 70, 71, 72, 73, 74, 75, 76, 77, 78, 79, 80, 81, 82, 83, 84, 85, 86, 87, 88, 89, 90, 91, 92, 93, 94, 95, 96, 97, 98, 99, 100, 101, 102, 103, 104, 105, 106, 107, 108] (by decide +kernel) (by decide +kernel)
set_option maxRecDepth 20000 in
theorem gX1_entry_X1_counts : GoodIn wsX1_entry (wsV RX1 64 RX1 yX1_counts wsX1_counts) := goodIn_app (goodIn_of _ (by decide +kernel)) ggX1_entry_X1_counts
theorem dX1_entry_0 : decode cX1_entry 0 = .ok (.iload_n 1, 1) := by decide +kernel
theorem dX1_entry_1 : decode cX1_entry 1 = .ok (.aload_n 0, 1) := by decide +kernel
theorem dX1_entry_2 : decode cX1_entry 2 = .ok (.getfield 29, 3) := by decide +kernel
theorem dX1_entry_5 : decode cX1_entry 5 = .ok (.invokestatic 42, 3) := by decide +kernel
theorem dX1_entry_8 : decode cX1_entry 8 = .ok (.iload_n 2, 1) := by decide +kernel
theorem dX1_entry_9 : decode cX1_entry 9 = .ok (.iconst 5, 1) := by decide +kernel
theorem dX1_entry_10 : decode cX1_entry 10 = .ok (.invokestatic 42, 3) := by decide +kernel
theorem dX1_entry_13 : decode cX1_entry 13 = .ok (.iload_n 2, 1) := by decide +kernel
theorem dX1_entry_14 : decode cX1_entry 14 = .ok (.tableswitch 66 0 3 #[30, 37, 44, 51], 30) := by decide +kernel
theorem dX1_entry_44 : decode cX1_entry 44 = .ok (.aload_n 0, 1) := by decide +kernel
theorem dX1_entry_45 : decode cX1_entry 45 = .ok (.getfield 16, 3) := by decide +kernel
theorem dX1_entry_48 : decode cX1_entry 48 = .ok (.iload_n 1, 1) := by decide +kernel
theorem dX1_entry_49 : decode cX1_entry 49 = .ok (.iaload, 1) := by decide +kernel
theorem dX1_entry_50 : decode cX1_entry 50 = .ok (.ireturn, 1) := by decide +kernel
theorem dX1_entry_51 : decode cX1_entry 51 = .ok (.aload_n 0, 1) := by decide +kernel
theorem dX1_entry_52 : decode cX1_entry 52 = .ok (.getfield 19, 3) := by decide +kernel
theorem dX1_entry_55 : decode cX1_entry 55 = .ok (.iload_n 1, 1) := by decide +kernel
theorem dX1_entry_56 : decode cX1_entry 56 = .ok (.iaload, 1) := by decide +kernel
theorem dX1_entry_57 : decode cX1_entry 57 = .ok (.ireturn, 1) := by decide +kernel
theorem dX1_entry_58 : decode cX1_entry 58 = .ok (.aload_n 0, 1) := by decide +kernel
theorem dX1_entry_59 : decode cX1_entry 59 = .ok (.getfield 22, 3) := by decide +kernel
theorem dX1_entry_62 : decode cX1_entry 62 = .ok (.iload_n 1, 1) := by decide +kernel
theorem dX1_entry_63 : decode cX1_entry 63 = .ok (.iaload, 1) := by decide +kernel
theorem dX1_entry_64 : decode cX1_entry 64 = .ok (.ireturn, 1) := by decide +kernel
theorem dX1_entry_65 : decode cX1_entry 65 = .ok (.aload_n 0, 1) := by decide +kernel
theorem dX1_entry_66 : decode cX1_entry 66 = .ok (.getfield 25, 3) := by decide +kernel
theorem dX1_entry_69 : decode cX1_entry 69 = .ok (.iload_n 1, 1) := by decide +kernel
theorem dX1_entry_70 : decode cX1_entry 70 = .ok (.baload, 1) := by decide +kernel
theorem dX1_entry_71 : decode cX1_entry 71 = .ok (.ifCond .eq 7, 3) := by decide +kernel
theorem dX1_entry_74 : decode cX1_entry 74 = .ok (.iconst 1, 1) := by decide +kernel
theorem dX1_entry_75 : decode cX1_entry 75 = .ok (.goto 4, 3) := by decide +kernel
theorem dX1_entry_78 : decode cX1_entry 78 = .ok (.iconst 0, 1) := by decide +kernel
theorem dX1_entry_79 : decode cX1_entry 79 = .ok (.ireturn, 1) := by decide +kernel
theorem dX1_entry_80 : decode cX1_entry 80 = .ok (.aload_n 0, 1) := by decide +kernel
theorem dX1_entry_81 : decode cX1_entry 81 = .ok (.iload_n 1, 1) := by decide +kernel
theorem dX1_entry_82 : decode cX1_entry 82 = .ok (.invokevirtual 64, 3) := by decide +kernel
theorem dX1_entry_85 : decode cX1_entry 85 = .ok (.ifCond .eq 7, 3) := by decide +kernel
theorem dX1_entry_88 : decode cX1_entry 88 = .ok (.iconst 1, 1) := by decide +kernel
theorem dX1_entry_89 : decode cX1_entry 89 = .ok (.goto 4, 3) := by decide +kernel
theorem dX1_entry_92 : decode cX1_entry 92 = .ok (.iconst 0, 1) := by decide +kernel
theorem dX1_entry_93 : decode cX1_entry 93 = .ok (.ireturn, 1) := by decide +kernel
set_option maxRecDepth 20000 in
theorem ggX1_behind_X1_needWithin : GoodIn wsX1_behind wsX1_needWithin := goodIn_ca (goodIn_r _ [6, 7, 8] (by decide +kernel) (by decide +kernel)) (goodIn_sub (fun _ h => List.mem_cons_of_mem _ (List.mem_append_left _ (List.mem_append_right _ h))) (by decide +kernel))
set_option maxRecDepth 20000 in
theorem gX1_behind_X1_needWithin : GoodIn wsX1_behind (va_wsS RX1 46 yX1_needWithin wsX1_needWithin) := goodIn_app (goodIn_of _ (by decide +kernel)) ggX1_behind_X1_needWithin
set_option maxRecDepth 20000 in
theorem ggX1_behind_X1_needIndex : GoodIn wsX1_behind wsX1_needIndex := goodIn_ca (goodIn_r _ [11, 12, 13] (by decide +kernel) (by decide +kernel)) (goodIn_sub (fun _ h => List.mem_cons_of_mem _ (List.mem_append_right _ h)) (by decide +kernel))
set_option maxRecDepth 20000 in
theorem gX1_behind_X1_needIndex : GoodIn wsX1_behind (va_wsS RX1 42 yX1_needIndex wsX1_needIndex) := goodIn_app (goodIn_of _ (by decide +kernel)) ggX1_behind_X1_needIndex
set_option maxRecDepth 20000 in
theorem ggX1_behind_X1_reckon : GoodIn wsX1_behind wsX1_reckon := goodIn_r _ [17, 2, 18, 19, 20, 21, 22, 23, 24, 25, 26, 27, 28, 29, 30, 31, 32, 33, 34, 35, 36, 37, 38, 39, 40, 41, 42, 43, 44, 45, 46, 47, 48, 49, 50, 51, 52, 53, 54, 55, 56, 57, 58, 59, 60, 61, 62, 63, 64, 65, 66, 67, 68, 69, 70, 71, 72, 73, 74, 75, 76, 77, 78, 79, 80, 81, 82, 83, 84, 85, 86, 87, 88, 89, 90, 94, 95, 96, 97, 98, 99, 100, 101, 102, 103, 104, 105, 106, 107, 108, 109, 110, 111, 112] (by decide +kernel) (by decide +kernel)
set_option maxRecDepth 20000 in
theorem gX1_behind_X1_reckon : GoodIn wsX1_behind (wsV RX1 68 RX1 yX1_reckon wsX1_reckon) := goodIn_app (goodIn_of _ (by decide +kernel)) ggX1_behind_X1_reckon
set_option maxRecDepth 20000 in
theorem ggX1_behind_X0_trustOfAll : GoodIn wsX1_behind wsX0_trustOfAll := goodIn_r _ [93, 29, 49, 102, 103, 104, 105, 106, 107, 108, 109, 110, 111, 112] (by decide +kernel) (by decide +kernel)
set_option maxRecDepth 20000 in
theorem gX1_behind_X0_trustOfAll_n83 : GoodIn wsX1_behind (wsX0_trustOfAll) := ggX1_behind_X0_trustOfAll
theorem dX1_behind_0 : decode cX1_behind 0 = .ok (.iload_n 1, 1) := by decide +kernel
theorem dX1_behind_1 : decode cX1_behind 1 = .ok (.iconst 0, 1) := by decide +kernel
theorem dX1_behind_2 : decode cX1_behind 2 = .ok (.aload_n 0, 1) := by decide +kernel
theorem dX1_behind_3 : decode cX1_behind 3 = .ok (.getfield 29, 3) := by decide +kernel
theorem dX1_behind_6 : decode cX1_behind 6 = .ok (.invokestatic 46, 3) := by decide +kernel
theorem dX1_behind_9 : decode cX1_behind 9 = .ok (.iload_n 2, 1) := by decide +kernel
theorem dX1_behind_10 : decode cX1_behind 10 = .ok (.bipush 7, 2) := by decide +kernel
theorem dX1_behind_12 : decode cX1_behind 12 = .ok (.invokestatic 42, 3) := by decide +kernel
theorem dX1_behind_15 : decode cX1_behind 15 = .ok (.aload_n 0, 1) := by decide +kernel
theorem dX1_behind_16 : decode cX1_behind 16 = .ok (.iload_n 1, 1) := by decide +kernel
theorem dX1_behind_17 : decode cX1_behind 17 = .ok (.iconst (-1), 1) := by decide +kernel
theorem dX1_behind_18 : decode cX1_behind 18 = .ok (.invokevirtual 68, 3) := by decide +kernel
theorem dX1_behind_21 : decode cX1_behind 21 = .ok (.iload_n 2, 1) := by decide +kernel
theorem dX1_behind_22 : decode cX1_behind 22 = .ok (.tableswitch 86 0 5 #[38, 46, 54, 62, 70, 78], 38) := by decide +kernel
theorem dX1_behind_60 : decode cX1_behind 60 = .ok (.aload_n 0, 1) := by decide +kernel
theorem dX1_behind_61 : decode cX1_behind 61 = .ok (.getfield 38, 3) := by decide +kernel
theorem dX1_behind_64 : decode cX1_behind 64 = .ok (.getfield 71, 3) := by decide +kernel
theorem dX1_behind_67 : decode cX1_behind 67 = .ok (.ireturn, 1) := by decide +kernel
theorem dX1_behind_68 : decode cX1_behind 68 = .ok (.aload_n 0, 1) := by decide +kernel
theorem dX1_behind_69 : decode cX1_behind 69 = .ok (.getfield 38, 3) := by decide +kernel
theorem dX1_behind_72 : decode cX1_behind 72 = .ok (.getfield 74, 3) := by decide +kernel
theorem dX1_behind_75 : decode cX1_behind 75 = .ok (.ireturn, 1) := by decide +kernel
theorem dX1_behind_76 : decode cX1_behind 76 = .ok (.aload_n 0, 1) := by decide +kernel
theorem dX1_behind_77 : decode cX1_behind 77 = .ok (.getfield 38, 3) := by decide +kernel
theorem dX1_behind_80 : decode cX1_behind 80 = .ok (.getfield 77, 3) := by decide +kernel
theorem dX1_behind_83 : decode cX1_behind 83 = .ok (.ireturn, 1) := by decide +kernel
theorem dX1_behind_84 : decode cX1_behind 84 = .ok (.aload_n 0, 1) := by decide +kernel
theorem dX1_behind_85 : decode cX1_behind 85 = .ok (.getfield 38, 3) := by decide +kernel
theorem dX1_behind_88 : decode cX1_behind 88 = .ok (.getfield 80, 3) := by decide +kernel
theorem dX1_behind_91 : decode cX1_behind 91 = .ok (.ireturn, 1) := by decide +kernel
theorem dX1_behind_92 : decode cX1_behind 92 = .ok (.aload_n 0, 1) := by decide +kernel
theorem dX1_behind_93 : decode cX1_behind 93 = .ok (.getfield 38, 3) := by decide +kernel
theorem dX1_behind_96 : decode cX1_behind 96 = .ok (.invokevirtual 83, 3) := by decide +kernel
theorem dX1_behind_99 : decode cX1_behind 99 = .ok (.ireturn, 1) := by decide +kernel
theorem dX1_behind_100 : decode cX1_behind 100 = .ok (.aload_n 0, 1) := by decide +kernel
theorem dX1_behind_101 : decode cX1_behind 101 = .ok (.getfield 38, 3) := by decide +kernel
theorem dX1_behind_104 : decode cX1_behind 104 = .ok (.getfield 87, 3) := by decide +kernel
theorem dX1_behind_107 : decode cX1_behind 107 = .ok (.ireturn, 1) := by decide +kernel
theorem dX1_behind_108 : decode cX1_behind 108 = .ok (.aload_n 0, 1) := by decide +kernel
theorem dX1_behind_109 : decode cX1_behind 109 = .ok (.getfield 38, 3) := by decide +kernel
theorem dX1_behind_112 : decode cX1_behind 112 = .ok (.getfield 90, 3) := by decide +kernel
theorem dX1_behind_115 : decode cX1_behind 115 = .ok (.ireturn, 1) := by decide +kernel
set_option maxRecDepth 20000 in
theorem ggX1_trust_X1_needIndex : GoodIn wsX1_trust wsX1_needIndex := goodIn_ca (goodIn_r _ [6, 7, 8] (by decide +kernel) (by decide +kernel)) (goodIn_sub (fun _ h => List.mem_cons_of_mem _ (List.mem_append_left _ (List.mem_append_right _ h))) (by decide +kernel))
set_option maxRecDepth 20000 in
theorem gX1_trust_X1_needIndex : GoodIn wsX1_trust (va_wsS RX1 42 yX1_needIndex wsX1_needIndex) := goodIn_app (goodIn_of _ (by decide +kernel)) ggX1_trust_X1_needIndex
set_option maxRecDepth 20000 in
theorem ggX1_trust_X1_needWithin : GoodIn wsX1_trust wsX1_needWithin := goodIn_ca (goodIn_r _ [11, 12, 13] (by decide +kernel) (by decide +kernel)) (goodIn_sub (fun _ h => List.mem_cons_of_mem _ (List.mem_append_right _ h)) (by decide +kernel))
set_option maxRecDepth 20000 in
theorem gX1_trust_X1_needWithin : GoodIn wsX1_trust (va_wsS RX1 46 yX1_needWithin wsX1_needWithin) := goodIn_app (goodIn_of _ (by decide +kernel)) ggX1_trust_X1_needWithin
set_option maxRecDepth 20000 in
theorem ggX1_trust_X1_reckon : GoodIn wsX1_trust wsX1_reckon := goodIn_r _ [17, 2, 18, 19, 20, 21, 22, 23, 24, 25, 26, 27, 28, 29, 30, 31, 32, 33, 34, 35, 36, 37, 38, 39, 40, 41, 42, 43, 44, 45, 46, 47, 48, 49, 50, 51, 52, 53, 54, 55, 56, 57, 58, 59, 60, 61, 62, 63, 64, 65, 66, 67, 68, 69, 70, 71, 72, 73, 74, 75, 76, 77, 78, 79, 80, 81, 82, 83, 84, 85, 86, 87, 88, 89, 90, 91, 92, 93, 94, 95, 96, 97, 98, 99, 100, 101, 102, 103, 104, 105, 106, 107, 108, 109] (by decide +kernel) (by decide +kernel)
set_option maxRecDepth 20000 in
theorem gX1_trust_X1_reckon : GoodIn wsX1_trust (wsV RX1 68 RX1 yX1_reckon wsX1_reckon) := goodIn_app (goodIn_of _ (by decide +kernel)) ggX1_trust_X1_reckon
set_option maxRecDepth 20000 in
theorem ggX1_trust_X0_hasJoined : GoodIn wsX1_trust wsX0_hasJoined := goodIn_r _ [62, 29, 99, 100, 101, 102, 103, 104, 105, 106, 107, 108, 109] (by decide +kernel) (by decide +kernel)
set_option maxRecDepth 20000 in
theorem gX1_trust_X0_hasJoined_n93 : GoodIn wsX1_trust (wsX0_hasJoined) := ggX1_trust_X0_hasJoined
theorem dX1_trust_0 : decode cX1_trust 0 = .ok (.iload_n 1, 1) := by decide +kernel
theorem dX1_trust_1 : decode cX1_trust 1 = .ok (.bipush 6, 2) := by decide +kernel
theorem dX1_trust_3 : decode cX1_trust 3 = .ok (.invokestatic 42, 3) := by decide +kernel
theorem dX1_trust_6 : decode cX1_trust 6 = .ok (.iload_n 2, 1) := by decide +kernel
theorem dX1_trust_7 : decode cX1_trust 7 = .ok (.iconst 0, 1) := by decide +kernel
theorem dX1_trust_8 : decode cX1_trust 8 = .ok (.aload_n 0, 1) := by decide +kernel
theorem dX1_trust_9 : decode cX1_trust 9 = .ok (.getfield 29, 3) := by decide +kernel
theorem dX1_trust_12 : decode cX1_trust 12 = .ok (.invokestatic 46, 3) := by decide +kernel
theorem dX1_trust_15 : decode cX1_trust 15 = .ok (.aload_n 0, 1) := by decide +kernel
theorem dX1_trust_16 : decode cX1_trust 16 = .ok (.iload_n 2, 1) := by decide +kernel
theorem dX1_trust_17 : decode cX1_trust 17 = .ok (.iconst (-1), 1) := by decide +kernel
theorem dX1_trust_18 : decode cX1_trust 18 = .ok (.invokevirtual 68, 3) := by decide +kernel
theorem dX1_trust_21 : decode cX1_trust 21 = .ok (.aload_n 0, 1) := by decide +kernel
theorem dX1_trust_22 : decode cX1_trust 22 = .ok (.getfield 38, 3) := by decide +kernel
theorem dX1_trust_25 : decode cX1_trust 25 = .ok (.iload_n 1, 1) := by decide +kernel
theorem dX1_trust_26 : decode cX1_trust 26 = .ok (.invokevirtual 93, 3) := by decide +kernel
theorem dX1_trust_29 : decode cX1_trust 29 = .ok (.ifCond .eq 15, 3) := by decide +kernel
theorem dX1_trust_32 : decode cX1_trust 32 = .ok (.aload_n 0, 1) := by decide +kernel
theorem dX1_trust_33 : decode cX1_trust 33 = .ok (.getfield 38, 3) := by decide +kernel
theorem dX1_trust_36 : decode cX1_trust 36 = .ok (.getfield 96, 3) := by decide +kernel
theorem dX1_trust_39 : decode cX1_trust 39 = .ok (.iload_n 1, 1) := by decide +kernel
theorem dX1_trust_40 : decode cX1_trust 40 = .ok (.iaload, 1) := by decide +kernel
theorem dX1_trust_41 : decode cX1_trust 41 = .ok (.goto 4, 3) := by decide +kernel
theorem dX1_trust_44 : decode cX1_trust 44 = .ok (.iconst (-1), 1) := by decide +kernel
theorem dX1_trust_45 : decode cX1_trust 45 = .ok (.ireturn, 1) := by decide +kernel
set_option maxRecDepth 20000 in
theorem ggX1_count_X1_needIndex : GoodIn wsX1_count wsX1_needIndex := goodIn_ca (goodIn_r _ [6, 7, 8] (by decide +kernel) (by decide +kernel)) (goodIn_sub (fun _ h => List.mem_cons_of_mem _ (List.mem_append_right _ h)) (by decide +kernel))
set_option maxRecDepth 20000 in
theorem gX1_count_X1_needIndex : GoodIn wsX1_count (va_wsS RX1 42 yX1_needIndex wsX1_needIndex) := goodIn_app (goodIn_of _ (by decide +kernel)) ggX1_count_X1_needIndex
set_option maxRecDepth 20000 in
theorem ggX1_count_X1_reckon : GoodIn wsX1_count wsX1_reckon := goodIn_r _ [12, 2, 13, 14, 15, 16, 17, 18, 19, 20, 21, 22, 23, 24, 25, 26, 27, 28, 29, 30, 31, 32, 33, 34, 35, 36, 37, 38, 39, 40, 41, 42, 43, 44, 45, 46, 47, 48, 49, 50, 51, 52, 53, 54, 55, 56, 57, 58, 59, 60, 61, 62, 63, 64, 65, 66, 67, 68, 69, 70, 71, 72, 73, 74, 75, 76, 77, 78, 79, 80, 81, 82, 83, 84, 85, 86, 87, 88, 89, 90, 91, 92, 93, 94, 95, 96, 97, 98, 99, 100, 101, 102, 103, 104] (by decide +kernel) (by decide +kernel)
set_option maxRecDepth 20000 in
theorem gX1_count_X1_reckon : GoodIn wsX1_count (wsV RX1 68 RX1 yX1_reckon wsX1_reckon) := goodIn_app (goodIn_of _ (by decide +kernel)) ggX1_count_X1_reckon
theorem dX1_count_0 : decode cX1_count 0 = .ok (.iload_n 1, 1) := by decide +kernel
theorem dX1_count_1 : decode cX1_count 1 = .ok (.bipush 6, 2) := by decide +kernel
theorem dX1_count_3 : decode cX1_count 3 = .ok (.invokestatic 42, 3) := by decide +kernel
theorem dX1_count_6 : decode cX1_count 6 = .ok (.aload_n 0, 1) := by decide +kernel
theorem dX1_count_7 : decode cX1_count 7 = .ok (.aload_n 0, 1) := by decide +kernel
theorem dX1_count_8 : decode cX1_count 8 = .ok (.getfield 29, 3) := by decide +kernel
theorem dX1_count_11 : decode cX1_count 11 = .ok (.iconst (-1), 1) := by decide +kernel
theorem dX1_count_12 : decode cX1_count 12 = .ok (.invokevirtual 68, 3) := by decide +kernel
theorem dX1_count_15 : decode cX1_count 15 = .ok (.iload_n 1, 1) := by decide +kernel
theorem dX1_count_16 : decode cX1_count 16 = .ok (.tableswitch 86 0 4 #[36, 41, 62, 70, 78], 36) := by decide +kernel
theorem dX1_count_52 : decode cX1_count 52 = .ok (.aload_n 0, 1) := by decide +kernel
theorem dX1_count_53 : decode cX1_count 53 = .ok (.getfield 29, 3) := by decide +kernel
theorem dX1_count_56 : decode cX1_count 56 = .ok (.ireturn, 1) := by decide +kernel
theorem dX1_count_57 : decode cX1_count 57 = .ok (.aload_n 0, 1) := by decide +kernel
theorem dX1_count_58 : decode cX1_count 58 = .ok (.getfield 29, 3) := by decide +kernel
theorem dX1_count_61 : decode cX1_count 61 = .ok (.aload_n 0, 1) := by decide +kernel
theorem dX1_count_62 : decode cX1_count 62 = .ok (.getfield 38, 3) := by decide +kernel
theorem dX1_count_65 : decode cX1_count 65 = .ok (.getfield 87, 3) := by decide +kernel
theorem dX1_count_68 : decode cX1_count 68 = .ok (.isub, 1) := by decide +kernel
theorem dX1_count_69 : decode cX1_count 69 = .ok (.aload_n 0, 1) := by decide +kernel
theorem dX1_count_70 : decode cX1_count 70 = .ok (.getfield 38, 3) := by decide +kernel
theorem dX1_count_73 : decode cX1_count 73 = .ok (.getfield 90, 3) := by decide +kernel
theorem dX1_count_76 : decode cX1_count 76 = .ok (.isub, 1) := by decide +kernel
theorem dX1_count_77 : decode cX1_count 77 = .ok (.ireturn, 1) := by decide +kernel
theorem dX1_count_78 : decode cX1_count 78 = .ok (.aload_n 0, 1) := by decide +kernel
theorem dX1_count_79 : decode cX1_count 79 = .ok (.getfield 38, 3) := by decide +kernel
theorem dX1_count_82 : decode cX1_count 82 = .ok (.getfield 87, 3) := by decide +kernel
theorem dX1_count_85 : decode cX1_count 85 = .ok (.ireturn, 1) := by decide +kernel
theorem dX1_count_86 : decode cX1_count 86 = .ok (.aload_n 0, 1) := by decide +kernel
theorem dX1_count_87 : decode cX1_count 87 = .ok (.getfield 38, 3) := by decide +kernel
theorem dX1_count_90 : decode cX1_count 90 = .ok (.getfield 71, 3) := by decide +kernel
theorem dX1_count_93 : decode cX1_count 93 = .ok (.ireturn, 1) := by decide +kernel
theorem dX1_count_94 : decode cX1_count 94 = .ok (.aload_n 0, 1) := by decide +kernel
theorem dX1_count_95 : decode cX1_count 95 = .ok (.getfield 38, 3) := by decide +kernel
theorem dX1_count_98 : decode cX1_count 98 = .ok (.getfield 99, 3) := by decide +kernel
theorem dX1_count_101 : decode cX1_count 101 = .ok (.ireturn, 1) := by decide +kernel
theorem dX1_count_102 : decode cX1_count 102 = .ok (.aload_n 0, 1) := by decide +kernel
theorem dX1_count_103 : decode cX1_count 103 = .ok (.getfield 38, 3) := by decide +kernel
theorem dX1_count_106 : decode cX1_count 106 = .ok (.getfield 102, 3) := by decide +kernel
theorem dX1_count_109 : decode cX1_count 109 = .ok (.ireturn, 1) := by decide +kernel
set_option maxRecDepth 20000 in
theorem ggX1_worth_X1_needIndex : GoodIn wsX1_worth wsX1_needIndex := goodIn_ca (goodIn_r _ [5, 6, 7] (by decide +kernel) (by decide +kernel)) (goodIn_sub (fun _ h => List.mem_cons_of_mem _ (List.mem_append_right _ h)) (by decide +kernel))
set_option maxRecDepth 20000 in
theorem gX1_worth_X1_needIndex : GoodIn wsX1_worth (va_wsS RX1 42 yX1_needIndex wsX1_needIndex) := goodIn_app (goodIn_of _ (by decide +kernel)) ggX1_worth_X1_needIndex
set_option maxRecDepth 20000 in
theorem ggX1_worth_X1_coinsBehindAll : GoodIn wsX1_worth wsX1_coinsBehindAll := goodIn_r _ [11, 1, 12, 13, 14, 15, 4, 16, 17, 18, 19, 20, 21, 22, 23, 24, 25, 26, 27, 28, 29, 30, 31, 32, 33, 34, 35, 36, 37, 38, 39, 40, 41, 42, 43, 44, 45, 46, 47, 48, 49, 50, 51, 52, 53, 54, 55, 56, 57, 58, 59, 60, 61, 62, 63, 64, 65, 66, 67, 68, 69, 70, 71, 72, 73, 74, 75, 76, 77, 78, 79, 80, 81, 82, 83, 84, 85, 86, 87, 88, 89, 90, 91, 92, 93, 94, 95, 96, 97, 98, 99, 100, 101, 102, 103, 104, 105, 106, 107, 108] (by decide +kernel) (by decide +kernel)
set_option maxRecDepth 20000 in
theorem gX1_worth_X1_coinsBehindAll : GoodIn wsX1_worth (wsV RX1 105 RX1 yX1_coinsBehindAll wsX1_coinsBehindAll) := goodIn_app (goodIn_of _ (by decide +kernel)) ggX1_worth_X1_coinsBehindAll
theorem dX1_worth_0 : decode cX1_worth 0 = .ok (.iload_n 1, 1) := by decide +kernel
theorem dX1_worth_1 : decode cX1_worth 1 = .ok (.aload_n 0, 1) := by decide +kernel
theorem dX1_worth_2 : decode cX1_worth 2 = .ok (.getfield 29, 3) := by decide +kernel
theorem dX1_worth_5 : decode cX1_worth 5 = .ok (.invokestatic 42, 3) := by decide +kernel
theorem dX1_worth_8 : decode cX1_worth 8 = .ok (.aload_n 0, 1) := by decide +kernel
theorem dX1_worth_9 : decode cX1_worth 9 = .ok (.iconst (-1), 1) := by decide +kernel
theorem dX1_worth_10 : decode cX1_worth 10 = .ok (.invokevirtual 105, 3) := by decide +kernel
theorem dX1_worth_13 : decode cX1_worth 13 = .ok (.aload_n 0, 1) := by decide +kernel
theorem dX1_worth_14 : decode cX1_worth 14 = .ok (.iload_n 1, 1) := by decide +kernel
theorem dX1_worth_15 : decode cX1_worth 15 = .ok (.invokevirtual 105, 3) := by decide +kernel
theorem dX1_worth_18 : decode cX1_worth 18 = .ok (.isub, 1) := by decide +kernel
theorem dX1_worth_19 : decode cX1_worth 19 = .ok (.ireturn, 1) := by decide +kernel
set_option maxRecDepth 20000 in
theorem ggX1_best_X1_coinsBehindAll : GoodIn wsX1_best wsX1_coinsBehindAll := goodIn_r _ [7, 1, 8, 9, 10, 11, 6, 12, 2, 13, 14, 15, 16, 17, 18, 19, 20, 21, 22, 23, 24, 25, 26, 27, 28, 29, 30, 31, 32, 33, 34, 35, 36, 37, 38, 39, 40, 41, 42, 43, 44, 45, 46, 47, 48, 49, 50, 51, 52, 53, 54, 55, 56, 57, 58, 59, 60, 61, 62, 63, 64, 65, 66, 67, 68, 69, 70, 71, 72, 73, 74, 75, 76, 77, 78, 79, 80, 81, 82, 83, 84, 85, 86, 87, 88, 89, 90, 91, 92, 93, 94, 95, 96, 97, 98, 99, 100, 101, 102, 103] (by decide +kernel) (by decide +kernel)
set_option maxRecDepth 20000 in
theorem gX1_best_X1_coinsBehindAll : GoodIn wsX1_best (wsV RX1 105 RX1 yX1_coinsBehindAll wsX1_coinsBehindAll) := goodIn_app (goodIn_of _ (by decide +kernel)) ggX1_best_X1_coinsBehindAll
theorem dX1_best_0 : decode cX1_best 0 = .ok (.iconst (-1), 1) := by decide +kernel
theorem dX1_best_1 : decode cX1_best 1 = .ok (.istore_n 1, 1) := by decide +kernel
theorem dX1_best_2 : decode cX1_best 2 = .ok (.aload_n 0, 1) := by decide +kernel
theorem dX1_best_3 : decode cX1_best 3 = .ok (.iconst (-1), 1) := by decide +kernel
theorem dX1_best_4 : decode cX1_best 4 = .ok (.invokevirtual 105, 3) := by decide +kernel
theorem dX1_best_7 : decode cX1_best 7 = .ok (.istore_n 2, 1) := by decide +kernel
theorem dX1_best_8 : decode cX1_best 8 = .ok (.iconst 0, 1) := by decide +kernel
theorem dX1_best_9 : decode cX1_best 9 = .ok (.istore_n 3, 1) := by decide +kernel
theorem dX1_best_10 : decode cX1_best 10 = .ok (.iload_n 3, 1) := by decide +kernel
theorem dX1_best_11 : decode cX1_best 11 = .ok (.aload_n 0, 1) := by decide +kernel
theorem dX1_best_12 : decode cX1_best 12 = .ok (.getfield 29, 3) := by decide +kernel
theorem dX1_best_15 : decode cX1_best 15 = .ok (.if_icmp .ge 39, 3) := by decide +kernel
theorem dX1_best_18 : decode cX1_best 18 = .ok (.aload_n 0, 1) := by decide +kernel
theorem dX1_best_19 : decode cX1_best 19 = .ok (.getfield 25, 3) := by decide +kernel
theorem dX1_best_22 : decode cX1_best 22 = .ok (.iload_n 3, 1) := by decide +kernel
theorem dX1_best_23 : decode cX1_best 23 = .ok (.baload, 1) := by decide +kernel
theorem dX1_best_24 : decode cX1_best 24 = .ok (.ifCond .eq 6, 3) := by decide +kernel
theorem dX1_best_27 : decode cX1_best 27 = .ok (.goto 21, 3) := by decide +kernel
theorem dX1_best_30 : decode cX1_best 30 = .ok (.aload_n 0, 1) := by decide +kernel
theorem dX1_best_31 : decode cX1_best 31 = .ok (.iload_n 3, 1) := by decide +kernel
theorem dX1_best_32 : decode cX1_best 32 = .ok (.invokevirtual 105, 3) := by decide +kernel
theorem dX1_best_35 : decode cX1_best 35 = .ok (.istore 4, 2) := by decide +kernel
theorem dX1_best_37 : decode cX1_best 37 = .ok (.iload 4, 2) := by decide +kernel
theorem dX1_best_39 : decode cX1_best 39 = .ok (.iload_n 2, 1) := by decide +kernel
theorem dX1_best_40 : decode cX1_best 40 = .ok (.if_icmp .le 8, 3) := by decide +kernel
theorem dX1_best_43 : decode cX1_best 43 = .ok (.iload 4, 2) := by decide +kernel
theorem dX1_best_45 : decode cX1_best 45 = .ok (.istore_n 2, 1) := by decide +kernel
theorem dX1_best_46 : decode cX1_best 46 = .ok (.iload_n 3, 1) := by decide +kernel
theorem dX1_best_47 : decode cX1_best 47 = .ok (.istore_n 1, 1) := by decide +kernel
theorem dX1_best_48 : decode cX1_best 48 = .ok (.iinc 3 1, 3) := by decide +kernel
theorem dX1_best_51 : decode cX1_best 51 = .ok (.goto (-41), 3) := by decide +kernel
theorem dX1_best_54 : decode cX1_best 54 = .ok (.iload_n 1, 1) := by decide +kernel
theorem dX1_best_55 : decode cX1_best 55 = .ok (.ireturn, 1) := by decide +kernel
set_option maxRecDepth 20000 in
theorem ggX1_would_X1_needIndex : GoodIn wsX1_would wsX1_needIndex := goodIn_ca (goodIn_r _ [6, 7, 8] (by decide +kernel) (by decide +kernel)) (goodIn_sub (fun _ h => List.mem_cons_of_mem _ (List.mem_append_left _ (List.mem_append_right _ h))) (by decide +kernel))
set_option maxRecDepth 20000 in
theorem gX1_would_X1_needIndex : GoodIn wsX1_would (va_wsS RX1 42 yX1_needIndex wsX1_needIndex) := goodIn_app (goodIn_of _ (by decide +kernel)) ggX1_would_X1_needIndex
set_option maxRecDepth 20000 in
theorem ggX1_would_X1_needWithin : GoodIn wsX1_would wsX1_needWithin := goodIn_ca (goodIn_r _ [11, 12, 13] (by decide +kernel) (by decide +kernel)) (goodIn_sub (fun _ h => List.mem_cons_of_mem _ (List.mem_append_right _ h)) (by decide +kernel))
set_option maxRecDepth 20000 in
theorem gX1_would_X1_needWithin : GoodIn wsX1_would (va_wsS RX1 46 yX1_needWithin wsX1_needWithin) := goodIn_app (goodIn_of _ (by decide +kernel)) ggX1_would_X1_needWithin
set_option maxRecDepth 20000 in
theorem ggX1_would_X1_reckon : GoodIn wsX1_would wsX1_reckon := goodIn_r _ [17, 2, 18, 19, 20, 21, 22, 23, 24, 25, 26, 27, 28, 29, 30, 31, 32, 33, 34, 35, 36, 37, 38, 39, 40, 41, 42, 43, 44, 45, 46, 47, 48, 49, 50, 51, 52, 53, 54, 55, 56, 57, 58, 59, 60, 61, 62, 63, 64, 65, 66, 67, 68, 69, 70, 71, 72, 73, 74, 75, 76, 77, 78, 79, 80, 81, 82, 83, 84, 85, 86, 87, 88, 89, 90, 91, 92, 93, 94, 95, 96, 97, 98, 99, 100, 101, 102, 103, 104, 105, 106, 107, 108, 109] (by decide +kernel) (by decide +kernel)
set_option maxRecDepth 20000 in
theorem gX1_would_X1_reckon : GoodIn wsX1_would (wsV RX1 68 RX1 yX1_reckon wsX1_reckon) := goodIn_app (goodIn_of _ (by decide +kernel)) ggX1_would_X1_reckon
set_option maxRecDepth 20000 in
theorem ggX1_would_X0_standsFor : GoodIn wsX1_would wsX0_standsFor := goodIn_r _ [57, 49, 58, 28, 59, 60, 61, 23, 62, 29, 99, 100, 101, 102, 103, 104, 105, 106, 107, 108, 109] (by decide +kernel) (by decide +kernel)
set_option maxRecDepth 20000 in
theorem gX1_would_X0_standsFor_n109 : GoodIn wsX1_would (wsX0_standsFor) := ggX1_would_X0_standsFor
set_option maxRecDepth 20000 in
theorem ggX1_would_X0_takings : GoodIn wsX1_would wsX0_takings := goodIn_r _ [66, 67, 28, 99, 100, 101, 102, 103, 104, 105, 106, 107, 108, 109] (by decide +kernel) (by decide +kernel)
set_option maxRecDepth 20000 in
theorem gX1_would_X0_takings_n112 : GoodIn wsX1_would (wsX0_takings) := ggX1_would_X0_takings
theorem dX1_would_0 : decode cX1_would 0 = .ok (.iload_n 1, 1) := by decide +kernel
theorem dX1_would_1 : decode cX1_would 1 = .ok (.bipush 6, 2) := by decide +kernel
theorem dX1_would_3 : decode cX1_would 3 = .ok (.invokestatic 42, 3) := by decide +kernel
theorem dX1_would_6 : decode cX1_would 6 = .ok (.iload_n 2, 1) := by decide +kernel
theorem dX1_would_7 : decode cX1_would 7 = .ok (.iconst 0, 1) := by decide +kernel
theorem dX1_would_8 : decode cX1_would 8 = .ok (.bipush 20, 2) := by decide +kernel
theorem dX1_would_10 : decode cX1_would 10 = .ok (.invokestatic 46, 3) := by decide +kernel
theorem dX1_would_13 : decode cX1_would 13 = .ok (.aload_n 0, 1) := by decide +kernel
theorem dX1_would_14 : decode cX1_would 14 = .ok (.aload_n 0, 1) := by decide +kernel
theorem dX1_would_15 : decode cX1_would 15 = .ok (.getfield 29, 3) := by decide +kernel
theorem dX1_would_18 : decode cX1_would 18 = .ok (.iconst (-1), 1) := by decide +kernel
theorem dX1_would_19 : decode cX1_would 19 = .ok (.invokevirtual 68, 3) := by decide +kernel
theorem dX1_would_22 : decode cX1_would 22 = .ok (.aload_n 0, 1) := by decide +kernel
theorem dX1_would_23 : decode cX1_would 23 = .ok (.getfield 38, 3) := by decide +kernel
theorem dX1_would_26 : decode cX1_would 26 = .ok (.iload_n 1, 1) := by decide +kernel
theorem dX1_would_27 : decode cX1_would 27 = .ok (.invokevirtual 109, 3) := by decide +kernel
theorem dX1_would_30 : decode cX1_would 30 = .ok (.ifCond .eq 14, 3) := by decide +kernel
theorem dX1_would_33 : decode cX1_would 33 = .ok (.aload_n 0, 1) := by decide +kernel
theorem dX1_would_34 : decode cX1_would 34 = .ok (.getfield 38, 3) := by decide +kernel
theorem dX1_would_37 : decode cX1_would 37 = .ok (.iload_n 2, 1) := by decide +kernel
theorem dX1_would_38 : decode cX1_would 38 = .ok (.invokevirtual 112, 3) := by decide +kernel
theorem dX1_would_41 : decode cX1_would 41 = .ok (.goto 4, 3) := by decide +kernel
theorem dX1_would_44 : decode cX1_would 44 = .ok (.iconst (-1), 1) := by decide +kernel
theorem dX1_would_45 : decode cX1_would 45 = .ok (.ireturn, 1) := by decide +kernel
set_option maxRecDepth 20000 in
theorem ggX1_mean_X1_reckon : GoodIn wsX1_mean wsX1_reckon := goodIn_r _ [7, 2, 8, 9, 10, 11, 12, 13, 14, 15, 16, 17, 18, 19, 20, 21, 22, 23, 24, 25, 26, 27, 28, 29, 30, 31, 32, 33, 34, 35, 36, 37, 38, 39, 40, 41, 42, 43, 44, 45, 46, 47, 48, 49, 50, 51, 52, 53, 54, 55, 56, 57, 58, 59, 60, 61, 62, 63, 64, 65, 66, 67, 68, 69, 70, 71, 72, 73, 74, 75, 76, 77, 78, 79, 80, 84, 85, 86, 87, 88, 89, 90, 91, 92, 93, 94, 95, 96, 97, 98, 99, 100, 101, 102] (by decide +kernel) (by decide +kernel)
set_option maxRecDepth 20000 in
theorem gX1_mean_X1_reckon : GoodIn wsX1_mean (wsV RX1 68 RX1 yX1_reckon wsX1_reckon) := goodIn_app (goodIn_of _ (by decide +kernel)) ggX1_mean_X1_reckon
set_option maxRecDepth 20000 in
theorem ggX1_mean_X0_trustOfAll : GoodIn wsX1_mean wsX0_trustOfAll := goodIn_r _ [83, 19, 39, 92, 93, 94, 95, 96, 97, 98, 99, 100, 101, 102] (by decide +kernel) (by decide +kernel)
set_option maxRecDepth 20000 in
theorem gX1_mean_X0_trustOfAll_n83 : GoodIn wsX1_mean (wsX0_trustOfAll) := ggX1_mean_X0_trustOfAll
theorem dX1_mean_0 : decode cX1_mean 0 = .ok (.aload_n 0, 1) := by decide +kernel
theorem dX1_mean_1 : decode cX1_mean 1 = .ok (.aload_n 0, 1) := by decide +kernel
theorem dX1_mean_2 : decode cX1_mean 2 = .ok (.getfield 29, 3) := by decide +kernel
theorem dX1_mean_5 : decode cX1_mean 5 = .ok (.iconst (-1), 1) := by decide +kernel
theorem dX1_mean_6 : decode cX1_mean 6 = .ok (.invokevirtual 68, 3) := by decide +kernel
theorem dX1_mean_9 : decode cX1_mean 9 = .ok (.aload_n 0, 1) := by decide +kernel
theorem dX1_mean_10 : decode cX1_mean 10 = .ok (.getfield 38, 3) := by decide +kernel
theorem dX1_mean_13 : decode cX1_mean 13 = .ok (.getfield 80, 3) := by decide +kernel
theorem dX1_mean_16 : decode cX1_mean 16 = .ok (.ifCond .ne 5, 3) := by decide +kernel
theorem dX1_mean_19 : decode cX1_mean 19 = .ok (.dconst 0, 1) := by decide +kernel
theorem dX1_mean_20 : decode cX1_mean 20 = .ok (.dreturn, 1) := by decide +kernel
theorem dX1_mean_21 : decode cX1_mean 21 = .ok (.aload_n 0, 1) := by decide +kernel
theorem dX1_mean_22 : decode cX1_mean 22 = .ok (.getfield 38, 3) := by decide +kernel
theorem dX1_mean_25 : decode cX1_mean 25 = .ok (.invokevirtual 83, 3) := by decide +kernel
theorem dX1_mean_28 : decode cX1_mean 28 = .ok (.i2d, 1) := by decide +kernel
theorem dX1_mean_29 : decode cX1_mean 29 = .ok (.aload_n 0, 1) := by decide +kernel
theorem dX1_mean_30 : decode cX1_mean 30 = .ok (.getfield 38, 3) := by decide +kernel
theorem dX1_mean_33 : decode cX1_mean 33 = .ok (.getfield 80, 3) := by decide +kernel
theorem dX1_mean_36 : decode cX1_mean 36 = .ok (.i2d, 1) := by decide +kernel
theorem dX1_mean_37 : decode cX1_mean 37 = .ok (.ddiv, 1) := by decide +kernel
theorem dX1_mean_38 : decode cX1_mean 38 = .ok (.dreturn, 1) := by decide +kernel
set_option maxRecDepth 20000 in
theorem ggX1_digest_X1_count : GoodIn wsX1_digest wsX1_count := goodIn_ca (goodIn_r _ [10, 5, 11, 12, 13, 9, 14, 15, 16, 17, 18, 19, 20, 21, 22, 23, 24, 25, 26, 27, 28, 29, 30, 31, 32, 33, 34, 35, 36, 37, 38, 39, 40, 41, 42, 43, 44, 45, 46, 47, 48, 49, 50, 51, 52, 53, 54, 55, 56, 57, 58, 59, 60, 61, 62, 63, 64, 65, 66, 67, 68, 69, 70, 71, 72, 73, 74, 75, 76, 77, 78, 79, 80, 81, 82, 83, 84, 85, 86, 87, 88, 89, 90, 91, 92, 93, 118, 119, 120, 121, 122, 123, 124, 125, 126, 127, 128, 129, 130, 131, 132, 133, 134, 135, 136] (by decide +kernel) (by decide +kernel)) (goodIn_sub (fun _ h => List.mem_cons_of_mem _ (List.mem_append_left _ (List.mem_append_right _ h))) (by decide +kernel))
set_option maxRecDepth 20000 in
theorem gX1_digest_X1_count : GoodIn wsX1_digest (wsV RX1 119 RX1 yX1_count wsX1_count) := goodIn_app (goodIn_of _ (by decide +kernel)) ggX1_digest_X1_count
set_option maxRecDepth 20000 in
theorem ggX1_digest_X1_entry : GoodIn wsX1_digest wsX1_entry := goodIn_ca (goodIn_r _ [97, 5, 22, 23, 24, 21, 12, 13, 9, 14, 15, 16, 98, 99, 100, 101, 11, 17, 18, 19, 20, 25, 26, 27, 28, 29, 30, 31, 32, 33, 34, 35, 36, 37, 38, 39, 40, 41, 42, 43, 44, 45, 46, 47, 48, 49, 50, 51, 52, 53, 54, 55, 56, 57, 58, 59, 60, 61, 62, 63, 64, 65, 66, 67, 68, 69, 70, 71, 72, 73, 74, 75, 76, 77, 78, 79, 80, 81, 82, 83, 84, 85, 86, 87, 88, 89, 90, 91, 92, 93, 118, 119, 120, 121, 122, 123, 124, 125, 126, 127, 128, 129, 130, 131, 132, 133, 134, 135, 136] (by decide +kernel) (by decide +kernel)) (goodIn_sub (fun _ h => List.mem_cons_of_mem _ (List.mem_append_left _ (List.mem_append_right _ h))) (by decide +kernel))
set_option maxRecDepth 20000 in
theorem gX1_digest_X1_entry : GoodIn wsX1_digest (wsV RX1 122 RX1 yX1_entry wsX1_entry) := goodIn_app (goodIn_of _ (by decide +kernel)) ggX1_digest_X1_entry
set_option maxRecDepth 20000 in
theorem ggX1_digest_X1_behind : GoodIn wsX1_digest wsX1_behind := goodIn_ca (goodIn_ca (goodIn_r _ [105, 5, 11, 106, 107, 9, 108, 109, 110, 12, 13, 14, 15, 16, 17, 18, 19, 20, 21, 22, 23, 24, 25, 26, 27, 28, 29, 30, 31, 32, 33, 34, 35, 36, 37, 38, 39, 40, 41, 42, 43, 44, 45, 46, 47, 48, 49, 50, 51, 52, 53, 54, 55, 56, 57, 58, 59, 60, 61, 62, 63, 64, 65, 66, 67, 68, 69, 70, 71, 72, 73, 74, 75, 76, 77, 78, 79, 80, 81, 82, 83, 84, 85, 86, 87, 88, 89, 90, 91, 92, 93, 111, 112, 113, 118, 119, 120, 121, 122, 123, 124, 125, 126, 127, 128, 129, 130, 131, 132, 133, 134, 135, 136] (by decide +kernel) (by decide +kernel)) (goodIn_sub (fun _ h => List.mem_cons_of_mem _ (List.mem_append_right _ h)) (by decide +kernel))) (goodIn_sub (fun _ h => List.mem_cons_of_mem _ (List.mem_append_left _ (List.mem_append_right _ h))) (by decide +kernel))
set_option maxRecDepth 20000 in
theorem gX1_digest_X1_behind : GoodIn wsX1_digest (wsV RX1 126 RX1 yX1_behind wsX1_behind) := goodIn_app (goodIn_of _ (by decide +kernel)) ggX1_digest_X1_behind
set_option maxRecDepth 20000 in
theorem ggX1_digest_X1_trust : GoodIn wsX1_digest wsX1_trust := goodIn_ca (goodIn_ca (goodIn_r _ [117, 5, 11, 12, 13, 9, 14, 15, 16, 106, 107, 108, 109, 110, 17, 18, 19, 20, 21, 22, 23, 24, 25, 26, 27, 28, 29, 30, 31, 32, 33, 34, 35, 36, 37, 38, 39, 40, 41, 42, 43, 44, 45, 46, 47, 48, 49, 50, 51, 52, 53, 54, 55, 56, 57, 58, 59, 60, 61, 62, 63, 64, 65, 66, 67, 68, 69, 70, 71, 72, 73, 74, 75, 76, 77, 78, 79, 80, 81, 82, 83, 84, 85, 86, 87, 88, 89, 90, 91, 92, 93, 118, 119, 120, 121, 122, 123, 124, 125, 126, 127, 128, 129, 130, 131, 132, 133, 134, 135, 136] (by decide +kernel) (by decide +kernel)) (goodIn_sub (fun _ h => List.mem_cons_of_mem _ (List.mem_append_left _ (List.mem_append_right _ h))) (by decide +kernel))) (goodIn_sub (fun _ h => List.mem_cons_of_mem _ (List.mem_append_right _ h)) (by decide +kernel))
set_option maxRecDepth 20000 in
theorem gX1_digest_X1_trust : GoodIn wsX1_digest (wsV RX1 129 RX1 yX1_trust wsX1_trust) := goodIn_app (goodIn_of _ (by decide +kernel)) ggX1_digest_X1_trust
theorem dX1_digest_0 : decode cX1_digest 0 = .ok (.ldc2_w 115, 3) := by decide +kernel
theorem dX1_digest_3 : decode cX1_digest 3 = .ok (.lstore_n 1, 1) := by decide +kernel
theorem dX1_digest_4 : decode cX1_digest 4 = .ok (.iconst 0, 1) := by decide +kernel
theorem dX1_digest_5 : decode cX1_digest 5 = .ok (.istore_n 3, 1) := by decide +kernel
theorem dX1_digest_6 : decode cX1_digest 6 = .ok (.iload_n 3, 1) := by decide +kernel
theorem dX1_digest_7 : decode cX1_digest 7 = .ok (.bipush 6, 2) := by decide +kernel
theorem dX1_digest_9 : decode cX1_digest 9 = .ok (.if_icmp .ge 22, 3) := by decide +kernel
theorem dX1_digest_12 : decode cX1_digest 12 = .ok (.lload_n 1, 1) := by decide +kernel
theorem dX1_digest_13 : decode cX1_digest 13 = .ok (.ldc2_w 117, 3) := by decide +kernel
theorem dX1_digest_16 : decode cX1_digest 16 = .ok (.lmul, 1) := by decide +kernel
theorem dX1_digest_17 : decode cX1_digest 17 = .ok (.aload_n 0, 1) := by decide +kernel
theorem dX1_digest_18 : decode cX1_digest 18 = .ok (.iload_n 3, 1) := by decide +kernel
theorem dX1_digest_19 : decode cX1_digest 19 = .ok (.invokevirtual 119, 3) := by decide +kernel
theorem dX1_digest_22 : decode cX1_digest 22 = .ok (.i2l, 1) := by decide +kernel
theorem dX1_digest_23 : decode cX1_digest 23 = .ok (.ladd, 1) := by decide +kernel
theorem dX1_digest_24 : decode cX1_digest 24 = .ok (.lstore_n 1, 1) := by decide +kernel
theorem dX1_digest_25 : decode cX1_digest 25 = .ok (.iinc 3 1, 3) := by decide +kernel
theorem dX1_digest_28 : decode cX1_digest 28 = .ok (.goto (-22), 3) := by decide +kernel
theorem dX1_digest_31 : decode cX1_digest 31 = .ok (.iconst 0, 1) := by decide +kernel
theorem dX1_digest_32 : decode cX1_digest 32 = .ok (.istore_n 3, 1) := by decide +kernel
theorem dX1_digest_33 : decode cX1_digest 33 = .ok (.iload_n 3, 1) := by decide +kernel
theorem dX1_digest_34 : decode cX1_digest 34 = .ok (.iconst 4, 1) := by decide +kernel
theorem dX1_digest_35 : decode cX1_digest 35 = .ok (.if_icmp .ge 37, 3) := by decide +kernel
theorem dX1_digest_38 : decode cX1_digest 38 = .ok (.lload_n 1, 1) := by decide +kernel
theorem dX1_digest_39 : decode cX1_digest 39 = .ok (.ldc2_w 117, 3) := by decide +kernel
theorem dX1_digest_42 : decode cX1_digest 42 = .ok (.lmul, 1) := by decide +kernel
theorem dX1_digest_43 : decode cX1_digest 43 = .ok (.aload_n 0, 1) := by decide +kernel
theorem dX1_digest_44 : decode cX1_digest 44 = .ok (.getfield 9, 3) := by decide +kernel
theorem dX1_digest_47 : decode cX1_digest 47 = .ok (.iload_n 3, 1) := by decide +kernel
theorem dX1_digest_48 : decode cX1_digest 48 = .ok (.iaload, 1) := by decide +kernel
theorem dX1_digest_49 : decode cX1_digest 49 = .ok (.i2l, 1) := by decide +kernel
theorem dX1_digest_50 : decode cX1_digest 50 = .ok (.ladd, 1) := by decide +kernel
theorem dX1_digest_51 : decode cX1_digest 51 = .ok (.lstore_n 1, 1) := by decide +kernel
theorem dX1_digest_52 : decode cX1_digest 52 = .ok (.lload_n 1, 1) := by decide +kernel
theorem dX1_digest_53 : decode cX1_digest 53 = .ok (.ldc2_w 117, 3) := by decide +kernel
theorem dX1_digest_56 : decode cX1_digest 56 = .ok (.lmul, 1) := by decide +kernel
theorem dX1_digest_57 : decode cX1_digest 57 = .ok (.aload_n 0, 1) := by decide +kernel
theorem dX1_digest_58 : decode cX1_digest 58 = .ok (.getfield 13, 3) := by decide +kernel
theorem dX1_digest_61 : decode cX1_digest 61 = .ok (.iload_n 3, 1) := by decide +kernel
theorem dX1_digest_62 : decode cX1_digest 62 = .ok (.iaload, 1) := by decide +kernel
theorem dX1_digest_63 : decode cX1_digest 63 = .ok (.i2l, 1) := by decide +kernel
theorem dX1_digest_64 : decode cX1_digest 64 = .ok (.ladd, 1) := by decide +kernel
theorem dX1_digest_65 : decode cX1_digest 65 = .ok (.lstore_n 1, 1) := by decide +kernel
theorem dX1_digest_66 : decode cX1_digest 66 = .ok (.iinc 3 1, 3) := by decide +kernel
theorem dX1_digest_69 : decode cX1_digest 69 = .ok (.goto (-36), 3) := by decide +kernel
theorem dX1_digest_72 : decode cX1_digest 72 = .ok (.iconst 0, 1) := by decide +kernel
theorem dX1_digest_73 : decode cX1_digest 73 = .ok (.istore_n 3, 1) := by decide +kernel
theorem dX1_digest_74 : decode cX1_digest 74 = .ok (.iload_n 3, 1) := by decide +kernel
theorem dX1_digest_75 : decode cX1_digest 75 = .ok (.aload_n 0, 1) := by decide +kernel
theorem dX1_digest_76 : decode cX1_digest 76 = .ok (.getfield 29, 3) := by decide +kernel
theorem dX1_digest_79 : decode cX1_digest 79 = .ok (.if_icmp .ge 55, 3) := by decide +kernel
theorem dX1_digest_82 : decode cX1_digest 82 = .ok (.iconst 0, 1) := by decide +kernel
theorem dX1_digest_83 : decode cX1_digest 83 = .ok (.istore 4, 2) := by decide +kernel
theorem dX1_digest_85 : decode cX1_digest 85 = .ok (.iload 4, 2) := by decide +kernel
theorem dX1_digest_87 : decode cX1_digest 87 = .ok (.iconst 5, 1) := by decide +kernel
theorem dX1_digest_88 : decode cX1_digest 88 = .ok (.if_icmp .ge 24, 3) := by decide +kernel
theorem dX1_digest_91 : decode cX1_digest 91 = .ok (.lload_n 1, 1) := by decide +kernel
theorem dX1_digest_92 : decode cX1_digest 92 = .ok (.ldc2_w 117, 3) := by decide +kernel
theorem dX1_digest_95 : decode cX1_digest 95 = .ok (.lmul, 1) := by decide +kernel
theorem dX1_digest_96 : decode cX1_digest 96 = .ok (.aload_n 0, 1) := by decide +kernel
theorem dX1_digest_97 : decode cX1_digest 97 = .ok (.iload_n 3, 1) := by decide +kernel
theorem dX1_digest_98 : decode cX1_digest 98 = .ok (.iload 4, 2) := by decide +kernel
theorem dX1_digest_100 : decode cX1_digest 100 = .ok (.invokevirtual 122, 3) := by decide +kernel
theorem dX1_digest_103 : decode cX1_digest 103 = .ok (.i2l, 1) := by decide +kernel
theorem dX1_digest_104 : decode cX1_digest 104 = .ok (.ladd, 1) := by decide +kernel
theorem dX1_digest_105 : decode cX1_digest 105 = .ok (.lstore_n 1, 1) := by decide +kernel
theorem dX1_digest_106 : decode cX1_digest 106 = .ok (.iinc 4 1, 3) := by decide +kernel
theorem dX1_digest_109 : decode cX1_digest 109 = .ok (.goto (-24), 3) := by decide +kernel
theorem dX1_digest_112 : decode cX1_digest 112 = .ok (.lload_n 1, 1) := by decide +kernel
theorem dX1_digest_113 : decode cX1_digest 113 = .ok (.ldc2_w 117, 3) := by decide +kernel
theorem dX1_digest_116 : decode cX1_digest 116 = .ok (.lmul, 1) := by decide +kernel
theorem dX1_digest_117 : decode cX1_digest 117 = .ok (.aload_n 0, 1) := by decide +kernel
theorem dX1_digest_118 : decode cX1_digest 118 = .ok (.iload_n 3, 1) := by decide +kernel
theorem dX1_digest_119 : decode cX1_digest 119 = .ok (.iconst 1, 1) := by decide +kernel
theorem dX1_digest_120 : decode cX1_digest 120 = .ok (.iadd, 1) := by decide +kernel
theorem dX1_digest_121 : decode cX1_digest 121 = .ok (.iconst 0, 1) := by decide +kernel
theorem dX1_digest_122 : decode cX1_digest 122 = .ok (.invokevirtual 126, 3) := by decide +kernel
theorem dX1_digest_125 : decode cX1_digest 125 = .ok (.i2l, 1) := by decide +kernel
theorem dX1_digest_126 : decode cX1_digest 126 = .ok (.ladd, 1) := by decide +kernel
theorem dX1_digest_127 : decode cX1_digest 127 = .ok (.lstore_n 1, 1) := by decide +kernel
theorem dX1_digest_128 : decode cX1_digest 128 = .ok (.iinc 3 1, 3) := by decide +kernel
theorem dX1_digest_131 : decode cX1_digest 131 = .ok (.goto (-57), 3) := by decide +kernel
theorem dX1_digest_134 : decode cX1_digest 134 = .ok (.iconst 0, 1) := by decide +kernel
theorem dX1_digest_135 : decode cX1_digest 135 = .ok (.istore_n 3, 1) := by decide +kernel
theorem dX1_digest_136 : decode cX1_digest 136 = .ok (.iload_n 3, 1) := by decide +kernel
theorem dX1_digest_137 : decode cX1_digest 137 = .ok (.bipush 6, 2) := by decide +kernel
theorem dX1_digest_139 : decode cX1_digest 139 = .ok (.if_icmp .ge 26, 3) := by decide +kernel
theorem dX1_digest_142 : decode cX1_digest 142 = .ok (.lload_n 1, 1) := by decide +kernel
theorem dX1_digest_143 : decode cX1_digest 143 = .ok (.ldc2_w 117, 3) := by decide +kernel
theorem dX1_digest_146 : decode cX1_digest 146 = .ok (.lmul, 1) := by decide +kernel
theorem dX1_digest_147 : decode cX1_digest 147 = .ok (.aload_n 0, 1) := by decide +kernel
theorem dX1_digest_148 : decode cX1_digest 148 = .ok (.iload_n 3, 1) := by decide +kernel
theorem dX1_digest_149 : decode cX1_digest 149 = .ok (.aload_n 0, 1) := by decide +kernel
theorem dX1_digest_150 : decode cX1_digest 150 = .ok (.getfield 29, 3) := by decide +kernel
theorem dX1_digest_153 : decode cX1_digest 153 = .ok (.invokevirtual 129, 3) := by decide +kernel
theorem dX1_digest_156 : decode cX1_digest 156 = .ok (.i2l, 1) := by decide +kernel
theorem dX1_digest_157 : decode cX1_digest 157 = .ok (.ladd, 1) := by decide +kernel
theorem dX1_digest_158 : decode cX1_digest 158 = .ok (.lstore_n 1, 1) := by decide +kernel
theorem dX1_digest_159 : decode cX1_digest 159 = .ok (.iinc 3 1, 3) := by decide +kernel
theorem dX1_digest_162 : decode cX1_digest 162 = .ok (.goto (-26), 3) := by decide +kernel
theorem dX1_digest_165 : decode cX1_digest 165 = .ok (.lload_n 1, 1) := by decide +kernel
theorem dX1_digest_166 : decode cX1_digest 166 = .ok (.lreturn, 1) := by decide +kernel
theorem dX1_needIndex_0 : decode cX1_needIndex 0 = .ok (.iload_n 0, 1) := by decide +kernel
theorem dX1_needIndex_1 : decode cX1_needIndex 1 = .ok (.ifCond .lt 8, 3) := by decide +kernel
theorem dX1_needIndex_4 : decode cX1_needIndex 4 = .ok (.iload_n 0, 1) := by decide +kernel
theorem dX1_needIndex_5 : decode cX1_needIndex 5 = .ok (.iload_n 1, 1) := by decide +kernel
theorem dX1_needIndex_6 : decode cX1_needIndex 6 = .ok (.if_icmp .lt 13, 3) := by decide +kernel
theorem dX1_needIndex_9 : decode cX1_needIndex 9 = .ok (.new 132, 3) := by decide +kernel
theorem dX1_needIndex_12 : decode cX1_needIndex 12 = .ok (.dup, 1) := by decide +kernel
theorem dX1_needIndex_13 : decode cX1_needIndex 13 = .ok (.ldc 134, 2) := by decide +kernel
theorem dX1_needIndex_15 : decode cX1_needIndex 15 = .ok (.invokespecial 136, 3) := by decide +kernel
theorem dX1_needIndex_18 : decode cX1_needIndex 18 = .ok (.athrow, 1) := by decide +kernel
theorem dX1_needIndex_19 : decode cX1_needIndex 19 = .ok (.return_, 1) := by decide +kernel
theorem dX1_needWithin_0 : decode cX1_needWithin 0 = .ok (.iload_n 0, 1) := by decide +kernel
theorem dX1_needWithin_1 : decode cX1_needWithin 1 = .ok (.iload_n 1, 1) := by decide +kernel
theorem dX1_needWithin_2 : decode cX1_needWithin 2 = .ok (.if_icmp .lt 8, 3) := by decide +kernel
theorem dX1_needWithin_5 : decode cX1_needWithin 5 = .ok (.iload_n 0, 1) := by decide +kernel
theorem dX1_needWithin_6 : decode cX1_needWithin 6 = .ok (.iload_n 2, 1) := by decide +kernel
theorem dX1_needWithin_7 : decode cX1_needWithin 7 = .ok (.if_icmp .le 13, 3) := by decide +kernel
theorem dX1_needWithin_10 : decode cX1_needWithin 10 = .ok (.new 137, 3) := by decide +kernel
theorem dX1_needWithin_13 : decode cX1_needWithin 13 = .ok (.dup, 1) := by decide +kernel
theorem dX1_needWithin_14 : decode cX1_needWithin 14 = .ok (.ldc 139, 2) := by decide +kernel
theorem dX1_needWithin_16 : decode cX1_needWithin 16 = .ok (.invokespecial 141, 3) := by decide +kernel
theorem dX1_needWithin_19 : decode cX1_needWithin 19 = .ok (.athrow, 1) := by decide +kernel
theorem dX1_needWithin_20 : decode cX1_needWithin 20 = .ok (.return_, 1) := by decide +kernel
theorem dX1_append_0 : decode cX1_append 0 = .ok (.aload_n 0, 1) := by decide +kernel
theorem dX1_append_1 : decode cX1_append 1 = .ok (.getfield 29, 3) := by decide +kernel
theorem dX1_append_4 : decode cX1_append 4 = .ok (.bipush 60, 2) := by decide +kernel
theorem dX1_append_6 : decode cX1_append 6 = .ok (.if_icmp .lt 13, 3) := by decide +kernel
theorem dX1_append_9 : decode cX1_append 9 = .ok (.new 57, 3) := by decide +kernel
theorem dX1_append_12 : decode cX1_append 12 = .ok (.dup, 1) := by decide +kernel
theorem dX1_append_13 : decode cX1_append 13 = .ok (.ldc 142, 2) := by decide +kernel
theorem dX1_append_15 : decode cX1_append 15 = .ok (.invokespecial 61, 3) := by decide +kernel
theorem dX1_append_18 : decode cX1_append 18 = .ok (.athrow, 1) := by decide +kernel
theorem dX1_append_19 : decode cX1_append 19 = .ok (.aload_n 0, 1) := by decide +kernel
theorem dX1_append_20 : decode cX1_append 20 = .ok (.getfield 16, 3) := by decide +kernel
theorem dX1_append_23 : decode cX1_append 23 = .ok (.aload_n 0, 1) := by decide +kernel
theorem dX1_append_24 : decode cX1_append 24 = .ok (.getfield 29, 3) := by decide +kernel
theorem dX1_append_27 : decode cX1_append 27 = .ok (.iload_n 1, 1) := by decide +kernel
theorem dX1_append_28 : decode cX1_append 28 = .ok (.iastore, 1) := by decide +kernel
theorem dX1_append_29 : decode cX1_append 29 = .ok (.aload_n 0, 1) := by decide +kernel
theorem dX1_append_30 : decode cX1_append 30 = .ok (.getfield 19, 3) := by decide +kernel
theorem dX1_append_33 : decode cX1_append 33 = .ok (.aload_n 0, 1) := by decide +kernel
theorem dX1_append_34 : decode cX1_append 34 = .ok (.getfield 29, 3) := by decide +kernel
theorem dX1_append_37 : decode cX1_append 37 = .ok (.iload_n 2, 1) := by decide +kernel
theorem dX1_append_38 : decode cX1_append 38 = .ok (.iastore, 1) := by decide +kernel
theorem dX1_append_39 : decode cX1_append 39 = .ok (.aload_n 0, 1) := by decide +kernel
theorem dX1_append_40 : decode cX1_append 40 = .ok (.getfield 22, 3) := by decide +kernel
theorem dX1_append_43 : decode cX1_append 43 = .ok (.aload_n 0, 1) := by decide +kernel
theorem dX1_append_44 : decode cX1_append 44 = .ok (.getfield 29, 3) := by decide +kernel
theorem dX1_append_47 : decode cX1_append 47 = .ok (.iload_n 3, 1) := by decide +kernel
theorem dX1_append_48 : decode cX1_append 48 = .ok (.iastore, 1) := by decide +kernel
theorem dX1_append_49 : decode cX1_append 49 = .ok (.aload_n 0, 1) := by decide +kernel
theorem dX1_append_50 : decode cX1_append 50 = .ok (.getfield 25, 3) := by decide +kernel
theorem dX1_append_53 : decode cX1_append 53 = .ok (.aload_n 0, 1) := by decide +kernel
theorem dX1_append_54 : decode cX1_append 54 = .ok (.getfield 29, 3) := by decide +kernel
theorem dX1_append_57 : decode cX1_append 57 = .ok (.iconst 0, 1) := by decide +kernel
theorem dX1_append_58 : decode cX1_append 58 = .ok (.bastore, 1) := by decide +kernel
theorem dX1_append_59 : decode cX1_append 59 = .ok (.aload_n 0, 1) := by decide +kernel
theorem dX1_append_60 : decode cX1_append 60 = .ok (.dup, 1) := by decide +kernel
theorem dX1_append_61 : decode cX1_append 61 = .ok (.getfield 29, 3) := by decide +kernel
theorem dX1_append_64 : decode cX1_append 64 = .ok (.iconst 1, 1) := by decide +kernel
theorem dX1_append_65 : decode cX1_append 65 = .ok (.iadd, 1) := by decide +kernel
theorem dX1_append_66 : decode cX1_append 66 = .ok (.putfield 29, 3) := by decide +kernel
theorem dX1_append_69 : decode cX1_append 69 = .ok (.aload_n 0, 1) := by decide +kernel
theorem dX1_append_70 : decode cX1_append 70 = .ok (.getfield 29, 3) := by decide +kernel
theorem dX1_append_73 : decode cX1_append 73 = .ok (.iconst 1, 1) := by decide +kernel
theorem dX1_append_74 : decode cX1_append 74 = .ok (.isub, 1) := by decide +kernel
theorem dX1_append_75 : decode cX1_append 75 = .ok (.ireturn, 1) := by decide +kernel
set_option maxRecDepth 20000 in
theorem ggX1_swap_X1_swapNumbers : GoodIn wsX1_swap wsX1_swapNumbers := goodIn_r _ [8] (by decide +kernel) (by decide +kernel)
set_option maxRecDepth 20000 in
theorem gX1_swap_X1_swapNumbers : GoodIn wsX1_swap (va_wsS RX1 144 yX1_swapNumbers wsX1_swapNumbers) := goodIn_app (goodIn_of _ (by decide +kernel)) ggX1_swap_X1_swapNumbers
theorem dX1_swap_0 : decode cX1_swap 0 = .ok (.aload_n 0, 1) := by decide +kernel
theorem dX1_swap_1 : decode cX1_swap 1 = .ok (.getfield 16, 3) := by decide +kernel
theorem dX1_swap_4 : decode cX1_swap 4 = .ok (.iload_n 1, 1) := by decide +kernel
theorem dX1_swap_5 : decode cX1_swap 5 = .ok (.iload_n 2, 1) := by decide +kernel
theorem dX1_swap_6 : decode cX1_swap 6 = .ok (.invokestatic 144, 3) := by decide +kernel
theorem dX1_swap_9 : decode cX1_swap 9 = .ok (.aload_n 0, 1) := by decide +kernel
theorem dX1_swap_10 : decode cX1_swap 10 = .ok (.getfield 19, 3) := by decide +kernel
theorem dX1_swap_13 : decode cX1_swap 13 = .ok (.iload_n 1, 1) := by decide +kernel
theorem dX1_swap_14 : decode cX1_swap 14 = .ok (.iload_n 2, 1) := by decide +kernel
theorem dX1_swap_15 : decode cX1_swap 15 = .ok (.invokestatic 144, 3) := by decide +kernel
theorem dX1_swap_18 : decode cX1_swap 18 = .ok (.aload_n 0, 1) := by decide +kernel
theorem dX1_swap_19 : decode cX1_swap 19 = .ok (.getfield 22, 3) := by decide +kernel
theorem dX1_swap_22 : decode cX1_swap 22 = .ok (.iload_n 1, 1) := by decide +kernel
theorem dX1_swap_23 : decode cX1_swap 23 = .ok (.iload_n 2, 1) := by decide +kernel
theorem dX1_swap_24 : decode cX1_swap 24 = .ok (.invokestatic 144, 3) := by decide +kernel
theorem dX1_swap_27 : decode cX1_swap 27 = .ok (.aload_n 0, 1) := by decide +kernel
theorem dX1_swap_28 : decode cX1_swap 28 = .ok (.getfield 25, 3) := by decide +kernel
theorem dX1_swap_31 : decode cX1_swap 31 = .ok (.iload_n 1, 1) := by decide +kernel
theorem dX1_swap_32 : decode cX1_swap 32 = .ok (.baload, 1) := by decide +kernel
theorem dX1_swap_33 : decode cX1_swap 33 = .ok (.istore_n 3, 1) := by decide +kernel
theorem dX1_swap_34 : decode cX1_swap 34 = .ok (.aload_n 0, 1) := by decide +kernel
theorem dX1_swap_35 : decode cX1_swap 35 = .ok (.getfield 25, 3) := by decide +kernel
theorem dX1_swap_38 : decode cX1_swap 38 = .ok (.iload_n 1, 1) := by decide +kernel
theorem dX1_swap_39 : decode cX1_swap 39 = .ok (.aload_n 0, 1) := by decide +kernel
theorem dX1_swap_40 : decode cX1_swap 40 = .ok (.getfield 25, 3) := by decide +kernel
theorem dX1_swap_43 : decode cX1_swap 43 = .ok (.iload_n 2, 1) := by decide +kernel
theorem dX1_swap_44 : decode cX1_swap 44 = .ok (.baload, 1) := by decide +kernel
theorem dX1_swap_45 : decode cX1_swap 45 = .ok (.bastore, 1) := by decide +kernel
theorem dX1_swap_46 : decode cX1_swap 46 = .ok (.aload_n 0, 1) := by decide +kernel
theorem dX1_swap_47 : decode cX1_swap 47 = .ok (.getfield 25, 3) := by decide +kernel
theorem dX1_swap_50 : decode cX1_swap 50 = .ok (.iload_n 2, 1) := by decide +kernel
theorem dX1_swap_51 : decode cX1_swap 51 = .ok (.iload_n 3, 1) := by decide +kernel
theorem dX1_swap_52 : decode cX1_swap 52 = .ok (.bastore, 1) := by decide +kernel
theorem dX1_swap_53 : decode cX1_swap 53 = .ok (.return_, 1) := by decide +kernel
theorem dX1_swapNumbers_0 : decode cX1_swapNumbers 0 = .ok (.aload_n 0, 1) := by decide +kernel
theorem dX1_swapNumbers_1 : decode cX1_swapNumbers 1 = .ok (.iload_n 1, 1) := by decide +kernel
theorem dX1_swapNumbers_2 : decode cX1_swapNumbers 2 = .ok (.iaload, 1) := by decide +kernel
theorem dX1_swapNumbers_3 : decode cX1_swapNumbers 3 = .ok (.istore_n 3, 1) := by decide +kernel
theorem dX1_swapNumbers_4 : decode cX1_swapNumbers 4 = .ok (.aload_n 0, 1) := by decide +kernel
theorem dX1_swapNumbers_5 : decode cX1_swapNumbers 5 = .ok (.iload_n 1, 1) := by decide +kernel
theorem dX1_swapNumbers_6 : decode cX1_swapNumbers 6 = .ok (.aload_n 0, 1) := by decide +kernel
theorem dX1_swapNumbers_7 : decode cX1_swapNumbers 7 = .ok (.iload_n 2, 1) := by decide +kernel
theorem dX1_swapNumbers_8 : decode cX1_swapNumbers 8 = .ok (.iaload, 1) := by decide +kernel
theorem dX1_swapNumbers_9 : decode cX1_swapNumbers 9 = .ok (.iastore, 1) := by decide +kernel
theorem dX1_swapNumbers_10 : decode cX1_swapNumbers 10 = .ok (.aload_n 0, 1) := by decide +kernel
theorem dX1_swapNumbers_11 : decode cX1_swapNumbers 11 = .ok (.iload_n 2, 1) := by decide +kernel
theorem dX1_swapNumbers_12 : decode cX1_swapNumbers 12 = .ok (.iload_n 3, 1) := by decide +kernel
theorem dX1_swapNumbers_13 : decode cX1_swapNumbers 13 = .ok (.iastore, 1) := by decide +kernel
theorem dX1_swapNumbers_14 : decode cX1_swapNumbers 14 = .ok (.return_, 1) := by decide +kernel
set_option maxRecDepth 20000 in
theorem ggX1_reckon_X0_begin : GoodIn wsX1_reckon wsX0_begin := goodIn_r _ [9, 10, 11, 12, 13, 14, 15, 16, 17, 83, 84, 85, 86, 87, 88, 89, 90, 91, 92, 93] (by decide +kernel) (by decide +kernel)
set_option maxRecDepth 20000 in
theorem gX1_reckon_X0_begin_n148 : GoodIn wsX1_reckon (wsX0_begin) := ggX1_reckon_X0_begin
set_option maxRecDepth 20000 in
theorem ggX1_reckon_X0_reckonEntry : GoodIn wsX1_reckon wsX0_reckonEntry := goodIn_r _ [20, 14, 17, 10, 21, 22, 23, 24, 15, 16, 25, 26, 27, 7, 28, 12, 29, 30, 31, 32, 13, 33, 34, 35, 36, 37, 38, 39, 40, 41, 42, 43, 44, 45, 46, 47, 48, 49, 50, 51, 52, 53, 54, 55, 11, 56, 57, 58, 59, 60, 61, 62, 63, 64, 65, 66, 67, 68, 69, 70, 71, 72, 73, 74, 83, 84, 85, 86, 87, 88, 89, 90, 91, 92, 93] (by decide +kernel) (by decide +kernel)
set_option maxRecDepth 20000 in
theorem gX1_reckon_X0_reckonEntry_n151 : GoodIn wsX1_reckon (wsX0_reckonEntry) := ggX1_reckon_X0_reckonEntry
theorem dX1_reckon_0 : decode cX1_reckon 0 = .ok (.aload_n 0, 1) := by decide +kernel
theorem dX1_reckon_1 : decode cX1_reckon 1 = .ok (.getfield 38, 3) := by decide +kernel
theorem dX1_reckon_4 : decode cX1_reckon 4 = .ok (.invokevirtual 148, 3) := by decide +kernel
theorem dX1_reckon_7 : decode cX1_reckon 7 = .ok (.iconst 0, 1) := by decide +kernel
theorem dX1_reckon_8 : decode cX1_reckon 8 = .ok (.istore_n 3, 1) := by decide +kernel
theorem dX1_reckon_9 : decode cX1_reckon 9 = .ok (.iload_n 3, 1) := by decide +kernel
theorem dX1_reckon_10 : decode cX1_reckon 10 = .ok (.iload_n 1, 1) := by decide +kernel
theorem dX1_reckon_11 : decode cX1_reckon 11 = .ok (.if_icmp .ge 66, 3) := by decide +kernel
theorem dX1_reckon_14 : decode cX1_reckon 14 = .ok (.aload_n 0, 1) := by decide +kernel
theorem dX1_reckon_15 : decode cX1_reckon 15 = .ok (.getfield 25, 3) := by decide +kernel
theorem dX1_reckon_18 : decode cX1_reckon 18 = .ok (.iload_n 3, 1) := by decide +kernel
theorem dX1_reckon_19 : decode cX1_reckon 19 = .ok (.baload, 1) := by decide +kernel
theorem dX1_reckon_20 : decode cX1_reckon 20 = .ok (.iload_n 3, 1) := by decide +kernel
theorem dX1_reckon_21 : decode cX1_reckon 21 = .ok (.iload_n 2, 1) := by decide +kernel
theorem dX1_reckon_22 : decode cX1_reckon 22 = .ok (.if_icmp .ne 7, 3) := by decide +kernel
theorem dX1_reckon_25 : decode cX1_reckon 25 = .ok (.iconst 1, 1) := by decide +kernel
theorem dX1_reckon_26 : decode cX1_reckon 26 = .ok (.goto 4, 3) := by decide +kernel
theorem dX1_reckon_29 : decode cX1_reckon 29 = .ok (.iconst 0, 1) := by decide +kernel
theorem dX1_reckon_30 : decode cX1_reckon 30 = .ok (.if_icmp .eq 7, 3) := by decide +kernel
theorem dX1_reckon_33 : decode cX1_reckon 33 = .ok (.iconst 1, 1) := by decide +kernel
theorem dX1_reckon_34 : decode cX1_reckon 34 = .ok (.goto 4, 3) := by decide +kernel
theorem dX1_reckon_37 : decode cX1_reckon 37 = .ok (.iconst 0, 1) := by decide +kernel
theorem dX1_reckon_38 : decode cX1_reckon 38 = .ok (.istore 4, 2) := by decide +kernel
theorem dX1_reckon_40 : decode cX1_reckon 40 = .ok (.iload 4, 2) := by decide +kernel
theorem dX1_reckon_42 : decode cX1_reckon 42 = .ok (.ifCond .ne 29, 3) := by decide +kernel
theorem dX1_reckon_45 : decode cX1_reckon 45 = .ok (.aload_n 0, 1) := by decide +kernel
theorem dX1_reckon_46 : decode cX1_reckon 46 = .ok (.getfield 38, 3) := by decide +kernel
theorem dX1_reckon_49 : decode cX1_reckon 49 = .ok (.iload_n 3, 1) := by decide +kernel
theorem dX1_reckon_50 : decode cX1_reckon 50 = .ok (.aload_n 0, 1) := by decide +kernel
theorem dX1_reckon_51 : decode cX1_reckon 51 = .ok (.getfield 16, 3) := by decide +kernel
theorem dX1_reckon_54 : decode cX1_reckon 54 = .ok (.iload_n 3, 1) := by decide +kernel
theorem dX1_reckon_55 : decode cX1_reckon 55 = .ok (.iaload, 1) := by decide +kernel
theorem dX1_reckon_56 : decode cX1_reckon 56 = .ok (.aload_n 0, 1) := by decide +kernel
theorem dX1_reckon_57 : decode cX1_reckon 57 = .ok (.getfield 19, 3) := by decide +kernel
theorem dX1_reckon_60 : decode cX1_reckon 60 = .ok (.iload_n 3, 1) := by decide +kernel
theorem dX1_reckon_61 : decode cX1_reckon 61 = .ok (.iaload, 1) := by decide +kernel
theorem dX1_reckon_62 : decode cX1_reckon 62 = .ok (.aload_n 0, 1) := by decide +kernel
theorem dX1_reckon_63 : decode cX1_reckon 63 = .ok (.getfield 22, 3) := by decide +kernel
theorem dX1_reckon_66 : decode cX1_reckon 66 = .ok (.iload_n 3, 1) := by decide +kernel
theorem dX1_reckon_67 : decode cX1_reckon 67 = .ok (.iaload, 1) := by decide +kernel
theorem dX1_reckon_68 : decode cX1_reckon 68 = .ok (.invokevirtual 151, 3) := by decide +kernel
theorem dX1_reckon_71 : decode cX1_reckon 71 = .ok (.iinc 3 1, 3) := by decide +kernel
theorem dX1_reckon_74 : decode cX1_reckon 74 = .ok (.goto (-65), 3) := by decide +kernel
theorem dX1_reckon_77 : decode cX1_reckon 77 = .ok (.return_, 1) := by decide +kernel
set_option maxRecDepth 20000 in
theorem ggX1_coinsBehindAll_X1_reckon : GoodIn wsX1_coinsBehindAll wsX1_reckon := goodIn_r _ [7, 2, 8, 9, 10, 11, 12, 13, 14, 15, 16, 17, 18, 19, 20, 21, 22, 23, 24, 25, 26, 27, 28, 29, 30, 31, 32, 33, 34, 35, 36, 37, 38, 39, 40, 41, 42, 43, 44, 45, 46, 47, 48, 49, 50, 51, 52, 53, 54, 55, 56, 57, 58, 59, 60, 61, 62, 63, 64, 65, 66, 67, 68, 69, 70, 71, 72, 73, 74, 75, 76, 77, 78, 79, 80, 81, 82, 83, 84, 85, 86, 87, 88, 89, 90, 91, 92, 93, 94, 95, 96, 97, 98, 99] (by decide +kernel) (by decide +kernel)
set_option maxRecDepth 20000 in
theorem gX1_coinsBehindAll_X1_reckon : GoodIn wsX1_coinsBehindAll (wsV RX1 68 RX1 yX1_reckon wsX1_reckon) := goodIn_app (goodIn_of _ (by decide +kernel)) ggX1_coinsBehindAll_X1_reckon
theorem dX1_coinsBehindAll_0 : decode cX1_coinsBehindAll 0 = .ok (.aload_n 0, 1) := by decide +kernel
theorem dX1_coinsBehindAll_1 : decode cX1_coinsBehindAll 1 = .ok (.aload_n 0, 1) := by decide +kernel
theorem dX1_coinsBehindAll_2 : decode cX1_coinsBehindAll 2 = .ok (.getfield 29, 3) := by decide +kernel
theorem dX1_coinsBehindAll_5 : decode cX1_coinsBehindAll 5 = .ok (.iload_n 1, 1) := by decide +kernel
theorem dX1_coinsBehindAll_6 : decode cX1_coinsBehindAll 6 = .ok (.invokevirtual 68, 3) := by decide +kernel
theorem dX1_coinsBehindAll_9 : decode cX1_coinsBehindAll 9 = .ok (.aload_n 0, 1) := by decide +kernel
theorem dX1_coinsBehindAll_10 : decode cX1_coinsBehindAll 10 = .ok (.getfield 38, 3) := by decide +kernel
theorem dX1_coinsBehindAll_13 : decode cX1_coinsBehindAll 13 = .ok (.getfield 71, 3) := by decide +kernel
theorem dX1_coinsBehindAll_16 : decode cX1_coinsBehindAll 16 = .ok (.ireturn, 1) := by decide +kernel
set_option maxRecDepth 20000 in
theorem ggX1_counts_X1_reckon : GoodIn wsX1_counts wsX1_reckon := goodIn_r _ [10, 2, 1, 3, 4, 5, 11, 12, 13, 14, 15, 16, 17, 18, 19, 20, 21, 22, 23, 24, 25, 26, 27, 28, 29, 30, 31, 32, 33, 34, 35, 36, 37, 38, 39, 40, 41, 42, 43, 44, 45, 46, 47, 48, 49, 50, 51, 52, 53, 54, 55, 56, 57, 58, 59, 60, 61, 62, 63, 64, 65, 66, 67, 68, 69, 70, 71, 72, 73, 74, 75, 76, 77, 78, 79, 80, 81, 82, 83, 84, 85, 86, 87, 88, 89, 90, 91, 92, 93, 94, 95, 96, 97, 98] (by decide +kernel) (by decide +kernel)
set_option maxRecDepth 20000 in
theorem gX1_counts_X1_reckon : GoodIn wsX1_counts (wsV RX1 68 RX1 yX1_reckon wsX1_reckon) := goodIn_app (goodIn_of _ (by decide +kernel)) ggX1_counts_X1_reckon
set_option maxRecDepth 20000 in
theorem ggX1_counts_X0_happens : GoodIn wsX1_counts wsX0_happens := goodIn_r _ [33, 17, 34, 35, 36, 12, 37, 18, 38, 39, 40, 41, 42, 15, 43, 44, 45, 46, 47, 48, 49, 50, 51, 52, 53, 54, 55, 56, 57, 58, 59, 60, 16, 61, 62, 63, 64, 26, 27, 28, 29, 65, 66, 67, 68, 69, 70, 71, 72, 73, 74, 75, 76, 77, 78, 79, 88, 89, 90, 91, 92, 93, 94, 95, 96, 97, 98] (by decide +kernel) (by decide +kernel)
set_option maxRecDepth 20000 in
theorem gX1_counts_X0_happens_n155 : GoodIn wsX1_counts (wsX0_happens) := ggX1_counts_X0_happens
theorem dX1_counts_0 : decode cX1_counts 0 = .ok (.aload_n 0, 1) := by decide +kernel
theorem dX1_counts_1 : decode cX1_counts 1 = .ok (.getfield 25, 3) := by decide +kernel
theorem dX1_counts_4 : decode cX1_counts 4 = .ok (.iload_n 1, 1) := by decide +kernel
theorem dX1_counts_5 : decode cX1_counts 5 = .ok (.baload, 1) := by decide +kernel
theorem dX1_counts_6 : decode cX1_counts 6 = .ok (.ifCond .eq 5, 3) := by decide +kernel
theorem dX1_counts_9 : decode cX1_counts 9 = .ok (.iconst 0, 1) := by decide +kernel
theorem dX1_counts_10 : decode cX1_counts 10 = .ok (.ireturn, 1) := by decide +kernel
theorem dX1_counts_11 : decode cX1_counts 11 = .ok (.aload_n 0, 1) := by decide +kernel
theorem dX1_counts_12 : decode cX1_counts 12 = .ok (.iload_n 1, 1) := by decide +kernel
theorem dX1_counts_13 : decode cX1_counts 13 = .ok (.iconst (-1), 1) := by decide +kernel
theorem dX1_counts_14 : decode cX1_counts 14 = .ok (.invokevirtual 68, 3) := by decide +kernel
theorem dX1_counts_17 : decode cX1_counts 17 = .ok (.aload_n 0, 1) := by decide +kernel
theorem dX1_counts_18 : decode cX1_counts 18 = .ok (.getfield 38, 3) := by decide +kernel
theorem dX1_counts_21 : decode cX1_counts 21 = .ok (.aload_n 0, 1) := by decide +kernel
theorem dX1_counts_22 : decode cX1_counts 22 = .ok (.getfield 16, 3) := by decide +kernel
theorem dX1_counts_25 : decode cX1_counts 25 = .ok (.iload_n 1, 1) := by decide +kernel
theorem dX1_counts_26 : decode cX1_counts 26 = .ok (.iaload, 1) := by decide +kernel
theorem dX1_counts_27 : decode cX1_counts 27 = .ok (.aload_n 0, 1) := by decide +kernel
theorem dX1_counts_28 : decode cX1_counts 28 = .ok (.getfield 19, 3) := by decide +kernel
theorem dX1_counts_31 : decode cX1_counts 31 = .ok (.iload_n 1, 1) := by decide +kernel
theorem dX1_counts_32 : decode cX1_counts 32 = .ok (.iaload, 1) := by decide +kernel
theorem dX1_counts_33 : decode cX1_counts 33 = .ok (.aload_n 0, 1) := by decide +kernel
theorem dX1_counts_34 : decode cX1_counts 34 = .ok (.getfield 22, 3) := by decide +kernel
theorem dX1_counts_37 : decode cX1_counts 37 = .ok (.iload_n 1, 1) := by decide +kernel
theorem dX1_counts_38 : decode cX1_counts 38 = .ok (.iaload, 1) := by decide +kernel
theorem dX1_counts_39 : decode cX1_counts 39 = .ok (.invokevirtual 155, 3) := by decide +kernel
theorem dX1_counts_42 : decode cX1_counts 42 = .ok (.ireturn, 1) := by decide +kernel
theorem dX2_init_0 : decode cX2_init 0 = .ok (.aload_n 0, 1) := by decide +kernel
theorem dX2_init_1 : decode cX2_init 1 = .ok (.invokespecial 1, 3) := by decide +kernel
theorem dX2_init_4 : decode cX2_init 4 = .ok (.aload_n 0, 1) := by decide +kernel
theorem dX2_init_5 : decode cX2_init 5 = .ok (.iconst 4, 1) := by decide +kernel
theorem dX2_init_6 : decode cX2_init 6 = .ok (.newarray .int, 2) := by decide +kernel
theorem dX2_init_8 : decode cX2_init 8 = .ok (.putfield 9, 3) := by decide +kernel
theorem dX2_init_11 : decode cX2_init 11 = .ok (.aload_n 0, 1) := by decide +kernel
theorem dX2_init_12 : decode cX2_init 12 = .ok (.iconst 4, 1) := by decide +kernel
theorem dX2_init_13 : decode cX2_init 13 = .ok (.newarray .int, 2) := by decide +kernel
theorem dX2_init_15 : decode cX2_init 15 = .ok (.putfield 13, 3) := by decide +kernel
theorem dX2_init_18 : decode cX2_init 18 = .ok (.aload_n 0, 1) := by decide +kernel
theorem dX2_init_19 : decode cX2_init 19 = .ok (.bipush 60, 2) := by decide +kernel
theorem dX2_init_21 : decode cX2_init 21 = .ok (.newarray .int, 2) := by decide +kernel
theorem dX2_init_23 : decode cX2_init 23 = .ok (.putfield 16, 3) := by decide +kernel
theorem dX2_init_26 : decode cX2_init 26 = .ok (.aload_n 0, 1) := by decide +kernel
theorem dX2_init_27 : decode cX2_init 27 = .ok (.bipush 60, 2) := by decide +kernel
theorem dX2_init_29 : decode cX2_init 29 = .ok (.newarray .int, 2) := by decide +kernel
theorem dX2_init_31 : decode cX2_init 31 = .ok (.putfield 19, 3) := by decide +kernel
theorem dX2_init_34 : decode cX2_init 34 = .ok (.aload_n 0, 1) := by decide +kernel
theorem dX2_init_35 : decode cX2_init 35 = .ok (.bipush 60, 2) := by decide +kernel
theorem dX2_init_37 : decode cX2_init 37 = .ok (.newarray .int, 2) := by decide +kernel
theorem dX2_init_39 : decode cX2_init 39 = .ok (.putfield 22, 3) := by decide +kernel
theorem dX2_init_42 : decode cX2_init 42 = .ok (.aload_n 0, 1) := by decide +kernel
theorem dX2_init_43 : decode cX2_init 43 = .ok (.bipush 60, 2) := by decide +kernel
theorem dX2_init_45 : decode cX2_init 45 = .ok (.newarray .boolean, 2) := by decide +kernel
theorem dX2_init_47 : decode cX2_init 47 = .ok (.putfield 25, 3) := by decide +kernel
theorem dX2_init_50 : decode cX2_init 50 = .ok (.aload_n 0, 1) := by decide +kernel
theorem dX2_init_51 : decode cX2_init 51 = .ok (.bipush 6, 2) := by decide +kernel
theorem dX2_init_53 : decode cX2_init 53 = .ok (.newarray .int, 2) := by decide +kernel
theorem dX2_init_55 : decode cX2_init 55 = .ok (.putfield 29, 3) := by decide +kernel
theorem dX2_init_58 : decode cX2_init 58 = .ok (.return_, 1) := by decide +kernel
theorem dX2_thrown_0 : decode cX2_thrown 0 = .ok (.aload_n 0, 1) := by decide +kernel
theorem dX2_thrown_1 : decode cX2_thrown 1 = .ok (.getfield 32, 3) := by decide +kernel
theorem dX2_thrown_4 : decode cX2_thrown 4 = .ok (.ireturn, 1) := by decide +kernel
theorem dX2_fail_0 : decode cX2_fail 0 = .ok (.aload_n 0, 1) := by decide +kernel
theorem dX2_fail_1 : decode cX2_fail 1 = .ok (.iload_n 1, 1) := by decide +kernel
theorem dX2_fail_2 : decode cX2_fail 2 = .ok (.putfield 32, 3) := by decide +kernel
theorem dX2_fail_5 : decode cX2_fail 5 = .ok (.iconst 0, 1) := by decide +kernel
theorem dX2_fail_6 : decode cX2_fail 6 = .ok (.ireturn, 1) := by decide +kernel
theorem dX2_isIn_0 : decode cX2_isIn 0 = .ok (.iload_n 0, 1) := by decide +kernel
theorem dX2_isIn_1 : decode cX2_isIn 1 = .ok (.iload_n 1, 1) := by decide +kernel
theorem dX2_isIn_2 : decode cX2_isIn 2 = .ok (.if_icmp .lt 12, 3) := by decide +kernel
theorem dX2_isIn_5 : decode cX2_isIn 5 = .ok (.iload_n 0, 1) := by decide +kernel
theorem dX2_isIn_6 : decode cX2_isIn 6 = .ok (.iload_n 2, 1) := by decide +kernel
theorem dX2_isIn_7 : decode cX2_isIn 7 = .ok (.if_icmp .gt 7, 3) := by decide +kernel
theorem dX2_isIn_10 : decode cX2_isIn 10 = .ok (.iconst 1, 1) := by decide +kernel
theorem dX2_isIn_11 : decode cX2_isIn 11 = .ok (.goto 4, 3) := by decide +kernel
theorem dX2_isIn_14 : decode cX2_isIn 14 = .ok (.iconst 0, 1) := by decide +kernel
theorem dX2_isIn_15 : decode cX2_isIn 15 = .ok (.ireturn, 1) := by decide +kernel
set_option maxRecDepth 20000 in
theorem ggX2_isEntry_X2_isIn : GoodIn wsX2_isEntry wsX2_isIn := goodIn_r _ [5] (by decide +kernel) (by decide +kernel)
set_option maxRecDepth 20000 in
theorem gX2_isEntry_X2_isIn : GoodIn wsX2_isEntry (va_wsS RX2 39 yX2_isIn wsX2_isIn) := goodIn_app (goodIn_of _ (by decide +kernel)) ggX2_isEntry_X2_isIn
theorem dX2_isEntry_0 : decode cX2_isEntry 0 = .ok (.iload_n 1, 1) := by decide +kernel
theorem dX2_isEntry_1 : decode cX2_isEntry 1 = .ok (.iconst 0, 1) := by decide +kernel
theorem dX2_isEntry_2 : decode cX2_isEntry 2 = .ok (.aload_n 0, 1) := by decide +kernel
theorem dX2_isEntry_3 : decode cX2_isEntry 3 = .ok (.getfield 36, 3) := by decide +kernel
theorem dX2_isEntry_6 : decode cX2_isEntry 6 = .ok (.iconst 1, 1) := by decide +kernel
theorem dX2_isEntry_7 : decode cX2_isEntry 7 = .ok (.isub, 1) := by decide +kernel
theorem dX2_isEntry_8 : decode cX2_isEntry 8 = .ok (.invokestatic 39, 3) := by decide +kernel
theorem dX2_isEntry_11 : decode cX2_isEntry 11 = .ok (.ireturn, 1) := by decide +kernel
set_option maxRecDepth 20000 in
theorem ggX2_set_X2_isIn : GoodIn wsX2_set wsX2_isIn := goodIn_r _ [7] (by decide +kernel) (by decide +kernel)
set_option maxRecDepth 20000 in
theorem gX2_set_X2_isIn : GoodIn wsX2_set (va_wsS RX2 39 yX2_isIn wsX2_isIn) := goodIn_app (goodIn_of _ (by decide +kernel)) ggX2_set_X2_isIn
set_option maxRecDepth 20000 in
theorem ggX2_set_X2_fail : GoodIn wsX2_set wsX2_fail := goodIn_r _ [11, 1, 12, 13, 14, 15, 16, 17, 18, 19, 20, 21, 22, 23, 24, 25, 26, 27, 28] (by decide +kernel) (by decide +kernel)
set_option maxRecDepth 20000 in
theorem gX2_set_X2_fail : GoodIn wsX2_set (wsV RX2 43 RX2 yX2_fail wsX2_fail) := goodIn_app (goodIn_of _ (by decide +kernel)) ggX2_set_X2_fail
theorem dX2_set_0 : decode cX2_set 0 = .ok (.aload_n 0, 1) := by decide +kernel
theorem dX2_set_1 : decode cX2_set 1 = .ok (.iconst 0, 1) := by decide +kernel
theorem dX2_set_2 : decode cX2_set 2 = .ok (.putfield 32, 3) := by decide +kernel
theorem dX2_set_5 : decode cX2_set 5 = .ok (.iload_n 1, 1) := by decide +kernel
theorem dX2_set_6 : decode cX2_set 6 = .ok (.iconst 0, 1) := by decide +kernel
theorem dX2_set_7 : decode cX2_set 7 = .ok (.iconst 3, 1) := by decide +kernel
theorem dX2_set_8 : decode cX2_set 8 = .ok (.invokestatic 39, 3) := by decide +kernel
theorem dX2_set_11 : decode cX2_set 11 = .ok (.ifCond .ne 9, 3) := by decide +kernel
theorem dX2_set_14 : decode cX2_set 14 = .ok (.aload_n 0, 1) := by decide +kernel
theorem dX2_set_15 : decode cX2_set 15 = .ok (.iconst 1, 1) := by decide +kernel
theorem dX2_set_16 : decode cX2_set 16 = .ok (.invokevirtual 43, 3) := by decide +kernel
theorem dX2_set_19 : decode cX2_set 19 = .ok (.ireturn, 1) := by decide +kernel
theorem dX2_set_20 : decode cX2_set 20 = .ok (.iload_n 2, 1) := by decide +kernel
theorem dX2_set_21 : decode cX2_set 21 = .ok (.iconst 0, 1) := by decide +kernel
theorem dX2_set_22 : decode cX2_set 22 = .ok (.bipush 9, 2) := by decide +kernel
theorem dX2_set_24 : decode cX2_set 24 = .ok (.invokestatic 39, 3) := by decide +kernel
theorem dX2_set_27 : decode cX2_set 27 = .ok (.ifCond .eq 13, 3) := by decide +kernel
theorem dX2_set_30 : decode cX2_set 30 = .ok (.iload_n 3, 1) := by decide +kernel
theorem dX2_set_31 : decode cX2_set 31 = .ok (.iconst 0, 1) := by decide +kernel
theorem dX2_set_32 : decode cX2_set 32 = .ok (.bipush 9, 2) := by decide +kernel
theorem dX2_set_34 : decode cX2_set 34 = .ok (.invokestatic 39, 3) := by decide +kernel
theorem dX2_set_37 : decode cX2_set 37 = .ok (.ifCond .ne 9, 3) := by decide +kernel
theorem dX2_set_40 : decode cX2_set 40 = .ok (.aload_n 0, 1) := by decide +kernel
theorem dX2_set_41 : decode cX2_set 41 = .ok (.iconst 2, 1) := by decide +kernel
theorem dX2_set_42 : decode cX2_set 42 = .ok (.invokevirtual 43, 3) := by decide +kernel
theorem dX2_set_45 : decode cX2_set 45 = .ok (.ireturn, 1) := by decide +kernel
theorem dX2_set_46 : decode cX2_set 46 = .ok (.bipush 10, 2) := by decide +kernel
theorem dX2_set_48 : decode cX2_set 48 = .ok (.aload_n 0, 1) := by decide +kernel
theorem dX2_set_49 : decode cX2_set 49 = .ok (.getfield 9, 3) := by decide +kernel
theorem dX2_set_52 : decode cX2_set 52 = .ok (.iload_n 1, 1) := by decide +kernel
theorem dX2_set_53 : decode cX2_set 53 = .ok (.iaload, 1) := by decide +kernel
theorem dX2_set_54 : decode cX2_set 54 = .ok (.imul, 1) := by decide +kernel
theorem dX2_set_55 : decode cX2_set 55 = .ok (.aload_n 0, 1) := by decide +kernel
theorem dX2_set_56 : decode cX2_set 56 = .ok (.getfield 13, 3) := by decide +kernel
theorem dX2_set_59 : decode cX2_set 59 = .ok (.iload_n 1, 1) := by decide +kernel
theorem dX2_set_60 : decode cX2_set 60 = .ok (.iaload, 1) := by decide +kernel
theorem dX2_set_61 : decode cX2_set 61 = .ok (.iadd, 1) := by decide +kernel
theorem dX2_set_62 : decode cX2_set 62 = .ok (.istore 4, 2) := by decide +kernel
theorem dX2_set_64 : decode cX2_set 64 = .ok (.aload_n 0, 1) := by decide +kernel
theorem dX2_set_65 : decode cX2_set 65 = .ok (.getfield 9, 3) := by decide +kernel
theorem dX2_set_68 : decode cX2_set 68 = .ok (.iload_n 1, 1) := by decide +kernel
theorem dX2_set_69 : decode cX2_set 69 = .ok (.iload_n 2, 1) := by decide +kernel
theorem dX2_set_70 : decode cX2_set 70 = .ok (.iastore, 1) := by decide +kernel
theorem dX2_set_71 : decode cX2_set 71 = .ok (.aload_n 0, 1) := by decide +kernel
theorem dX2_set_72 : decode cX2_set 72 = .ok (.getfield 13, 3) := by decide +kernel
theorem dX2_set_75 : decode cX2_set 75 = .ok (.iload_n 1, 1) := by decide +kernel
theorem dX2_set_76 : decode cX2_set 76 = .ok (.iload_n 3, 1) := by decide +kernel
theorem dX2_set_77 : decode cX2_set 77 = .ok (.iastore, 1) := by decide +kernel
theorem dX2_set_78 : decode cX2_set 78 = .ok (.iload 4, 2) := by decide +kernel
theorem dX2_set_80 : decode cX2_set 80 = .ok (.ireturn, 1) := by decide +kernel
theorem dX2_write_0 : decode cX2_write 0 = .ok (.aload_n 0, 1) := by decide +kernel
theorem dX2_write_1 : decode cX2_write 1 = .ok (.getfield 16, 3) := by decide +kernel
theorem dX2_write_4 : decode cX2_write 4 = .ok (.aload_n 0, 1) := by decide +kernel
theorem dX2_write_5 : decode cX2_write 5 = .ok (.getfield 36, 3) := by decide +kernel
theorem dX2_write_8 : decode cX2_write 8 = .ok (.iload_n 1, 1) := by decide +kernel
theorem dX2_write_9 : decode cX2_write 9 = .ok (.iastore, 1) := by decide +kernel
theorem dX2_write_10 : decode cX2_write 10 = .ok (.aload_n 0, 1) := by decide +kernel
theorem dX2_write_11 : decode cX2_write 11 = .ok (.getfield 19, 3) := by decide +kernel
theorem dX2_write_14 : decode cX2_write 14 = .ok (.aload_n 0, 1) := by decide +kernel
theorem dX2_write_15 : decode cX2_write 15 = .ok (.getfield 36, 3) := by decide +kernel
theorem dX2_write_18 : decode cX2_write 18 = .ok (.iload_n 2, 1) := by decide +kernel
theorem dX2_write_19 : decode cX2_write 19 = .ok (.iastore, 1) := by decide +kernel
theorem dX2_write_20 : decode cX2_write 20 = .ok (.aload_n 0, 1) := by decide +kernel
theorem dX2_write_21 : decode cX2_write 21 = .ok (.getfield 22, 3) := by decide +kernel
theorem dX2_write_24 : decode cX2_write 24 = .ok (.aload_n 0, 1) := by decide +kernel
theorem dX2_write_25 : decode cX2_write 25 = .ok (.getfield 36, 3) := by decide +kernel
theorem dX2_write_28 : decode cX2_write 28 = .ok (.iload_n 3, 1) := by decide +kernel
theorem dX2_write_29 : decode cX2_write 29 = .ok (.iastore, 1) := by decide +kernel
theorem dX2_write_30 : decode cX2_write 30 = .ok (.aload_n 0, 1) := by decide +kernel
theorem dX2_write_31 : decode cX2_write 31 = .ok (.getfield 25, 3) := by decide +kernel
theorem dX2_write_34 : decode cX2_write 34 = .ok (.aload_n 0, 1) := by decide +kernel
theorem dX2_write_35 : decode cX2_write 35 = .ok (.getfield 36, 3) := by decide +kernel
theorem dX2_write_38 : decode cX2_write 38 = .ok (.iconst 0, 1) := by decide +kernel
theorem dX2_write_39 : decode cX2_write 39 = .ok (.bastore, 1) := by decide +kernel
theorem dX2_write_40 : decode cX2_write 40 = .ok (.aload_n 0, 1) := by decide +kernel
theorem dX2_write_41 : decode cX2_write 41 = .ok (.dup, 1) := by decide +kernel
theorem dX2_write_42 : decode cX2_write 42 = .ok (.getfield 36, 3) := by decide +kernel
theorem dX2_write_45 : decode cX2_write 45 = .ok (.iconst 1, 1) := by decide +kernel
theorem dX2_write_46 : decode cX2_write 46 = .ok (.iadd, 1) := by decide +kernel
theorem dX2_write_47 : decode cX2_write 47 = .ok (.putfield 36, 3) := by decide +kernel
theorem dX2_write_50 : decode cX2_write 50 = .ok (.aload_n 0, 1) := by decide +kernel
theorem dX2_write_51 : decode cX2_write 51 = .ok (.getfield 36, 3) := by decide +kernel
theorem dX2_write_54 : decode cX2_write 54 = .ok (.iconst 1, 1) := by decide +kernel
theorem dX2_write_55 : decode cX2_write 55 = .ok (.isub, 1) := by decide +kernel
theorem dX2_write_56 : decode cX2_write 56 = .ok (.ireturn, 1) := by decide +kernel
set_option maxRecDepth 20000 in
theorem ggX2_join_X2_isIn : GoodIn wsX2_join wsX2_isIn := goodIn_r _ [6] (by decide +kernel) (by decide +kernel)
set_option maxRecDepth 20000 in
theorem gX2_join_X2_isIn : GoodIn wsX2_join (va_wsS RX2 39 yX2_isIn wsX2_isIn) := goodIn_app (goodIn_of _ (by decide +kernel)) ggX2_join_X2_isIn
set_option maxRecDepth 20000 in
theorem ggX2_join_X2_fail : GoodIn wsX2_join wsX2_fail := goodIn_r _ [10, 1, 19, 20, 21, 22, 23, 24, 25, 26, 27, 28, 29, 30, 31, 32, 33, 34, 35] (by decide +kernel) (by decide +kernel)
set_option maxRecDepth 20000 in
theorem gX2_join_X2_fail : GoodIn wsX2_join (wsV RX2 43 RX2 yX2_fail wsX2_fail) := goodIn_app (goodIn_of _ (by decide +kernel)) ggX2_join_X2_fail
set_option maxRecDepth 20000 in
theorem ggX2_join_X2_write : GoodIn wsX2_join wsX2_write := goodIn_r _ [14, 15, 2, 16, 17, 18, 19, 20, 21, 22, 23, 24, 25, 26, 27, 28, 29, 30, 31, 32, 33, 34, 35] (by decide +kernel) (by decide +kernel)
set_option maxRecDepth 20000 in
theorem gX2_join_X2_write : GoodIn wsX2_join (wsV RX2 47 RX2 yX2_write wsX2_write) := goodIn_app (goodIn_of _ (by decide +kernel)) ggX2_join_X2_write
theorem dX2_join_0 : decode cX2_join 0 = .ok (.aload_n 0, 1) := by decide +kernel
theorem dX2_join_1 : decode cX2_join 1 = .ok (.iconst 0, 1) := by decide +kernel
theorem dX2_join_2 : decode cX2_join 2 = .ok (.putfield 32, 3) := by decide +kernel
theorem dX2_join_5 : decode cX2_join 5 = .ok (.iload_n 1, 1) := by decide +kernel
theorem dX2_join_6 : decode cX2_join 6 = .ok (.iconst 0, 1) := by decide +kernel
theorem dX2_join_7 : decode cX2_join 7 = .ok (.bipush 100, 2) := by decide +kernel
theorem dX2_join_9 : decode cX2_join 9 = .ok (.invokestatic 39, 3) := by decide +kernel
theorem dX2_join_12 : decode cX2_join 12 = .ok (.ifCond .ne 9, 3) := by decide +kernel
theorem dX2_join_15 : decode cX2_join 15 = .ok (.aload_n 0, 1) := by decide +kernel
theorem dX2_join_16 : decode cX2_join 16 = .ok (.iconst 1, 1) := by decide +kernel
theorem dX2_join_17 : decode cX2_join 17 = .ok (.invokevirtual 43, 3) := by decide +kernel
theorem dX2_join_20 : decode cX2_join 20 = .ok (.ireturn, 1) := by decide +kernel
theorem dX2_join_21 : decode cX2_join 21 = .ok (.aload_n 0, 1) := by decide +kernel
theorem dX2_join_22 : decode cX2_join 22 = .ok (.getfield 36, 3) := by decide +kernel
theorem dX2_join_25 : decode cX2_join 25 = .ok (.bipush 60, 2) := by decide +kernel
theorem dX2_join_27 : decode cX2_join 27 = .ok (.if_icmp .ne 11, 3) := by decide +kernel
theorem dX2_join_30 : decode cX2_join 30 = .ok (.aload_n 0, 1) := by decide +kernel
theorem dX2_join_31 : decode cX2_join 31 = .ok (.iconst 2, 1) := by decide +kernel
theorem dX2_join_32 : decode cX2_join 32 = .ok (.invokevirtual 43, 3) := by decide +kernel
theorem dX2_join_35 : decode cX2_join 35 = .ok (.goto 10, 3) := by decide +kernel
theorem dX2_join_38 : decode cX2_join 38 = .ok (.aload_n 0, 1) := by decide +kernel
theorem dX2_join_39 : decode cX2_join 39 = .ok (.iconst 0, 1) := by decide +kernel
theorem dX2_join_40 : decode cX2_join 40 = .ok (.iload_n 1, 1) := by decide +kernel
theorem dX2_join_41 : decode cX2_join 41 = .ok (.iconst 0, 1) := by decide +kernel
theorem dX2_join_42 : decode cX2_join 42 = .ok (.invokevirtual 47, 3) := by decide +kernel
theorem dX2_join_45 : decode cX2_join 45 = .ok (.ireturn, 1) := by decide +kernel
set_option maxRecDepth 20000 in
theorem ggX2_toss_X2_isIn : GoodIn wsX2_toss wsX2_isIn := goodIn_r _ [6] (by decide +kernel) (by decide +kernel)
set_option maxRecDepth 20000 in
theorem gX2_toss_X2_isIn : GoodIn wsX2_toss (va_wsS RX2 39 yX2_isIn wsX2_isIn) := goodIn_app (goodIn_of _ (by decide +kernel)) ggX2_toss_X2_isIn
set_option maxRecDepth 20000 in
theorem ggX2_toss_X2_fail : GoodIn wsX2_toss wsX2_fail := goodIn_r _ [10, 1, 19, 20, 21, 22, 23, 24, 25, 26, 27, 28, 29, 30, 31, 32, 33, 34, 35] (by decide +kernel) (by decide +kernel)
set_option maxRecDepth 20000 in
theorem gX2_toss_X2_fail : GoodIn wsX2_toss (wsV RX2 43 RX2 yX2_fail wsX2_fail) := goodIn_app (goodIn_of _ (by decide +kernel)) ggX2_toss_X2_fail
set_option maxRecDepth 20000 in
theorem ggX2_toss_X2_write : GoodIn wsX2_toss wsX2_write := goodIn_r _ [14, 15, 2, 16, 17, 18, 19, 20, 21, 22, 23, 24, 25, 26, 27, 28, 29, 30, 31, 32, 33, 34, 35] (by decide +kernel) (by decide +kernel)
set_option maxRecDepth 20000 in
theorem gX2_toss_X2_write : GoodIn wsX2_toss (wsV RX2 47 RX2 yX2_write wsX2_write) := goodIn_app (goodIn_of _ (by decide +kernel)) ggX2_toss_X2_write
theorem dX2_toss_0 : decode cX2_toss 0 = .ok (.aload_n 0, 1) := by decide +kernel
theorem dX2_toss_1 : decode cX2_toss 1 = .ok (.iconst 0, 1) := by decide +kernel
theorem dX2_toss_2 : decode cX2_toss 2 = .ok (.putfield 32, 3) := by decide +kernel
theorem dX2_toss_5 : decode cX2_toss 5 = .ok (.iload_n 1, 1) := by decide +kernel
theorem dX2_toss_6 : decode cX2_toss 6 = .ok (.iconst 0, 1) := by decide +kernel
theorem dX2_toss_7 : decode cX2_toss 7 = .ok (.iconst 5, 1) := by decide +kernel
theorem dX2_toss_8 : decode cX2_toss 8 = .ok (.invokestatic 39, 3) := by decide +kernel
theorem dX2_toss_11 : decode cX2_toss 11 = .ok (.ifCond .ne 9, 3) := by decide +kernel
theorem dX2_toss_14 : decode cX2_toss 14 = .ok (.aload_n 0, 1) := by decide +kernel
theorem dX2_toss_15 : decode cX2_toss 15 = .ok (.iconst 1, 1) := by decide +kernel
theorem dX2_toss_16 : decode cX2_toss 16 = .ok (.invokevirtual 43, 3) := by decide +kernel
theorem dX2_toss_19 : decode cX2_toss 19 = .ok (.ireturn, 1) := by decide +kernel
theorem dX2_toss_20 : decode cX2_toss 20 = .ok (.iload_n 2, 1) := by decide +kernel
theorem dX2_toss_21 : decode cX2_toss 21 = .ok (.iconst 0, 1) := by decide +kernel
theorem dX2_toss_22 : decode cX2_toss 22 = .ok (.bipush 20, 2) := by decide +kernel
theorem dX2_toss_24 : decode cX2_toss 24 = .ok (.invokestatic 39, 3) := by decide +kernel
theorem dX2_toss_27 : decode cX2_toss 27 = .ok (.ifCond .ne 9, 3) := by decide +kernel
theorem dX2_toss_30 : decode cX2_toss 30 = .ok (.aload_n 0, 1) := by decide +kernel
theorem dX2_toss_31 : decode cX2_toss 31 = .ok (.iconst 2, 1) := by decide +kernel
theorem dX2_toss_32 : decode cX2_toss 32 = .ok (.invokevirtual 43, 3) := by decide +kernel
theorem dX2_toss_35 : decode cX2_toss 35 = .ok (.ireturn, 1) := by decide +kernel
theorem dX2_toss_36 : decode cX2_toss 36 = .ok (.aload_n 0, 1) := by decide +kernel
theorem dX2_toss_37 : decode cX2_toss 37 = .ok (.getfield 36, 3) := by decide +kernel
theorem dX2_toss_40 : decode cX2_toss 40 = .ok (.bipush 60, 2) := by decide +kernel
theorem dX2_toss_42 : decode cX2_toss 42 = .ok (.if_icmp .ne 11, 3) := by decide +kernel
theorem dX2_toss_45 : decode cX2_toss 45 = .ok (.aload_n 0, 1) := by decide +kernel
theorem dX2_toss_46 : decode cX2_toss 46 = .ok (.iconst 3, 1) := by decide +kernel
theorem dX2_toss_47 : decode cX2_toss 47 = .ok (.invokevirtual 43, 3) := by decide +kernel
theorem dX2_toss_50 : decode cX2_toss 50 = .ok (.goto 10, 3) := by decide +kernel
theorem dX2_toss_53 : decode cX2_toss 53 = .ok (.aload_n 0, 1) := by decide +kernel
theorem dX2_toss_54 : decode cX2_toss 54 = .ok (.iconst 1, 1) := by decide +kernel
theorem dX2_toss_55 : decode cX2_toss 55 = .ok (.iload_n 1, 1) := by decide +kernel
theorem dX2_toss_56 : decode cX2_toss 56 = .ok (.iload_n 2, 1) := by decide +kernel
theorem dX2_toss_57 : decode cX2_toss 57 = .ok (.invokevirtual 47, 3) := by decide +kernel
theorem dX2_toss_60 : decode cX2_toss 60 = .ok (.ireturn, 1) := by decide +kernel
set_option maxRecDepth 20000 in
theorem ggX2_rest_X2_isIn : GoodIn wsX2_rest wsX2_isIn := goodIn_r _ [6] (by decide +kernel) (by decide +kernel)
set_option maxRecDepth 20000 in
theorem gX2_rest_X2_isIn : GoodIn wsX2_rest (va_wsS RX2 39 yX2_isIn wsX2_isIn) := goodIn_app (goodIn_of _ (by decide +kernel)) ggX2_rest_X2_isIn
set_option maxRecDepth 20000 in
theorem ggX2_rest_X2_fail : GoodIn wsX2_rest wsX2_fail := goodIn_r _ [10, 1, 19, 20, 21, 22, 23, 24, 25, 26, 27, 28, 29, 30, 31, 32, 33, 34, 35] (by decide +kernel) (by decide +kernel)
set_option maxRecDepth 20000 in
theorem gX2_rest_X2_fail : GoodIn wsX2_rest (wsV RX2 43 RX2 yX2_fail wsX2_fail) := goodIn_app (goodIn_of _ (by decide +kernel)) ggX2_rest_X2_fail
set_option maxRecDepth 20000 in
theorem ggX2_rest_X2_write : GoodIn wsX2_rest wsX2_write := goodIn_r _ [14, 15, 2, 16, 17, 18, 19, 20, 21, 22, 23, 24, 25, 26, 27, 28, 29, 30, 31, 32, 33, 34, 35] (by decide +kernel) (by decide +kernel)
set_option maxRecDepth 20000 in
theorem gX2_rest_X2_write : GoodIn wsX2_rest (wsV RX2 47 RX2 yX2_write wsX2_write) := goodIn_app (goodIn_of _ (by decide +kernel)) ggX2_rest_X2_write
theorem dX2_rest_0 : decode cX2_rest 0 = .ok (.aload_n 0, 1) := by decide +kernel
theorem dX2_rest_1 : decode cX2_rest 1 = .ok (.iconst 0, 1) := by decide +kernel
theorem dX2_rest_2 : decode cX2_rest 2 = .ok (.putfield 32, 3) := by decide +kernel
theorem dX2_rest_5 : decode cX2_rest 5 = .ok (.iload_n 1, 1) := by decide +kernel
theorem dX2_rest_6 : decode cX2_rest 6 = .ok (.iconst 0, 1) := by decide +kernel
theorem dX2_rest_7 : decode cX2_rest 7 = .ok (.iconst 5, 1) := by decide +kernel
theorem dX2_rest_8 : decode cX2_rest 8 = .ok (.invokestatic 39, 3) := by decide +kernel
theorem dX2_rest_11 : decode cX2_rest 11 = .ok (.ifCond .ne 9, 3) := by decide +kernel
theorem dX2_rest_14 : decode cX2_rest 14 = .ok (.aload_n 0, 1) := by decide +kernel
theorem dX2_rest_15 : decode cX2_rest 15 = .ok (.iconst 1, 1) := by decide +kernel
theorem dX2_rest_16 : decode cX2_rest 16 = .ok (.invokevirtual 43, 3) := by decide +kernel
theorem dX2_rest_19 : decode cX2_rest 19 = .ok (.ireturn, 1) := by decide +kernel
theorem dX2_rest_20 : decode cX2_rest 20 = .ok (.aload_n 0, 1) := by decide +kernel
theorem dX2_rest_21 : decode cX2_rest 21 = .ok (.getfield 36, 3) := by decide +kernel
theorem dX2_rest_24 : decode cX2_rest 24 = .ok (.bipush 60, 2) := by decide +kernel
theorem dX2_rest_26 : decode cX2_rest 26 = .ok (.if_icmp .ne 11, 3) := by decide +kernel
theorem dX2_rest_29 : decode cX2_rest 29 = .ok (.aload_n 0, 1) := by decide +kernel
theorem dX2_rest_30 : decode cX2_rest 30 = .ok (.iconst 2, 1) := by decide +kernel
theorem dX2_rest_31 : decode cX2_rest 31 = .ok (.invokevirtual 43, 3) := by decide +kernel
theorem dX2_rest_34 : decode cX2_rest 34 = .ok (.goto 10, 3) := by decide +kernel
theorem dX2_rest_37 : decode cX2_rest 37 = .ok (.aload_n 0, 1) := by decide +kernel
theorem dX2_rest_38 : decode cX2_rest 38 = .ok (.iconst 2, 1) := by decide +kernel
theorem dX2_rest_39 : decode cX2_rest 39 = .ok (.iload_n 1, 1) := by decide +kernel
theorem dX2_rest_40 : decode cX2_rest 40 = .ok (.iconst 0, 1) := by decide +kernel
theorem dX2_rest_41 : decode cX2_rest 41 = .ok (.invokevirtual 47, 3) := by decide +kernel
theorem dX2_rest_44 : decode cX2_rest 44 = .ok (.ireturn, 1) := by decide +kernel
set_option maxRecDepth 20000 in
theorem ggX2_go_X2_isIn : GoodIn wsX2_go wsX2_isIn := goodIn_r _ [6] (by decide +kernel) (by decide +kernel)
set_option maxRecDepth 20000 in
theorem gX2_go_X2_isIn : GoodIn wsX2_go (va_wsS RX2 39 yX2_isIn wsX2_isIn) := goodIn_app (goodIn_of _ (by decide +kernel)) ggX2_go_X2_isIn
set_option maxRecDepth 20000 in
theorem ggX2_go_X2_fail : GoodIn wsX2_go wsX2_fail := goodIn_r _ [10, 1, 19, 20, 21, 22, 23, 24, 25, 26, 27, 28, 29, 30, 31, 32, 33, 34, 35] (by decide +kernel) (by decide +kernel)
set_option maxRecDepth 20000 in
theorem gX2_go_X2_fail : GoodIn wsX2_go (wsV RX2 43 RX2 yX2_fail wsX2_fail) := goodIn_app (goodIn_of _ (by decide +kernel)) ggX2_go_X2_fail
set_option maxRecDepth 20000 in
theorem ggX2_go_X2_write : GoodIn wsX2_go wsX2_write := goodIn_r _ [14, 15, 2, 16, 17, 18, 19, 20, 21, 22, 23, 24, 25, 26, 27, 28, 29, 30, 31, 32, 33, 34, 35] (by decide +kernel) (by decide +kernel)
set_option maxRecDepth 20000 in
theorem gX2_go_X2_write : GoodIn wsX2_go (wsV RX2 47 RX2 yX2_write wsX2_write) := goodIn_app (goodIn_of _ (by decide +kernel)) ggX2_go_X2_write
theorem dX2_go_0 : decode cX2_go 0 = .ok (.aload_n 0, 1) := by decide +kernel
theorem dX2_go_1 : decode cX2_go 1 = .ok (.iconst 0, 1) := by decide +kernel
theorem dX2_go_2 : decode cX2_go 2 = .ok (.putfield 32, 3) := by decide +kernel
theorem dX2_go_5 : decode cX2_go 5 = .ok (.iload_n 1, 1) := by decide +kernel
theorem dX2_go_6 : decode cX2_go 6 = .ok (.iconst 0, 1) := by decide +kernel
theorem dX2_go_7 : decode cX2_go 7 = .ok (.iconst 3, 1) := by decide +kernel
theorem dX2_go_8 : decode cX2_go 8 = .ok (.invokestatic 39, 3) := by decide +kernel
theorem dX2_go_11 : decode cX2_go 11 = .ok (.ifCond .ne 9, 3) := by decide +kernel
theorem dX2_go_14 : decode cX2_go 14 = .ok (.aload_n 0, 1) := by decide +kernel
theorem dX2_go_15 : decode cX2_go 15 = .ok (.iconst 1, 1) := by decide +kernel
theorem dX2_go_16 : decode cX2_go 16 = .ok (.invokevirtual 43, 3) := by decide +kernel
theorem dX2_go_19 : decode cX2_go 19 = .ok (.ireturn, 1) := by decide +kernel
theorem dX2_go_20 : decode cX2_go 20 = .ok (.aload_n 0, 1) := by decide +kernel
theorem dX2_go_21 : decode cX2_go 21 = .ok (.getfield 36, 3) := by decide +kernel
theorem dX2_go_24 : decode cX2_go 24 = .ok (.bipush 60, 2) := by decide +kernel
theorem dX2_go_26 : decode cX2_go 26 = .ok (.if_icmp .ne 11, 3) := by decide +kernel
theorem dX2_go_29 : decode cX2_go 29 = .ok (.aload_n 0, 1) := by decide +kernel
theorem dX2_go_30 : decode cX2_go 30 = .ok (.iconst 2, 1) := by decide +kernel
theorem dX2_go_31 : decode cX2_go 31 = .ok (.invokevirtual 43, 3) := by decide +kernel
theorem dX2_go_34 : decode cX2_go 34 = .ok (.goto 10, 3) := by decide +kernel
theorem dX2_go_37 : decode cX2_go 37 = .ok (.aload_n 0, 1) := by decide +kernel
theorem dX2_go_38 : decode cX2_go 38 = .ok (.iconst 3, 1) := by decide +kernel
theorem dX2_go_39 : decode cX2_go 39 = .ok (.iload_n 1, 1) := by decide +kernel
theorem dX2_go_40 : decode cX2_go 40 = .ok (.iconst 0, 1) := by decide +kernel
theorem dX2_go_41 : decode cX2_go 41 = .ok (.invokevirtual 47, 3) := by decide +kernel
theorem dX2_go_44 : decode cX2_go 44 = .ok (.ireturn, 1) := by decide +kernel
set_option maxRecDepth 20000 in
theorem ggX2_pay_X2_isIn : GoodIn wsX2_pay wsX2_isIn := goodIn_r _ [6] (by decide +kernel) (by decide +kernel)
set_option maxRecDepth 20000 in
theorem gX2_pay_X2_isIn : GoodIn wsX2_pay (va_wsS RX2 39 yX2_isIn wsX2_isIn) := goodIn_app (goodIn_of _ (by decide +kernel)) ggX2_pay_X2_isIn
set_option maxRecDepth 20000 in
theorem ggX2_pay_X2_fail : GoodIn wsX2_pay wsX2_fail := goodIn_r _ [10, 1, 19, 20, 21, 22, 23, 24, 25, 26, 27, 28, 29, 30, 31, 32, 33, 34, 35] (by decide +kernel) (by decide +kernel)
set_option maxRecDepth 20000 in
theorem gX2_pay_X2_fail : GoodIn wsX2_pay (wsV RX2 43 RX2 yX2_fail wsX2_fail) := goodIn_app (goodIn_of _ (by decide +kernel)) ggX2_pay_X2_fail
set_option maxRecDepth 20000 in
theorem ggX2_pay_X2_write : GoodIn wsX2_pay wsX2_write := goodIn_r _ [14, 15, 2, 16, 17, 18, 19, 20, 21, 22, 23, 24, 25, 26, 27, 28, 29, 30, 31, 32, 33, 34, 35] (by decide +kernel) (by decide +kernel)
set_option maxRecDepth 20000 in
theorem gX2_pay_X2_write : GoodIn wsX2_pay (wsV RX2 47 RX2 yX2_write wsX2_write) := goodIn_app (goodIn_of _ (by decide +kernel)) ggX2_pay_X2_write
theorem dX2_pay_0 : decode cX2_pay 0 = .ok (.aload_n 0, 1) := by decide +kernel
theorem dX2_pay_1 : decode cX2_pay 1 = .ok (.iconst 0, 1) := by decide +kernel
theorem dX2_pay_2 : decode cX2_pay 2 = .ok (.putfield 32, 3) := by decide +kernel
theorem dX2_pay_5 : decode cX2_pay 5 = .ok (.iload_n 1, 1) := by decide +kernel
theorem dX2_pay_6 : decode cX2_pay 6 = .ok (.iconst 0, 1) := by decide +kernel
theorem dX2_pay_7 : decode cX2_pay 7 = .ok (.iconst 5, 1) := by decide +kernel
theorem dX2_pay_8 : decode cX2_pay 8 = .ok (.invokestatic 39, 3) := by decide +kernel
theorem dX2_pay_11 : decode cX2_pay 11 = .ok (.ifCond .ne 9, 3) := by decide +kernel
theorem dX2_pay_14 : decode cX2_pay 14 = .ok (.aload_n 0, 1) := by decide +kernel
theorem dX2_pay_15 : decode cX2_pay 15 = .ok (.iconst 1, 1) := by decide +kernel
theorem dX2_pay_16 : decode cX2_pay 16 = .ok (.invokevirtual 43, 3) := by decide +kernel
theorem dX2_pay_19 : decode cX2_pay 19 = .ok (.ireturn, 1) := by decide +kernel
theorem dX2_pay_20 : decode cX2_pay 20 = .ok (.iload_n 2, 1) := by decide +kernel
theorem dX2_pay_21 : decode cX2_pay 21 = .ok (.iconst 1, 1) := by decide +kernel
theorem dX2_pay_22 : decode cX2_pay 22 = .ok (.bipush 99, 2) := by decide +kernel
theorem dX2_pay_24 : decode cX2_pay 24 = .ok (.invokestatic 39, 3) := by decide +kernel
theorem dX2_pay_27 : decode cX2_pay 27 = .ok (.ifCond .ne 9, 3) := by decide +kernel
theorem dX2_pay_30 : decode cX2_pay 30 = .ok (.aload_n 0, 1) := by decide +kernel
theorem dX2_pay_31 : decode cX2_pay 31 = .ok (.iconst 2, 1) := by decide +kernel
theorem dX2_pay_32 : decode cX2_pay 32 = .ok (.invokevirtual 43, 3) := by decide +kernel
theorem dX2_pay_35 : decode cX2_pay 35 = .ok (.ireturn, 1) := by decide +kernel
theorem dX2_pay_36 : decode cX2_pay 36 = .ok (.aload_n 0, 1) := by decide +kernel
theorem dX2_pay_37 : decode cX2_pay 37 = .ok (.getfield 36, 3) := by decide +kernel
theorem dX2_pay_40 : decode cX2_pay 40 = .ok (.bipush 60, 2) := by decide +kernel
theorem dX2_pay_42 : decode cX2_pay 42 = .ok (.if_icmp .ne 11, 3) := by decide +kernel
theorem dX2_pay_45 : decode cX2_pay 45 = .ok (.aload_n 0, 1) := by decide +kernel
theorem dX2_pay_46 : decode cX2_pay 46 = .ok (.iconst 3, 1) := by decide +kernel
theorem dX2_pay_47 : decode cX2_pay 47 = .ok (.invokevirtual 43, 3) := by decide +kernel
theorem dX2_pay_50 : decode cX2_pay 50 = .ok (.goto 10, 3) := by decide +kernel
theorem dX2_pay_53 : decode cX2_pay 53 = .ok (.aload_n 0, 1) := by decide +kernel
theorem dX2_pay_54 : decode cX2_pay 54 = .ok (.iconst 4, 1) := by decide +kernel
theorem dX2_pay_55 : decode cX2_pay 55 = .ok (.iload_n 1, 1) := by decide +kernel
theorem dX2_pay_56 : decode cX2_pay 56 = .ok (.iload_n 2, 1) := by decide +kernel
theorem dX2_pay_57 : decode cX2_pay 57 = .ok (.invokevirtual 47, 3) := by decide +kernel
theorem dX2_pay_60 : decode cX2_pay 60 = .ok (.ireturn, 1) := by decide +kernel
set_option maxRecDepth 20000 in
theorem ggX2_buy_X2_isIn : GoodIn wsX2_buy wsX2_isIn := goodIn_r _ [6] (by decide +kernel) (by decide +kernel)
set_option maxRecDepth 20000 in
theorem gX2_buy_X2_isIn : GoodIn wsX2_buy (va_wsS RX2 39 yX2_isIn wsX2_isIn) := goodIn_app (goodIn_of _ (by decide +kernel)) ggX2_buy_X2_isIn
set_option maxRecDepth 20000 in
theorem ggX2_buy_X2_fail : GoodIn wsX2_buy wsX2_fail := goodIn_r _ [10, 1, 19, 20, 21, 22, 23, 24, 25, 26, 27, 28, 29, 30, 31, 32, 33, 34, 35] (by decide +kernel) (by decide +kernel)
set_option maxRecDepth 20000 in
theorem gX2_buy_X2_fail : GoodIn wsX2_buy (wsV RX2 43 RX2 yX2_fail wsX2_fail) := goodIn_app (goodIn_of _ (by decide +kernel)) ggX2_buy_X2_fail
set_option maxRecDepth 20000 in
theorem ggX2_buy_X2_write : GoodIn wsX2_buy wsX2_write := goodIn_r _ [14, 15, 2, 16, 17, 18, 19, 20, 21, 22, 23, 24, 25, 26, 27, 28, 29, 30, 31, 32, 33, 34, 35] (by decide +kernel) (by decide +kernel)
set_option maxRecDepth 20000 in
theorem gX2_buy_X2_write : GoodIn wsX2_buy (wsV RX2 47 RX2 yX2_write wsX2_write) := goodIn_app (goodIn_of _ (by decide +kernel)) ggX2_buy_X2_write
theorem dX2_buy_0 : decode cX2_buy 0 = .ok (.aload_n 0, 1) := by decide +kernel
theorem dX2_buy_1 : decode cX2_buy 1 = .ok (.iconst 0, 1) := by decide +kernel
theorem dX2_buy_2 : decode cX2_buy 2 = .ok (.putfield 32, 3) := by decide +kernel
theorem dX2_buy_5 : decode cX2_buy 5 = .ok (.iload_n 1, 1) := by decide +kernel
theorem dX2_buy_6 : decode cX2_buy 6 = .ok (.iconst 1, 1) := by decide +kernel
theorem dX2_buy_7 : decode cX2_buy 7 = .ok (.bipush 20, 2) := by decide +kernel
theorem dX2_buy_9 : decode cX2_buy 9 = .ok (.invokestatic 39, 3) := by decide +kernel
theorem dX2_buy_12 : decode cX2_buy 12 = .ok (.ifCond .ne 9, 3) := by decide +kernel
theorem dX2_buy_15 : decode cX2_buy 15 = .ok (.aload_n 0, 1) := by decide +kernel
theorem dX2_buy_16 : decode cX2_buy 16 = .ok (.iconst 1, 1) := by decide +kernel
theorem dX2_buy_17 : decode cX2_buy 17 = .ok (.invokevirtual 43, 3) := by decide +kernel
theorem dX2_buy_20 : decode cX2_buy 20 = .ok (.ireturn, 1) := by decide +kernel
theorem dX2_buy_21 : decode cX2_buy 21 = .ok (.aload_n 0, 1) := by decide +kernel
theorem dX2_buy_22 : decode cX2_buy 22 = .ok (.getfield 36, 3) := by decide +kernel
theorem dX2_buy_25 : decode cX2_buy 25 = .ok (.bipush 60, 2) := by decide +kernel
theorem dX2_buy_27 : decode cX2_buy 27 = .ok (.if_icmp .ne 11, 3) := by decide +kernel
theorem dX2_buy_30 : decode cX2_buy 30 = .ok (.aload_n 0, 1) := by decide +kernel
theorem dX2_buy_31 : decode cX2_buy 31 = .ok (.iconst 2, 1) := by decide +kernel
theorem dX2_buy_32 : decode cX2_buy 32 = .ok (.invokevirtual 43, 3) := by decide +kernel
theorem dX2_buy_35 : decode cX2_buy 35 = .ok (.goto 10, 3) := by decide +kernel
theorem dX2_buy_38 : decode cX2_buy 38 = .ok (.aload_n 0, 1) := by decide +kernel
theorem dX2_buy_39 : decode cX2_buy 39 = .ok (.iconst 5, 1) := by decide +kernel
theorem dX2_buy_40 : decode cX2_buy 40 = .ok (.iload_n 1, 1) := by decide +kernel
theorem dX2_buy_41 : decode cX2_buy 41 = .ok (.iconst 0, 1) := by decide +kernel
theorem dX2_buy_42 : decode cX2_buy 42 = .ok (.invokevirtual 47, 3) := by decide +kernel
theorem dX2_buy_45 : decode cX2_buy 45 = .ok (.ireturn, 1) := by decide +kernel
theorem dX2_more_0 : decode cX2_more 0 = .ok (.aload_n 0, 1) := by decide +kernel
theorem dX2_more_1 : decode cX2_more 1 = .ok (.getfield 29, 3) := by decide +kernel
theorem dX2_more_4 : decode cX2_more 4 = .ok (.iload_n 1, 1) := by decide +kernel
theorem dX2_more_5 : decode cX2_more 5 = .ok (.iconst 0, 1) := by decide +kernel
theorem dX2_more_6 : decode cX2_more 6 = .ok (.bipush 100, 2) := by decide +kernel
theorem dX2_more_8 : decode cX2_more 8 = .ok (.aload_n 0, 1) := by decide +kernel
theorem dX2_more_9 : decode cX2_more 9 = .ok (.getfield 29, 3) := by decide +kernel
theorem dX2_more_12 : decode cX2_more 12 = .ok (.iload_n 1, 1) := by decide +kernel
theorem dX2_more_13 : decode cX2_more 13 = .ok (.iaload, 1) := by decide +kernel
theorem dX2_more_14 : decode cX2_more 14 = .ok (.iload_n 2, 1) := by decide +kernel
theorem dX2_more_15 : decode cX2_more 15 = .ok (.iadd, 1) := by decide +kernel
theorem dX2_more_16 : decode cX2_more 16 = .ok (.invokestatic 51, 3) := by decide +kernel
theorem dX2_more_19 : decode cX2_more 19 = .ok (.invokestatic 57, 3) := by decide +kernel
theorem dX2_more_22 : decode cX2_more 22 = .ok (.iastore, 1) := by decide +kernel
theorem dX2_more_23 : decode cX2_more 23 = .ok (.return_, 1) := by decide +kernel
theorem dX2_canToss_0 : decode cX2_canToss 0 = .ok (.iload_n 1, 1) := by decide +kernel
theorem dX2_canToss_1 : decode cX2_canToss 1 = .ok (.aload_n 0, 1) := by decide +kernel
theorem dX2_canToss_2 : decode cX2_canToss 2 = .ok (.getfield 60, 3) := by decide +kernel
theorem dX2_canToss_5 : decode cX2_canToss 5 = .ok (.if_icmp .ge 28, 3) := by decide +kernel
theorem dX2_canToss_8 : decode cX2_canToss 8 = .ok (.aload_n 0, 1) := by decide +kernel
theorem dX2_canToss_9 : decode cX2_canToss 9 = .ok (.getfield 29, 3) := by decide +kernel
theorem dX2_canToss_12 : decode cX2_canToss 12 = .ok (.iload_n 1, 1) := by decide +kernel
theorem dX2_canToss_13 : decode cX2_canToss 13 = .ok (.iaload, 1) := by decide +kernel
theorem dX2_canToss_14 : decode cX2_canToss 14 = .ok (.bipush 20, 2) := by decide +kernel
theorem dX2_canToss_16 : decode cX2_canToss 16 = .ok (.aload_n 0, 1) := by decide +kernel
theorem dX2_canToss_17 : decode cX2_canToss 17 = .ok (.getfield 13, 3) := by decide +kernel
theorem dX2_canToss_20 : decode cX2_canToss 20 = .ok (.aload_n 0, 1) := by decide +kernel
theorem dX2_canToss_21 : decode cX2_canToss 21 = .ok (.getfield 63, 3) := by decide +kernel
theorem dX2_canToss_24 : decode cX2_canToss 24 = .ok (.iaload, 1) := by decide +kernel
theorem dX2_canToss_25 : decode cX2_canToss 25 = .ok (.iadd, 1) := by decide +kernel
theorem dX2_canToss_26 : decode cX2_canToss 26 = .ok (.if_icmp .lt 7, 3) := by decide +kernel
theorem dX2_canToss_29 : decode cX2_canToss 29 = .ok (.iconst 1, 1) := by decide +kernel
theorem dX2_canToss_30 : decode cX2_canToss 30 = .ok (.goto 4, 3) := by decide +kernel
theorem dX2_canToss_33 : decode cX2_canToss 33 = .ok (.iconst 0, 1) := by decide +kernel
theorem dX2_canToss_34 : decode cX2_canToss 34 = .ok (.ireturn, 1) := by decide +kernel
theorem dX2_brings_0 : decode cX2_brings 0 = .ok (.iload_n 1, 1) := by decide +kernel
theorem dX2_brings_1 : decode cX2_brings 1 = .ok (.ifCond .ne 7, 3) := by decide +kernel
theorem dX2_brings_4 : decode cX2_brings 4 = .ok (.iconst 0, 1) := by decide +kernel
theorem dX2_brings_5 : decode cX2_brings 5 = .ok (.goto 46, 3) := by decide +kernel
theorem dX2_brings_8 : decode cX2_brings 8 = .ok (.iload_n 1, 1) := by decide +kernel
theorem dX2_brings_9 : decode cX2_brings 9 = .ok (.iconst 4, 1) := by decide +kernel
theorem dX2_brings_10 : decode cX2_brings 10 = .ok (.if_icmp .ge 18, 3) := by decide +kernel
theorem dX2_brings_13 : decode cX2_brings 13 = .ok (.bipush 12, 2) := by decide +kernel
theorem dX2_brings_15 : decode cX2_brings 15 = .ok (.aload_n 0, 1) := by decide +kernel
theorem dX2_brings_16 : decode cX2_brings 16 = .ok (.getfield 9, 3) := by decide +kernel
theorem dX2_brings_19 : decode cX2_brings 19 = .ok (.aload_n 0, 1) := by decide +kernel
theorem dX2_brings_20 : decode cX2_brings 20 = .ok (.getfield 63, 3) := by decide +kernel
theorem dX2_brings_23 : decode cX2_brings 23 = .ok (.iaload, 1) := by decide +kernel
theorem dX2_brings_24 : decode cX2_brings 24 = .ok (.iadd, 1) := by decide +kernel
theorem dX2_brings_25 : decode cX2_brings 25 = .ok (.goto 26, 3) := by decide +kernel
theorem dX2_brings_28 : decode cX2_brings 28 = .ok (.iload_n 1, 1) := by decide +kernel
theorem dX2_brings_29 : decode cX2_brings 29 = .ok (.bipush 10, 2) := by decide +kernel
theorem dX2_brings_31 : decode cX2_brings 31 = .ok (.if_icmp .ge 19, 3) := by decide +kernel
theorem dX2_brings_34 : decode cX2_brings 34 = .ok (.iconst 5, 1) := by decide +kernel
theorem dX2_brings_35 : decode cX2_brings 35 = .ok (.aload_n 0, 1) := by decide +kernel
theorem dX2_brings_36 : decode cX2_brings 36 = .ok (.getfield 9, 3) := by decide +kernel
theorem dX2_brings_39 : decode cX2_brings 39 = .ok (.aload_n 0, 1) := by decide +kernel
theorem dX2_brings_40 : decode cX2_brings 40 = .ok (.getfield 63, 3) := by decide +kernel
theorem dX2_brings_43 : decode cX2_brings 43 = .ok (.iaload, 1) := by decide +kernel
theorem dX2_brings_44 : decode cX2_brings 44 = .ok (.iconst 2, 1) := by decide +kernel
theorem dX2_brings_45 : decode cX2_brings 45 = .ok (.idiv, 1) := by decide +kernel
theorem dX2_brings_46 : decode cX2_brings 46 = .ok (.iadd, 1) := by decide +kernel
theorem dX2_brings_47 : decode cX2_brings 47 = .ok (.goto 4, 3) := by decide +kernel
theorem dX2_brings_50 : decode cX2_brings 50 = .ok (.iconst 1, 1) := by decide +kernel
theorem dX2_brings_51 : decode cX2_brings 51 = .ok (.ireturn, 1) := by decide +kernel
set_option maxRecDepth 20000 in
theorem ggX2_holds_X2_canToss : GoodIn wsX2_holds wsX2_canToss := goodIn_r _ [10, 3, 11, 12, 13, 14, 15, 16, 17, 18, 19, 20, 21, 22, 23, 24, 25, 26, 27, 28, 29, 30] (by decide +kernel) (by decide +kernel)
set_option maxRecDepth 20000 in
theorem gX2_holds_X2_canToss : GoodIn wsX2_holds (wsV RX2 66 RX2 yX2_canToss wsX2_canToss) := goodIn_app (goodIn_of _ (by decide +kernel)) ggX2_holds_X2_canToss
theorem dX2_holds_0 : decode cX2_holds 0 = .ok (.aload_n 0, 1) := by decide +kernel
theorem dX2_holds_1 : decode cX2_holds 1 = .ok (.getfield 19, 3) := by decide +kernel
theorem dX2_holds_4 : decode cX2_holds 4 = .ok (.iload_n 1, 1) := by decide +kernel
theorem dX2_holds_5 : decode cX2_holds 5 = .ok (.iaload, 1) := by decide +kernel
theorem dX2_holds_6 : decode cX2_holds 6 = .ok (.istore_n 2, 1) := by decide +kernel
theorem dX2_holds_7 : decode cX2_holds 7 = .ok (.aload_n 0, 1) := by decide +kernel
theorem dX2_holds_8 : decode cX2_holds 8 = .ok (.getfield 16, 3) := by decide +kernel
theorem dX2_holds_11 : decode cX2_holds 11 = .ok (.iload_n 1, 1) := by decide +kernel
theorem dX2_holds_12 : decode cX2_holds 12 = .ok (.iaload, 1) := by decide +kernel
theorem dX2_holds_13 : decode cX2_holds 13 = .ok (.tableswitch 99 0 4 #[35, 50, 56, 70, 72], 35) := by decide +kernel
theorem dX2_holds_48 : decode cX2_holds 48 = .ok (.aload_n 0, 1) := by decide +kernel
theorem dX2_holds_49 : decode cX2_holds 49 = .ok (.getfield 60, 3) := by decide +kernel
theorem dX2_holds_52 : decode cX2_holds 52 = .ok (.bipush 6, 2) := by decide +kernel
theorem dX2_holds_54 : decode cX2_holds 54 = .ok (.if_icmp .ge 7, 3) := by decide +kernel
theorem dX2_holds_57 : decode cX2_holds 57 = .ok (.iconst 1, 1) := by decide +kernel
theorem dX2_holds_58 : decode cX2_holds 58 = .ok (.goto 4, 3) := by decide +kernel
theorem dX2_holds_61 : decode cX2_holds 61 = .ok (.iconst 0, 1) := by decide +kernel
theorem dX2_holds_62 : decode cX2_holds 62 = .ok (.ireturn, 1) := by decide +kernel
theorem dX2_holds_63 : decode cX2_holds 63 = .ok (.aload_n 0, 1) := by decide +kernel
theorem dX2_holds_64 : decode cX2_holds 64 = .ok (.iload_n 2, 1) := by decide +kernel
theorem dX2_holds_65 : decode cX2_holds 65 = .ok (.invokevirtual 66, 3) := by decide +kernel
theorem dX2_holds_68 : decode cX2_holds 68 = .ok (.ireturn, 1) := by decide +kernel
theorem dX2_holds_69 : decode cX2_holds 69 = .ok (.iload_n 2, 1) := by decide +kernel
theorem dX2_holds_70 : decode cX2_holds 70 = .ok (.aload_n 0, 1) := by decide +kernel
theorem dX2_holds_71 : decode cX2_holds 71 = .ok (.getfield 60, 3) := by decide +kernel
theorem dX2_holds_74 : decode cX2_holds 74 = .ok (.if_icmp .ge 7, 3) := by decide +kernel
theorem dX2_holds_77 : decode cX2_holds 77 = .ok (.iconst 1, 1) := by decide +kernel
theorem dX2_holds_78 : decode cX2_holds 78 = .ok (.goto 4, 3) := by decide +kernel
theorem dX2_holds_81 : decode cX2_holds 81 = .ok (.iconst 0, 1) := by decide +kernel
theorem dX2_holds_82 : decode cX2_holds 82 = .ok (.ireturn, 1) := by decide +kernel
theorem dX2_holds_83 : decode cX2_holds 83 = .ok (.iconst 1, 1) := by decide +kernel
theorem dX2_holds_84 : decode cX2_holds 84 = .ok (.ireturn, 1) := by decide +kernel
theorem dX2_holds_85 : decode cX2_holds 85 = .ok (.iload_n 2, 1) := by decide +kernel
theorem dX2_holds_86 : decode cX2_holds 86 = .ok (.aload_n 0, 1) := by decide +kernel
theorem dX2_holds_87 : decode cX2_holds 87 = .ok (.getfield 60, 3) := by decide +kernel
theorem dX2_holds_90 : decode cX2_holds 90 = .ok (.if_icmp .ge 20, 3) := by decide +kernel
theorem dX2_holds_93 : decode cX2_holds 93 = .ok (.aload_n 0, 1) := by decide +kernel
theorem dX2_holds_94 : decode cX2_holds 94 = .ok (.getfield 70, 3) := by decide +kernel
theorem dX2_holds_97 : decode cX2_holds 97 = .ok (.aload_n 0, 1) := by decide +kernel
theorem dX2_holds_98 : decode cX2_holds 98 = .ok (.getfield 22, 3) := by decide +kernel
theorem dX2_holds_101 : decode cX2_holds 101 = .ok (.iload_n 1, 1) := by decide +kernel
theorem dX2_holds_102 : decode cX2_holds 102 = .ok (.iaload, 1) := by decide +kernel
theorem dX2_holds_103 : decode cX2_holds 103 = .ok (.if_icmp .lt 7, 3) := by decide +kernel
theorem dX2_holds_106 : decode cX2_holds 106 = .ok (.iconst 1, 1) := by decide +kernel
theorem dX2_holds_107 : decode cX2_holds 107 = .ok (.goto 4, 3) := by decide +kernel
theorem dX2_holds_110 : decode cX2_holds 110 = .ok (.iconst 0, 1) := by decide +kernel
theorem dX2_holds_111 : decode cX2_holds 111 = .ok (.ireturn, 1) := by decide +kernel
theorem dX2_holds_112 : decode cX2_holds 112 = .ok (.aload_n 0, 1) := by decide +kernel
theorem dX2_holds_113 : decode cX2_holds 113 = .ok (.getfield 70, 3) := by decide +kernel
theorem dX2_holds_116 : decode cX2_holds 116 = .ok (.iconst 2, 1) := by decide +kernel
theorem dX2_holds_117 : decode cX2_holds 117 = .ok (.iload_n 2, 1) := by decide +kernel
theorem dX2_holds_118 : decode cX2_holds 118 = .ok (.imul, 1) := by decide +kernel
theorem dX2_holds_119 : decode cX2_holds 119 = .ok (.if_icmp .lt 7, 3) := by decide +kernel
theorem dX2_holds_122 : decode cX2_holds 122 = .ok (.iconst 1, 1) := by decide +kernel
theorem dX2_holds_123 : decode cX2_holds 123 = .ok (.goto 4, 3) := by decide +kernel
theorem dX2_holds_126 : decode cX2_holds 126 = .ok (.iconst 0, 1) := by decide +kernel
theorem dX2_holds_127 : decode cX2_holds 127 = .ok (.ireturn, 1) := by decide +kernel
set_option maxRecDepth 20000 in
theorem ggX2_stick_X2_brings : GoodIn wsX2_stick wsX2_brings := goodIn_r _ [11, 12, 13, 22, 23, 24, 25, 26, 27, 28, 29, 30, 31, 32, 33, 34, 35, 36, 37, 38] (by decide +kernel) (by decide +kernel)
set_option maxRecDepth 20000 in
theorem gX2_stick_X2_brings : GoodIn wsX2_stick (wsV RX2 73 RX2 yX2_brings wsX2_brings) := goodIn_app (goodIn_of _ (by decide +kernel)) ggX2_stick_X2_brings
set_option maxRecDepth 20000 in
theorem ggX2_stick_X2_more : GoodIn wsX2_stick wsX2_more := goodIn_r _ [17, 18, 19, 20, 5, 21, 3, 4, 6, 22, 23, 24, 25, 26, 27, 28, 29, 30, 31, 32, 33, 34, 35, 36, 37, 38] (by decide +kernel) (by decide +kernel)
set_option maxRecDepth 20000 in
theorem gX2_stick_X2_more : GoodIn wsX2_stick (wsV RX2 76 RX2 yX2_more wsX2_more) := goodIn_app (goodIn_of _ (by decide +kernel)) ggX2_stick_X2_more
theorem dX2_stick_0 : decode cX2_stick 0 = .ok (.aload_n 0, 1) := by decide +kernel
theorem dX2_stick_1 : decode cX2_stick 1 = .ok (.dup, 1) := by decide +kernel
theorem dX2_stick_2 : decode cX2_stick 2 = .ok (.getfield 70, 3) := by decide +kernel
theorem dX2_stick_5 : decode cX2_stick 5 = .ok (.aload_n 0, 1) := by decide +kernel
theorem dX2_stick_6 : decode cX2_stick 6 = .ok (.iload_n 2, 1) := by decide +kernel
theorem dX2_stick_7 : decode cX2_stick 7 = .ok (.invokevirtual 73, 3) := by decide +kernel
theorem dX2_stick_10 : decode cX2_stick 10 = .ok (.iadd, 1) := by decide +kernel
theorem dX2_stick_11 : decode cX2_stick 11 = .ok (.putfield 70, 3) := by decide +kernel
theorem dX2_stick_14 : decode cX2_stick 14 = .ok (.iload_n 2, 1) := by decide +kernel
theorem dX2_stick_15 : decode cX2_stick 15 = .ok (.ifCond .le 32, 3) := by decide +kernel
theorem dX2_stick_18 : decode cX2_stick 18 = .ok (.aload_n 0, 1) := by decide +kernel
theorem dX2_stick_19 : decode cX2_stick 19 = .ok (.iload_n 1, 1) := by decide +kernel
theorem dX2_stick_20 : decode cX2_stick 20 = .ok (.iload_n 2, 1) := by decide +kernel
theorem dX2_stick_21 : decode cX2_stick 21 = .ok (.iconst 4, 1) := by decide +kernel
theorem dX2_stick_22 : decode cX2_stick 22 = .ok (.if_icmp .ge 8, 3) := by decide +kernel
theorem dX2_stick_25 : decode cX2_stick 25 = .ok (.bipush (-4), 2) := by decide +kernel
theorem dX2_stick_27 : decode cX2_stick 27 = .ok (.goto 14, 3) := by decide +kernel
theorem dX2_stick_30 : decode cX2_stick 30 = .ok (.iload_n 2, 1) := by decide +kernel
theorem dX2_stick_31 : decode cX2_stick 31 = .ok (.bipush 10, 2) := by decide +kernel
theorem dX2_stick_33 : decode cX2_stick 33 = .ok (.if_icmp .ge 7, 3) := by decide +kernel
theorem dX2_stick_36 : decode cX2_stick 36 = .ok (.iconst 1, 1) := by decide +kernel
theorem dX2_stick_37 : decode cX2_stick 37 = .ok (.goto 4, 3) := by decide +kernel
theorem dX2_stick_40 : decode cX2_stick 40 = .ok (.iconst 3, 1) := by decide +kernel
theorem dX2_stick_41 : decode cX2_stick 41 = .ok (.invokevirtual 76, 3) := by decide +kernel
theorem dX2_stick_44 : decode cX2_stick 44 = .ok (.goto 36, 3) := by decide +kernel
theorem dX2_stick_47 : decode cX2_stick 47 = .ok (.aload_n 0, 1) := by decide +kernel
theorem dX2_stick_48 : decode cX2_stick 48 = .ok (.iload_n 1, 1) := by decide +kernel
theorem dX2_stick_49 : decode cX2_stick 49 = .ok (.aload_n 0, 1) := by decide +kernel
theorem dX2_stick_50 : decode cX2_stick 50 = .ok (.getfield 80, 3) := by decide +kernel
theorem dX2_stick_53 : decode cX2_stick 53 = .ok (.ifCond .le 8, 3) := by decide +kernel
theorem dX2_stick_56 : decode cX2_stick 56 = .ok (.bipush (-30), 2) := by decide +kernel
theorem dX2_stick_58 : decode cX2_stick 58 = .ok (.goto 5, 3) := by decide +kernel
theorem dX2_stick_61 : decode cX2_stick 61 = .ok (.bipush (-60), 2) := by decide +kernel
theorem dX2_stick_63 : decode cX2_stick 63 = .ok (.invokevirtual 76, 3) := by decide +kernel
theorem dX2_stick_66 : decode cX2_stick 66 = .ok (.aload_n 0, 1) := by decide +kernel
theorem dX2_stick_67 : decode cX2_stick 67 = .ok (.iconst 0, 1) := by decide +kernel
theorem dX2_stick_68 : decode cX2_stick 68 = .ok (.aload_n 0, 1) := by decide +kernel
theorem dX2_stick_69 : decode cX2_stick 69 = .ok (.getfield 80, 3) := by decide +kernel
theorem dX2_stick_72 : decode cX2_stick 72 = .ok (.iconst 1, 1) := by decide +kernel
theorem dX2_stick_73 : decode cX2_stick 73 = .ok (.isub, 1) := by decide +kernel
theorem dX2_stick_74 : decode cX2_stick 74 = .ok (.invokestatic 57, 3) := by decide +kernel
theorem dX2_stick_77 : decode cX2_stick 77 = .ok (.putfield 80, 3) := by decide +kernel
theorem dX2_stick_80 : decode cX2_stick 80 = .ok (.return_, 1) := by decide +kernel
set_option maxRecDepth 20000 in
theorem ggX2_carryOut_X2_stick : GoodIn wsX2_carryOut wsX2_stick := goodIn_r _ [13, 7, 8, 14, 15, 16, 17, 18, 19, 20, 12, 21, 22, 6, 23, 24, 25, 26, 4, 27, 28, 29, 30, 31, 32, 33, 34, 35, 36, 37, 38, 39, 40, 41, 42, 43, 44, 45, 46] (by decide +kernel) (by decide +kernel)
set_option maxRecDepth 20000 in
theorem gX2_carryOut_X2_stick : GoodIn wsX2_carryOut (wsV RX2 83 RX2 yX2_stick wsX2_stick) := goodIn_app (goodIn_of _ (by decide +kernel)) ggX2_carryOut_X2_stick
set_option maxRecDepth 20000 in
theorem ggX2_carryOut_X2_more : GoodIn wsX2_carryOut wsX2_more := goodIn_r _ [26, 4, 27, 28, 16, 29, 14, 15, 17, 30, 31, 32, 33, 34, 35, 36, 37, 38, 39, 40, 41, 42, 43, 44, 45, 46] (by decide +kernel) (by decide +kernel)
set_option maxRecDepth 20000 in
theorem gX2_carryOut_X2_more : GoodIn wsX2_carryOut (wsV RX2 76 RX2 yX2_more wsX2_more) := goodIn_app (goodIn_of _ (by decide +kernel)) ggX2_carryOut_X2_more
theorem dX2_carryOut_0 : decode cX2_carryOut 0 = .ok (.aload_n 0, 1) := by decide +kernel
theorem dX2_carryOut_1 : decode cX2_carryOut 1 = .ok (.getfield 19, 3) := by decide +kernel
theorem dX2_carryOut_4 : decode cX2_carryOut 4 = .ok (.iload_n 1, 1) := by decide +kernel
theorem dX2_carryOut_5 : decode cX2_carryOut 5 = .ok (.iaload, 1) := by decide +kernel
theorem dX2_carryOut_6 : decode cX2_carryOut 6 = .ok (.istore_n 2, 1) := by decide +kernel
theorem dX2_carryOut_7 : decode cX2_carryOut 7 = .ok (.aload_n 0, 1) := by decide +kernel
theorem dX2_carryOut_8 : decode cX2_carryOut 8 = .ok (.getfield 22, 3) := by decide +kernel
theorem dX2_carryOut_11 : decode cX2_carryOut 11 = .ok (.iload_n 1, 1) := by decide +kernel
theorem dX2_carryOut_12 : decode cX2_carryOut 12 = .ok (.iaload, 1) := by decide +kernel
theorem dX2_carryOut_13 : decode cX2_carryOut 13 = .ok (.istore_n 3, 1) := by decide +kernel
theorem dX2_carryOut_14 : decode cX2_carryOut 14 = .ok (.aload_n 0, 1) := by decide +kernel
theorem dX2_carryOut_15 : decode cX2_carryOut 15 = .ok (.getfield 16, 3) := by decide +kernel
theorem dX2_carryOut_18 : decode cX2_carryOut 18 = .ok (.iload_n 1, 1) := by decide +kernel
theorem dX2_carryOut_19 : decode cX2_carryOut 19 = .ok (.iaload, 1) := by decide +kernel
theorem dX2_carryOut_20 : decode cX2_carryOut 20 = .ok (.tableswitch 97 0 4 #[36, 57, 64, 72, 78], 36) := by decide +kernel
theorem dX2_carryOut_56 : decode cX2_carryOut 56 = .ok (.aload_n 0, 1) := by decide +kernel
theorem dX2_carryOut_57 : decode cX2_carryOut 57 = .ok (.getfield 29, 3) := by decide +kernel
theorem dX2_carryOut_60 : decode cX2_carryOut 60 = .ok (.aload_n 0, 1) := by decide +kernel
theorem dX2_carryOut_61 : decode cX2_carryOut 61 = .ok (.getfield 60, 3) := by decide +kernel
theorem dX2_carryOut_64 : decode cX2_carryOut 64 = .ok (.iload_n 2, 1) := by decide +kernel
theorem dX2_carryOut_65 : decode cX2_carryOut 65 = .ok (.iastore, 1) := by decide +kernel
theorem dX2_carryOut_66 : decode cX2_carryOut 66 = .ok (.aload_n 0, 1) := by decide +kernel
theorem dX2_carryOut_67 : decode cX2_carryOut 67 = .ok (.dup, 1) := by decide +kernel
theorem dX2_carryOut_68 : decode cX2_carryOut 68 = .ok (.getfield 60, 3) := by decide +kernel
theorem dX2_carryOut_71 : decode cX2_carryOut 71 = .ok (.iconst 1, 1) := by decide +kernel
theorem dX2_carryOut_72 : decode cX2_carryOut 72 = .ok (.iadd, 1) := by decide +kernel
theorem dX2_carryOut_73 : decode cX2_carryOut 73 = .ok (.putfield 60, 3) := by decide +kernel
theorem dX2_carryOut_76 : decode cX2_carryOut 76 = .ok (.return_, 1) := by decide +kernel
theorem dX2_carryOut_77 : decode cX2_carryOut 77 = .ok (.aload_n 0, 1) := by decide +kernel
theorem dX2_carryOut_78 : decode cX2_carryOut 78 = .ok (.iload_n 2, 1) := by decide +kernel
theorem dX2_carryOut_79 : decode cX2_carryOut 79 = .ok (.iload_n 3, 1) := by decide +kernel
theorem dX2_carryOut_80 : decode cX2_carryOut 80 = .ok (.invokevirtual 83, 3) := by decide +kernel
theorem dX2_carryOut_83 : decode cX2_carryOut 83 = .ok (.return_, 1) := by decide +kernel
theorem dX2_carryOut_84 : decode cX2_carryOut 84 = .ok (.aload_n 0, 1) := by decide +kernel
theorem dX2_carryOut_85 : decode cX2_carryOut 85 = .ok (.iload_n 2, 1) := by decide +kernel
theorem dX2_carryOut_86 : decode cX2_carryOut 86 = .ok (.bipush 6, 2) := by decide +kernel
theorem dX2_carryOut_88 : decode cX2_carryOut 88 = .ok (.invokevirtual 76, 3) := by decide +kernel
theorem dX2_carryOut_91 : decode cX2_carryOut 91 = .ok (.return_, 1) := by decide +kernel
theorem dX2_carryOut_92 : decode cX2_carryOut 92 = .ok (.aload_n 0, 1) := by decide +kernel
theorem dX2_carryOut_93 : decode cX2_carryOut 93 = .ok (.iload_n 2, 1) := by decide +kernel
theorem dX2_carryOut_94 : decode cX2_carryOut 94 = .ok (.putfield 63, 3) := by decide +kernel
theorem dX2_carryOut_97 : decode cX2_carryOut 97 = .ok (.return_, 1) := by decide +kernel
theorem dX2_carryOut_98 : decode cX2_carryOut 98 = .ok (.aload_n 0, 1) := by decide +kernel
theorem dX2_carryOut_99 : decode cX2_carryOut 99 = .ok (.dup, 1) := by decide +kernel
theorem dX2_carryOut_100 : decode cX2_carryOut 100 = .ok (.getfield 70, 3) := by decide +kernel
theorem dX2_carryOut_103 : decode cX2_carryOut 103 = .ok (.iload_n 3, 1) := by decide +kernel
theorem dX2_carryOut_104 : decode cX2_carryOut 104 = .ok (.isub, 1) := by decide +kernel
theorem dX2_carryOut_105 : decode cX2_carryOut 105 = .ok (.putfield 70, 3) := by decide +kernel
theorem dX2_carryOut_108 : decode cX2_carryOut 108 = .ok (.aload_n 0, 1) := by decide +kernel
theorem dX2_carryOut_109 : decode cX2_carryOut 109 = .ok (.iload_n 2, 1) := by decide +kernel
theorem dX2_carryOut_110 : decode cX2_carryOut 110 = .ok (.iload_n 3, 1) := by decide +kernel
theorem dX2_carryOut_111 : decode cX2_carryOut 111 = .ok (.iconst 3, 1) := by decide +kernel
theorem dX2_carryOut_112 : decode cX2_carryOut 112 = .ok (.idiv, 1) := by decide +kernel
theorem dX2_carryOut_113 : decode cX2_carryOut 113 = .ok (.invokevirtual 76, 3) := by decide +kernel
theorem dX2_carryOut_116 : decode cX2_carryOut 116 = .ok (.return_, 1) := by decide +kernel
theorem dX2_carryOut_117 : decode cX2_carryOut 117 = .ok (.aload_n 0, 1) := by decide +kernel
theorem dX2_carryOut_118 : decode cX2_carryOut 118 = .ok (.dup, 1) := by decide +kernel
theorem dX2_carryOut_119 : decode cX2_carryOut 119 = .ok (.getfield 70, 3) := by decide +kernel
theorem dX2_carryOut_122 : decode cX2_carryOut 122 = .ok (.iconst 2, 1) := by decide +kernel
theorem dX2_carryOut_123 : decode cX2_carryOut 123 = .ok (.iload_n 2, 1) := by decide +kernel
theorem dX2_carryOut_124 : decode cX2_carryOut 124 = .ok (.imul, 1) := by decide +kernel
theorem dX2_carryOut_125 : decode cX2_carryOut 125 = .ok (.isub, 1) := by decide +kernel
theorem dX2_carryOut_126 : decode cX2_carryOut 126 = .ok (.putfield 70, 3) := by decide +kernel
theorem dX2_carryOut_129 : decode cX2_carryOut 129 = .ok (.aload_n 0, 1) := by decide +kernel
theorem dX2_carryOut_130 : decode cX2_carryOut 130 = .ok (.dup, 1) := by decide +kernel
theorem dX2_carryOut_131 : decode cX2_carryOut 131 = .ok (.getfield 80, 3) := by decide +kernel
theorem dX2_carryOut_134 : decode cX2_carryOut 134 = .ok (.iload_n 2, 1) := by decide +kernel
theorem dX2_carryOut_135 : decode cX2_carryOut 135 = .ok (.iadd, 1) := by decide +kernel
theorem dX2_carryOut_136 : decode cX2_carryOut 136 = .ok (.putfield 80, 3) := by decide +kernel
theorem dX2_carryOut_139 : decode cX2_carryOut 139 = .ok (.return_, 1) := by decide +kernel
set_option maxRecDepth 20000 in
theorem ggX2_reckon_X2_holds : GoodIn wsX2_reckon wsX2_holds := goodIn_r _ [18, 19, 20, 4, 1, 21, 22, 23, 24, 17, 25, 26, 27, 3, 48, 49, 50, 51, 52, 53, 54, 55, 56, 57, 58, 59, 60, 61, 62, 63, 64] (by decide +kernel) (by decide +kernel)
set_option maxRecDepth 20000 in
theorem gX2_reckon_X2_holds : GoodIn wsX2_reckon (wsV RX2 98 RX2 yX2_holds wsX2_holds) := goodIn_app (goodIn_of _ (by decide +kernel)) ggX2_reckon_X2_holds
set_option maxRecDepth 20000 in
theorem ggX2_reckon_X2_carryOut : GoodIn wsX2_reckon wsX2_carryOut := goodIn_r _ [31, 19, 21, 20, 26, 4, 3, 1, 2, 32, 33, 34, 17, 35, 36, 37, 12, 38, 39, 40, 41, 42, 43, 44, 45, 46, 47, 10, 11, 13, 48, 49, 50, 51, 52, 53, 54, 55, 56, 57, 58, 59, 60, 61, 62, 63, 64] (by decide +kernel) (by decide +kernel)
set_option maxRecDepth 20000 in
theorem gX2_reckon_X2_carryOut : GoodIn wsX2_reckon (wsV RX2 101 RX2 yX2_carryOut wsX2_carryOut) := goodIn_app (goodIn_of _ (by decide +kernel)) ggX2_reckon_X2_carryOut
theorem dX2_reckon_0 : decode cX2_reckon 0 = .ok (.aload_n 0, 1) := by decide +kernel
theorem dX2_reckon_1 : decode cX2_reckon 1 = .ok (.bipush 10, 2) := by decide +kernel
theorem dX2_reckon_3 : decode cX2_reckon 3 = .ok (.putfield 70, 3) := by decide +kernel
theorem dX2_reckon_6 : decode cX2_reckon 6 = .ok (.aload_n 0, 1) := by decide +kernel
theorem dX2_reckon_7 : decode cX2_reckon 7 = .ok (.iconst 0, 1) := by decide +kernel
theorem dX2_reckon_8 : decode cX2_reckon 8 = .ok (.putfield 80, 3) := by decide +kernel
theorem dX2_reckon_11 : decode cX2_reckon 11 = .ok (.aload_n 0, 1) := by decide +kernel
theorem dX2_reckon_12 : decode cX2_reckon 12 = .ok (.iconst 0, 1) := by decide +kernel
theorem dX2_reckon_13 : decode cX2_reckon 13 = .ok (.putfield 63, 3) := by decide +kernel
theorem dX2_reckon_16 : decode cX2_reckon 16 = .ok (.aload_n 0, 1) := by decide +kernel
theorem dX2_reckon_17 : decode cX2_reckon 17 = .ok (.iconst 0, 1) := by decide +kernel
theorem dX2_reckon_18 : decode cX2_reckon 18 = .ok (.putfield 60, 3) := by decide +kernel
theorem dX2_reckon_21 : decode cX2_reckon 21 = .ok (.aload_n 0, 1) := by decide +kernel
theorem dX2_reckon_22 : decode cX2_reckon 22 = .ok (.iconst 0, 1) := by decide +kernel
theorem dX2_reckon_23 : decode cX2_reckon 23 = .ok (.putfield 86, 3) := by decide +kernel
theorem dX2_reckon_26 : decode cX2_reckon 26 = .ok (.aload_n 0, 1) := by decide +kernel
theorem dX2_reckon_27 : decode cX2_reckon 27 = .ok (.iconst 0, 1) := by decide +kernel
theorem dX2_reckon_28 : decode cX2_reckon 28 = .ok (.putfield 89, 3) := by decide +kernel
theorem dX2_reckon_31 : decode cX2_reckon 31 = .ok (.aload_n 0, 1) := by decide +kernel
theorem dX2_reckon_32 : decode cX2_reckon 32 = .ok (.iconst (-1), 1) := by decide +kernel
theorem dX2_reckon_33 : decode cX2_reckon 33 = .ok (.putfield 92, 3) := by decide +kernel
theorem dX2_reckon_36 : decode cX2_reckon 36 = .ok (.aload_n 0, 1) := by decide +kernel
theorem dX2_reckon_37 : decode cX2_reckon 37 = .ok (.aload_n 0, 1) := by decide +kernel
theorem dX2_reckon_38 : decode cX2_reckon 38 = .ok (.getfield 70, 3) := by decide +kernel
theorem dX2_reckon_41 : decode cX2_reckon 41 = .ok (.putfield 95, 3) := by decide +kernel
theorem dX2_reckon_44 : decode cX2_reckon 44 = .ok (.iconst 0, 1) := by decide +kernel
theorem dX2_reckon_45 : decode cX2_reckon 45 = .ok (.istore_n 2, 1) := by decide +kernel
theorem dX2_reckon_46 : decode cX2_reckon 46 = .ok (.iconst 0, 1) := by decide +kernel
theorem dX2_reckon_47 : decode cX2_reckon 47 = .ok (.istore_n 3, 1) := by decide +kernel
theorem dX2_reckon_48 : decode cX2_reckon 48 = .ok (.iload_n 3, 1) := by decide +kernel
theorem dX2_reckon_49 : decode cX2_reckon 49 = .ok (.iload_n 1, 1) := by decide +kernel
theorem dX2_reckon_50 : decode cX2_reckon 50 = .ok (.if_icmp .ge 101, 3) := by decide +kernel
theorem dX2_reckon_53 : decode cX2_reckon 53 = .ok (.aload_n 0, 1) := by decide +kernel
theorem dX2_reckon_54 : decode cX2_reckon 54 = .ok (.getfield 25, 3) := by decide +kernel
theorem dX2_reckon_57 : decode cX2_reckon 57 = .ok (.iload_n 3, 1) := by decide +kernel
theorem dX2_reckon_58 : decode cX2_reckon 58 = .ok (.baload, 1) := by decide +kernel
theorem dX2_reckon_59 : decode cX2_reckon 59 = .ok (.ifCond .ne 15, 3) := by decide +kernel
theorem dX2_reckon_62 : decode cX2_reckon 62 = .ok (.aload_n 0, 1) := by decide +kernel
theorem dX2_reckon_63 : decode cX2_reckon 63 = .ok (.iload_n 3, 1) := by decide +kernel
theorem dX2_reckon_64 : decode cX2_reckon 64 = .ok (.invokevirtual 98, 3) := by decide +kernel
theorem dX2_reckon_67 : decode cX2_reckon 67 = .ok (.ifCond .eq 7, 3) := by decide +kernel
theorem dX2_reckon_70 : decode cX2_reckon 70 = .ok (.iconst 1, 1) := by decide +kernel
theorem dX2_reckon_71 : decode cX2_reckon 71 = .ok (.goto 4, 3) := by decide +kernel
theorem dX2_reckon_74 : decode cX2_reckon 74 = .ok (.iconst 0, 1) := by decide +kernel
theorem dX2_reckon_75 : decode cX2_reckon 75 = .ok (.istore_n 2, 1) := by decide +kernel
theorem dX2_reckon_76 : decode cX2_reckon 76 = .ok (.iload_n 2, 1) := by decide +kernel
theorem dX2_reckon_77 : decode cX2_reckon 77 = .ok (.ifCond .eq 36, 3) := by decide +kernel
theorem dX2_reckon_80 : decode cX2_reckon 80 = .ok (.aload_n 0, 1) := by decide +kernel
theorem dX2_reckon_81 : decode cX2_reckon 81 = .ok (.iload_n 3, 1) := by decide +kernel
theorem dX2_reckon_82 : decode cX2_reckon 82 = .ok (.invokevirtual 101, 3) := by decide +kernel
theorem dX2_reckon_85 : decode cX2_reckon 85 = .ok (.aload_n 0, 1) := by decide +kernel
theorem dX2_reckon_86 : decode cX2_reckon 86 = .ok (.dup, 1) := by decide +kernel
theorem dX2_reckon_87 : decode cX2_reckon 87 = .ok (.getfield 86, 3) := by decide +kernel
theorem dX2_reckon_90 : decode cX2_reckon 90 = .ok (.iconst 1, 1) := by decide +kernel
theorem dX2_reckon_91 : decode cX2_reckon 91 = .ok (.iadd, 1) := by decide +kernel
theorem dX2_reckon_92 : decode cX2_reckon 92 = .ok (.putfield 86, 3) := by decide +kernel
theorem dX2_reckon_95 : decode cX2_reckon 95 = .ok (.aload_n 0, 1) := by decide +kernel
theorem dX2_reckon_96 : decode cX2_reckon 96 = .ok (.aload_n 0, 1) := by decide +kernel
theorem dX2_reckon_97 : decode cX2_reckon 97 = .ok (.getfield 95, 3) := by decide +kernel
theorem dX2_reckon_100 : decode cX2_reckon 100 = .ok (.aload_n 0, 1) := by decide +kernel
theorem dX2_reckon_101 : decode cX2_reckon 101 = .ok (.getfield 70, 3) := by decide +kernel
theorem dX2_reckon_104 : decode cX2_reckon 104 = .ok (.invokestatic 51, 3) := by decide +kernel
theorem dX2_reckon_107 : decode cX2_reckon 107 = .ok (.putfield 95, 3) := by decide +kernel
theorem dX2_reckon_110 : decode cX2_reckon 110 = .ok (.goto 35, 3) := by decide +kernel
theorem dX2_reckon_113 : decode cX2_reckon 113 = .ok (.aload_n 0, 1) := by decide +kernel
theorem dX2_reckon_114 : decode cX2_reckon 114 = .ok (.getfield 25, 3) := by decide +kernel
theorem dX2_reckon_117 : decode cX2_reckon 117 = .ok (.iload_n 3, 1) := by decide +kernel
theorem dX2_reckon_118 : decode cX2_reckon 118 = .ok (.baload, 1) := by decide +kernel
theorem dX2_reckon_119 : decode cX2_reckon 119 = .ok (.ifCond .ne 26, 3) := by decide +kernel
theorem dX2_reckon_122 : decode cX2_reckon 122 = .ok (.aload_n 0, 1) := by decide +kernel
theorem dX2_reckon_123 : decode cX2_reckon 123 = .ok (.dup, 1) := by decide +kernel
theorem dX2_reckon_124 : decode cX2_reckon 124 = .ok (.getfield 89, 3) := by decide +kernel
theorem dX2_reckon_127 : decode cX2_reckon 127 = .ok (.iconst 1, 1) := by decide +kernel
theorem dX2_reckon_128 : decode cX2_reckon 128 = .ok (.iadd, 1) := by decide +kernel
theorem dX2_reckon_129 : decode cX2_reckon 129 = .ok (.putfield 89, 3) := by decide +kernel
theorem dX2_reckon_132 : decode cX2_reckon 132 = .ok (.aload_n 0, 1) := by decide +kernel
theorem dX2_reckon_133 : decode cX2_reckon 133 = .ok (.getfield 92, 3) := by decide +kernel
theorem dX2_reckon_136 : decode cX2_reckon 136 = .ok (.iconst (-1), 1) := by decide +kernel
theorem dX2_reckon_137 : decode cX2_reckon 137 = .ok (.if_icmp .ne 8, 3) := by decide +kernel
theorem dX2_reckon_140 : decode cX2_reckon 140 = .ok (.aload_n 0, 1) := by decide +kernel
theorem dX2_reckon_141 : decode cX2_reckon 141 = .ok (.iload_n 3, 1) := by decide +kernel
theorem dX2_reckon_142 : decode cX2_reckon 142 = .ok (.putfield 92, 3) := by decide +kernel
theorem dX2_reckon_145 : decode cX2_reckon 145 = .ok (.iinc 3 1, 3) := by decide +kernel
theorem dX2_reckon_148 : decode cX2_reckon 148 = .ok (.goto (-100), 3) := by decide +kernel
theorem dX2_reckon_151 : decode cX2_reckon 151 = .ok (.iload_n 2, 1) := by decide +kernel
theorem dX2_reckon_152 : decode cX2_reckon 152 = .ok (.ireturn, 1) := by decide +kernel
theorem dX2_trustAll_0 : decode cX2_trustAll 0 = .ok (.iconst 0, 1) := by decide +kernel
theorem dX2_trustAll_1 : decode cX2_trustAll 1 = .ok (.istore_n 1, 1) := by decide +kernel
theorem dX2_trustAll_2 : decode cX2_trustAll 2 = .ok (.iconst 0, 1) := by decide +kernel
theorem dX2_trustAll_3 : decode cX2_trustAll 3 = .ok (.istore_n 2, 1) := by decide +kernel
theorem dX2_trustAll_4 : decode cX2_trustAll 4 = .ok (.iload_n 2, 1) := by decide +kernel
theorem dX2_trustAll_5 : decode cX2_trustAll 5 = .ok (.aload_n 0, 1) := by decide +kernel
theorem dX2_trustAll_6 : decode cX2_trustAll 6 = .ok (.getfield 60, 3) := by decide +kernel
theorem dX2_trustAll_9 : decode cX2_trustAll 9 = .ok (.if_icmp .ge 18, 3) := by decide +kernel
theorem dX2_trustAll_12 : decode cX2_trustAll 12 = .ok (.iload_n 1, 1) := by decide +kernel
theorem dX2_trustAll_13 : decode cX2_trustAll 13 = .ok (.aload_n 0, 1) := by decide +kernel
theorem dX2_trustAll_14 : decode cX2_trustAll 14 = .ok (.getfield 29, 3) := by decide +kernel
theorem dX2_trustAll_17 : decode cX2_trustAll 17 = .ok (.iload_n 2, 1) := by decide +kernel
theorem dX2_trustAll_18 : decode cX2_trustAll 18 = .ok (.iaload, 1) := by decide +kernel
theorem dX2_trustAll_19 : decode cX2_trustAll 19 = .ok (.iadd, 1) := by decide +kernel
theorem dX2_trustAll_20 : decode cX2_trustAll 20 = .ok (.istore_n 1, 1) := by decide +kernel
theorem dX2_trustAll_21 : decode cX2_trustAll 21 = .ok (.iinc 2 1, 3) := by decide +kernel
theorem dX2_trustAll_24 : decode cX2_trustAll 24 = .ok (.goto (-20), 3) := by decide +kernel
theorem dX2_trustAll_27 : decode cX2_trustAll 27 = .ok (.iload_n 1, 1) := by decide +kernel
theorem dX2_trustAll_28 : decode cX2_trustAll 28 = .ok (.ireturn, 1) := by decide +kernel
set_option maxRecDepth 20000 in
theorem ggX2_strike_X2_isEntry : GoodIn wsX2_strike wsX2_isEntry := goodIn_r _ [7, 8, 9, 10, 6, 11, 12, 13, 14, 15, 16, 17, 18, 19, 20, 21, 22, 23, 24, 25, 26, 27, 28] (by decide +kernel) (by decide +kernel)
set_option maxRecDepth 20000 in
theorem gX2_strike_X2_isEntry : GoodIn wsX2_strike (wsV RX2 105 RX2 yX2_isEntry wsX2_isEntry) := goodIn_app (goodIn_of _ (by decide +kernel)) ggX2_strike_X2_isEntry
theorem dX2_strike_0 : decode cX2_strike 0 = .ok (.aload_n 0, 1) := by decide +kernel
theorem dX2_strike_1 : decode cX2_strike 1 = .ok (.aload_n 0, 1) := by decide +kernel
theorem dX2_strike_2 : decode cX2_strike 2 = .ok (.iload_n 1, 1) := by decide +kernel
theorem dX2_strike_3 : decode cX2_strike 3 = .ok (.invokevirtual 105, 3) := by decide +kernel
theorem dX2_strike_6 : decode cX2_strike 6 = .ok (.ifCond .eq 7, 3) := by decide +kernel
theorem dX2_strike_9 : decode cX2_strike 9 = .ok (.iconst 0, 1) := by decide +kernel
theorem dX2_strike_10 : decode cX2_strike 10 = .ok (.goto 4, 3) := by decide +kernel
theorem dX2_strike_13 : decode cX2_strike 13 = .ok (.iconst 1, 1) := by decide +kernel
theorem dX2_strike_14 : decode cX2_strike 14 = .ok (.putfield 32, 3) := by decide +kernel
theorem dX2_strike_17 : decode cX2_strike 17 = .ok (.aload_n 0, 1) := by decide +kernel
theorem dX2_strike_18 : decode cX2_strike 18 = .ok (.getfield 32, 3) := by decide +kernel
theorem dX2_strike_21 : decode cX2_strike 21 = .ok (.ifCond .eq 5, 3) := by decide +kernel
theorem dX2_strike_24 : decode cX2_strike 24 = .ok (.iconst 0, 1) := by decide +kernel
theorem dX2_strike_25 : decode cX2_strike 25 = .ok (.ireturn, 1) := by decide +kernel
theorem dX2_strike_26 : decode cX2_strike 26 = .ok (.aload_n 0, 1) := by decide +kernel
theorem dX2_strike_27 : decode cX2_strike 27 = .ok (.getfield 25, 3) := by decide +kernel
theorem dX2_strike_30 : decode cX2_strike 30 = .ok (.iload_n 1, 1) := by decide +kernel
theorem dX2_strike_31 : decode cX2_strike 31 = .ok (.aload_n 0, 1) := by decide +kernel
theorem dX2_strike_32 : decode cX2_strike 32 = .ok (.getfield 25, 3) := by decide +kernel
theorem dX2_strike_35 : decode cX2_strike 35 = .ok (.iload_n 1, 1) := by decide +kernel
theorem dX2_strike_36 : decode cX2_strike 36 = .ok (.baload, 1) := by decide +kernel
theorem dX2_strike_37 : decode cX2_strike 37 = .ok (.ifCond .ne 7, 3) := by decide +kernel
theorem dX2_strike_40 : decode cX2_strike 40 = .ok (.iconst 1, 1) := by decide +kernel
theorem dX2_strike_41 : decode cX2_strike 41 = .ok (.goto 4, 3) := by decide +kernel
theorem dX2_strike_44 : decode cX2_strike 44 = .ok (.iconst 0, 1) := by decide +kernel
theorem dX2_strike_45 : decode cX2_strike 45 = .ok (.bastore, 1) := by decide +kernel
theorem dX2_strike_46 : decode cX2_strike 46 = .ok (.aload_n 0, 1) := by decide +kernel
theorem dX2_strike_47 : decode cX2_strike 47 = .ok (.getfield 25, 3) := by decide +kernel
theorem dX2_strike_50 : decode cX2_strike 50 = .ok (.iload_n 1, 1) := by decide +kernel
theorem dX2_strike_51 : decode cX2_strike 51 = .ok (.baload, 1) := by decide +kernel
theorem dX2_strike_52 : decode cX2_strike 52 = .ok (.ireturn, 1) := by decide +kernel
theorem dX2_exchange_0 : decode cX2_exchange 0 = .ok (.aload_n 0, 1) := by decide +kernel
theorem dX2_exchange_1 : decode cX2_exchange 1 = .ok (.getfield 16, 3) := by decide +kernel
theorem dX2_exchange_4 : decode cX2_exchange 4 = .ok (.iload_n 1, 1) := by decide +kernel
theorem dX2_exchange_5 : decode cX2_exchange 5 = .ok (.iaload, 1) := by decide +kernel
theorem dX2_exchange_6 : decode cX2_exchange 6 = .ok (.istore_n 3, 1) := by decide +kernel
theorem dX2_exchange_7 : decode cX2_exchange 7 = .ok (.aload_n 0, 1) := by decide +kernel
theorem dX2_exchange_8 : decode cX2_exchange 8 = .ok (.getfield 19, 3) := by decide +kernel
theorem dX2_exchange_11 : decode cX2_exchange 11 = .ok (.iload_n 1, 1) := by decide +kernel
theorem dX2_exchange_12 : decode cX2_exchange 12 = .ok (.iaload, 1) := by decide +kernel
theorem dX2_exchange_13 : decode cX2_exchange 13 = .ok (.istore 4, 2) := by decide +kernel
theorem dX2_exchange_15 : decode cX2_exchange 15 = .ok (.aload_n 0, 1) := by decide +kernel
theorem dX2_exchange_16 : decode cX2_exchange 16 = .ok (.getfield 22, 3) := by decide +kernel
theorem dX2_exchange_19 : decode cX2_exchange 19 = .ok (.iload_n 1, 1) := by decide +kernel
theorem dX2_exchange_20 : decode cX2_exchange 20 = .ok (.iaload, 1) := by decide +kernel
theorem dX2_exchange_21 : decode cX2_exchange 21 = .ok (.istore 5, 2) := by decide +kernel
theorem dX2_exchange_23 : decode cX2_exchange 23 = .ok (.aload_n 0, 1) := by decide +kernel
theorem dX2_exchange_24 : decode cX2_exchange 24 = .ok (.getfield 25, 3) := by decide +kernel
theorem dX2_exchange_27 : decode cX2_exchange 27 = .ok (.iload_n 1, 1) := by decide +kernel
theorem dX2_exchange_28 : decode cX2_exchange 28 = .ok (.baload, 1) := by decide +kernel
theorem dX2_exchange_29 : decode cX2_exchange 29 = .ok (.istore 6, 2) := by decide +kernel
theorem dX2_exchange_31 : decode cX2_exchange 31 = .ok (.aload_n 0, 1) := by decide +kernel
theorem dX2_exchange_32 : decode cX2_exchange 32 = .ok (.getfield 16, 3) := by decide +kernel
theorem dX2_exchange_35 : decode cX2_exchange 35 = .ok (.iload_n 1, 1) := by decide +kernel
theorem dX2_exchange_36 : decode cX2_exchange 36 = .ok (.aload_n 0, 1) := by decide +kernel
theorem dX2_exchange_37 : decode cX2_exchange 37 = .ok (.getfield 16, 3) := by decide +kernel
theorem dX2_exchange_40 : decode cX2_exchange 40 = .ok (.iload_n 2, 1) := by decide +kernel
theorem dX2_exchange_41 : decode cX2_exchange 41 = .ok (.iaload, 1) := by decide +kernel
theorem dX2_exchange_42 : decode cX2_exchange 42 = .ok (.iastore, 1) := by decide +kernel
theorem dX2_exchange_43 : decode cX2_exchange 43 = .ok (.aload_n 0, 1) := by decide +kernel
theorem dX2_exchange_44 : decode cX2_exchange 44 = .ok (.getfield 19, 3) := by decide +kernel
theorem dX2_exchange_47 : decode cX2_exchange 47 = .ok (.iload_n 1, 1) := by decide +kernel
theorem dX2_exchange_48 : decode cX2_exchange 48 = .ok (.aload_n 0, 1) := by decide +kernel
theorem dX2_exchange_49 : decode cX2_exchange 49 = .ok (.getfield 19, 3) := by decide +kernel
theorem dX2_exchange_52 : decode cX2_exchange 52 = .ok (.iload_n 2, 1) := by decide +kernel
theorem dX2_exchange_53 : decode cX2_exchange 53 = .ok (.iaload, 1) := by decide +kernel
theorem dX2_exchange_54 : decode cX2_exchange 54 = .ok (.iastore, 1) := by decide +kernel
theorem dX2_exchange_55 : decode cX2_exchange 55 = .ok (.aload_n 0, 1) := by decide +kernel
theorem dX2_exchange_56 : decode cX2_exchange 56 = .ok (.getfield 22, 3) := by decide +kernel
theorem dX2_exchange_59 : decode cX2_exchange 59 = .ok (.iload_n 1, 1) := by decide +kernel
theorem dX2_exchange_60 : decode cX2_exchange 60 = .ok (.aload_n 0, 1) := by decide +kernel
theorem dX2_exchange_61 : decode cX2_exchange 61 = .ok (.getfield 22, 3) := by decide +kernel
theorem dX2_exchange_64 : decode cX2_exchange 64 = .ok (.iload_n 2, 1) := by decide +kernel
theorem dX2_exchange_65 : decode cX2_exchange 65 = .ok (.iaload, 1) := by decide +kernel
theorem dX2_exchange_66 : decode cX2_exchange 66 = .ok (.iastore, 1) := by decide +kernel
theorem dX2_exchange_67 : decode cX2_exchange 67 = .ok (.aload_n 0, 1) := by decide +kernel
theorem dX2_exchange_68 : decode cX2_exchange 68 = .ok (.getfield 25, 3) := by decide +kernel
theorem dX2_exchange_71 : decode cX2_exchange 71 = .ok (.iload_n 1, 1) := by decide +kernel
theorem dX2_exchange_72 : decode cX2_exchange 72 = .ok (.aload_n 0, 1) := by decide +kernel
theorem dX2_exchange_73 : decode cX2_exchange 73 = .ok (.getfield 25, 3) := by decide +kernel
theorem dX2_exchange_76 : decode cX2_exchange 76 = .ok (.iload_n 2, 1) := by decide +kernel
theorem dX2_exchange_77 : decode cX2_exchange 77 = .ok (.baload, 1) := by decide +kernel
theorem dX2_exchange_78 : decode cX2_exchange 78 = .ok (.bastore, 1) := by decide +kernel
theorem dX2_exchange_79 : decode cX2_exchange 79 = .ok (.aload_n 0, 1) := by decide +kernel
theorem dX2_exchange_80 : decode cX2_exchange 80 = .ok (.getfield 16, 3) := by decide +kernel
theorem dX2_exchange_83 : decode cX2_exchange 83 = .ok (.iload_n 2, 1) := by decide +kernel
theorem dX2_exchange_84 : decode cX2_exchange 84 = .ok (.iload_n 3, 1) := by decide +kernel
theorem dX2_exchange_85 : decode cX2_exchange 85 = .ok (.iastore, 1) := by decide +kernel
theorem dX2_exchange_86 : decode cX2_exchange 86 = .ok (.aload_n 0, 1) := by decide +kernel
theorem dX2_exchange_87 : decode cX2_exchange 87 = .ok (.getfield 19, 3) := by decide +kernel
theorem dX2_exchange_90 : decode cX2_exchange 90 = .ok (.iload_n 2, 1) := by decide +kernel
theorem dX2_exchange_91 : decode cX2_exchange 91 = .ok (.iload 4, 2) := by decide +kernel
theorem dX2_exchange_93 : decode cX2_exchange 93 = .ok (.iastore, 1) := by decide +kernel
theorem dX2_exchange_94 : decode cX2_exchange 94 = .ok (.aload_n 0, 1) := by decide +kernel
theorem dX2_exchange_95 : decode cX2_exchange 95 = .ok (.getfield 22, 3) := by decide +kernel
theorem dX2_exchange_98 : decode cX2_exchange 98 = .ok (.iload_n 2, 1) := by decide +kernel
theorem dX2_exchange_99 : decode cX2_exchange 99 = .ok (.iload 5, 2) := by decide +kernel
theorem dX2_exchange_101 : decode cX2_exchange 101 = .ok (.iastore, 1) := by decide +kernel
theorem dX2_exchange_102 : decode cX2_exchange 102 = .ok (.aload_n 0, 1) := by decide +kernel
theorem dX2_exchange_103 : decode cX2_exchange 103 = .ok (.getfield 25, 3) := by decide +kernel
theorem dX2_exchange_106 : decode cX2_exchange 106 = .ok (.iload_n 2, 1) := by decide +kernel
theorem dX2_exchange_107 : decode cX2_exchange 107 = .ok (.iload 6, 2) := by decide +kernel
theorem dX2_exchange_109 : decode cX2_exchange 109 = .ok (.bastore, 1) := by decide +kernel
theorem dX2_exchange_110 : decode cX2_exchange 110 = .ok (.return_, 1) := by decide +kernel
set_option maxRecDepth 20000 in
theorem ggX2_shift_X2_isEntry : GoodIn wsX2_shift wsX2_isEntry := goodIn_r _ [7, 8, 9, 10, 6, 11, 23, 24, 25, 26, 27, 28, 29, 30, 31, 32, 33, 34, 35, 36, 37, 38, 39] (by decide +kernel) (by decide +kernel)
set_option maxRecDepth 20000 in
theorem gX2_shift_X2_isEntry : GoodIn wsX2_shift (wsV RX2 105 RX2 yX2_isEntry wsX2_isEntry) := goodIn_app (goodIn_of _ (by decide +kernel)) ggX2_shift_X2_isEntry
set_option maxRecDepth 20000 in
theorem ggX2_shift_X2_fail : GoodIn wsX2_shift wsX2_fail := goodIn_r _ [15, 1, 23, 24, 25, 26, 27, 28, 29, 30, 31, 32, 33, 34, 35, 36, 37, 38, 39] (by decide +kernel) (by decide +kernel)
set_option maxRecDepth 20000 in
theorem gX2_shift_X2_fail : GoodIn wsX2_shift (wsV RX2 43 RX2 yX2_fail wsX2_fail) := goodIn_app (goodIn_of _ (by decide +kernel)) ggX2_shift_X2_fail
set_option maxRecDepth 20000 in
theorem ggX2_shift_X2_exchange : GoodIn wsX2_shift wsX2_exchange := goodIn_r _ [19, 2, 20, 21, 22, 23, 24, 25, 26, 27, 28, 29, 30, 31, 32, 33, 34, 35, 36, 37, 38, 39] (by decide +kernel) (by decide +kernel)
set_option maxRecDepth 20000 in
theorem gX2_shift_X2_exchange : GoodIn wsX2_shift (wsV RX2 108 RX2 yX2_exchange wsX2_exchange) := goodIn_app (goodIn_of _ (by decide +kernel)) ggX2_shift_X2_exchange
theorem dX2_shift_0 : decode cX2_shift 0 = .ok (.aload_n 0, 1) := by decide +kernel
theorem dX2_shift_1 : decode cX2_shift 1 = .ok (.iconst 0, 1) := by decide +kernel
theorem dX2_shift_2 : decode cX2_shift 2 = .ok (.putfield 32, 3) := by decide +kernel
theorem dX2_shift_5 : decode cX2_shift 5 = .ok (.aload_n 0, 1) := by decide +kernel
theorem dX2_shift_6 : decode cX2_shift 6 = .ok (.iload_n 1, 1) := by decide +kernel
theorem dX2_shift_7 : decode cX2_shift 7 = .ok (.invokevirtual 105, 3) := by decide +kernel
theorem dX2_shift_10 : decode cX2_shift 10 = .ok (.ifCond .eq 11, 3) := by decide +kernel
theorem dX2_shift_13 : decode cX2_shift 13 = .ok (.aload_n 0, 1) := by decide +kernel
theorem dX2_shift_14 : decode cX2_shift 14 = .ok (.iload_n 2, 1) := by decide +kernel
theorem dX2_shift_15 : decode cX2_shift 15 = .ok (.invokevirtual 105, 3) := by decide +kernel
theorem dX2_shift_18 : decode cX2_shift 18 = .ok (.ifCond .ne 9, 3) := by decide +kernel
theorem dX2_shift_21 : decode cX2_shift 21 = .ok (.aload_n 0, 1) := by decide +kernel
theorem dX2_shift_22 : decode cX2_shift 22 = .ok (.iconst 1, 1) := by decide +kernel
theorem dX2_shift_23 : decode cX2_shift 23 = .ok (.invokevirtual 43, 3) := by decide +kernel
theorem dX2_shift_26 : decode cX2_shift 26 = .ok (.ireturn, 1) := by decide +kernel
theorem dX2_shift_27 : decode cX2_shift 27 = .ok (.iload_n 1, 1) := by decide +kernel
theorem dX2_shift_28 : decode cX2_shift 28 = .ok (.istore_n 3, 1) := by decide +kernel
theorem dX2_shift_29 : decode cX2_shift 29 = .ok (.iload_n 3, 1) := by decide +kernel
theorem dX2_shift_30 : decode cX2_shift 30 = .ok (.iload_n 2, 1) := by decide +kernel
theorem dX2_shift_31 : decode cX2_shift 31 = .ok (.if_icmp .ge 17, 3) := by decide +kernel
theorem dX2_shift_34 : decode cX2_shift 34 = .ok (.aload_n 0, 1) := by decide +kernel
theorem dX2_shift_35 : decode cX2_shift 35 = .ok (.iload_n 3, 1) := by decide +kernel
theorem dX2_shift_36 : decode cX2_shift 36 = .ok (.iload_n 3, 1) := by decide +kernel
theorem dX2_shift_37 : decode cX2_shift 37 = .ok (.iconst 1, 1) := by decide +kernel
theorem dX2_shift_38 : decode cX2_shift 38 = .ok (.iadd, 1) := by decide +kernel
theorem dX2_shift_39 : decode cX2_shift 39 = .ok (.invokevirtual 108, 3) := by decide +kernel
theorem dX2_shift_42 : decode cX2_shift 42 = .ok (.iinc 3 1, 3) := by decide +kernel
theorem dX2_shift_45 : decode cX2_shift 45 = .ok (.goto (-16), 3) := by decide +kernel
theorem dX2_shift_48 : decode cX2_shift 48 = .ok (.iload_n 1, 1) := by decide +kernel
theorem dX2_shift_49 : decode cX2_shift 49 = .ok (.istore_n 3, 1) := by decide +kernel
theorem dX2_shift_50 : decode cX2_shift 50 = .ok (.iload_n 3, 1) := by decide +kernel
theorem dX2_shift_51 : decode cX2_shift 51 = .ok (.iload_n 2, 1) := by decide +kernel
theorem dX2_shift_52 : decode cX2_shift 52 = .ok (.if_icmp .le 17, 3) := by decide +kernel
theorem dX2_shift_55 : decode cX2_shift 55 = .ok (.aload_n 0, 1) := by decide +kernel
theorem dX2_shift_56 : decode cX2_shift 56 = .ok (.iload_n 3, 1) := by decide +kernel
theorem dX2_shift_57 : decode cX2_shift 57 = .ok (.iload_n 3, 1) := by decide +kernel
theorem dX2_shift_58 : decode cX2_shift 58 = .ok (.iconst 1, 1) := by decide +kernel
theorem dX2_shift_59 : decode cX2_shift 59 = .ok (.isub, 1) := by decide +kernel
theorem dX2_shift_60 : decode cX2_shift 60 = .ok (.invokevirtual 108, 3) := by decide +kernel
theorem dX2_shift_63 : decode cX2_shift 63 = .ok (.iinc 3 (-1), 3) := by decide +kernel
theorem dX2_shift_66 : decode cX2_shift 66 = .ok (.goto (-16), 3) := by decide +kernel
theorem dX2_shift_69 : decode cX2_shift 69 = .ok (.aload_n 0, 1) := by decide +kernel
theorem dX2_shift_70 : decode cX2_shift 70 = .ok (.getfield 16, 3) := by decide +kernel
theorem dX2_shift_73 : decode cX2_shift 73 = .ok (.iload_n 2, 1) := by decide +kernel
theorem dX2_shift_74 : decode cX2_shift 74 = .ok (.iaload, 1) := by decide +kernel
theorem dX2_shift_75 : decode cX2_shift 75 = .ok (.ireturn, 1) := by decide +kernel
set_option maxRecDepth 20000 in
theorem ggX2_tear_X2_fail : GoodIn wsX2_tear wsX2_fail := goodIn_r _ [8, 1, 9, 10, 11, 12, 13, 14, 15, 16, 17, 18, 19, 20, 21, 22, 23, 24, 25] (by decide +kernel) (by decide +kernel)
set_option maxRecDepth 20000 in
theorem gX2_tear_X2_fail : GoodIn wsX2_tear (wsV RX2 43 RX2 yX2_fail wsX2_fail) := goodIn_app (goodIn_of _ (by decide +kernel)) ggX2_tear_X2_fail
theorem dX2_tear_0 : decode cX2_tear 0 = .ok (.aload_n 0, 1) := by decide +kernel
theorem dX2_tear_1 : decode cX2_tear 1 = .ok (.iconst 0, 1) := by decide +kernel
theorem dX2_tear_2 : decode cX2_tear 2 = .ok (.putfield 32, 3) := by decide +kernel
theorem dX2_tear_5 : decode cX2_tear 5 = .ok (.aload_n 0, 1) := by decide +kernel
theorem dX2_tear_6 : decode cX2_tear 6 = .ok (.getfield 36, 3) := by decide +kernel
theorem dX2_tear_9 : decode cX2_tear 9 = .ok (.ifCond .ne 9, 3) := by decide +kernel
theorem dX2_tear_12 : decode cX2_tear 12 = .ok (.aload_n 0, 1) := by decide +kernel
theorem dX2_tear_13 : decode cX2_tear 13 = .ok (.iconst 1, 1) := by decide +kernel
theorem dX2_tear_14 : decode cX2_tear 14 = .ok (.invokevirtual 43, 3) := by decide +kernel
theorem dX2_tear_17 : decode cX2_tear 17 = .ok (.ireturn, 1) := by decide +kernel
theorem dX2_tear_18 : decode cX2_tear 18 = .ok (.aload_n 0, 1) := by decide +kernel
theorem dX2_tear_19 : decode cX2_tear 19 = .ok (.dup, 1) := by decide +kernel
theorem dX2_tear_20 : decode cX2_tear 20 = .ok (.getfield 36, 3) := by decide +kernel
theorem dX2_tear_23 : decode cX2_tear 23 = .ok (.iconst 1, 1) := by decide +kernel
theorem dX2_tear_24 : decode cX2_tear 24 = .ok (.isub, 1) := by decide +kernel
theorem dX2_tear_25 : decode cX2_tear 25 = .ok (.putfield 36, 3) := by decide +kernel
theorem dX2_tear_28 : decode cX2_tear 28 = .ok (.aload_n 0, 1) := by decide +kernel
theorem dX2_tear_29 : decode cX2_tear 29 = .ok (.getfield 16, 3) := by decide +kernel
theorem dX2_tear_32 : decode cX2_tear 32 = .ok (.aload_n 0, 1) := by decide +kernel
theorem dX2_tear_33 : decode cX2_tear 33 = .ok (.getfield 36, 3) := by decide +kernel
theorem dX2_tear_36 : decode cX2_tear 36 = .ok (.iaload, 1) := by decide +kernel
theorem dX2_tear_37 : decode cX2_tear 37 = .ok (.ireturn, 1) := by decide +kernel
set_option maxRecDepth 20000 in
theorem ggX2_entryTold_X2_reckon : GoodIn wsX2_entryTold wsX2_reckon := goodIn_r _ [9, 10, 11, 12, 13, 14, 15, 16, 17, 4, 18, 19, 20, 21, 22, 23, 24, 8, 25, 2, 1, 3, 26, 27, 28, 29, 30, 31, 32, 33, 34, 35, 36, 37, 38, 39, 40, 41, 42, 43, 44, 45, 46, 47, 48, 49, 50, 51, 52, 53, 54, 55, 56, 57, 58, 59, 60, 61, 62, 63, 64, 65, 66, 67, 68] (by decide +kernel) (by decide +kernel)
set_option maxRecDepth 20000 in
theorem gX2_entryTold_X2_reckon : GoodIn wsX2_entryTold (wsV RX2 111 RX2 yX2_reckon wsX2_reckon) := goodIn_app (goodIn_of _ (by decide +kernel)) ggX2_entryTold_X2_reckon
theorem dX2_entryTold_0 : decode cX2_entryTold 0 = .ok (.iload_n 2, 1) := by decide +kernel
theorem dX2_entryTold_1 : decode cX2_entryTold 1 = .ok (.tableswitch 67 0 3 #[31, 38, 45, 52], 31) := by decide +kernel
theorem dX2_entryTold_32 : decode cX2_entryTold 32 = .ok (.aload_n 0, 1) := by decide +kernel
theorem dX2_entryTold_33 : decode cX2_entryTold 33 = .ok (.getfield 16, 3) := by decide +kernel
theorem dX2_entryTold_36 : decode cX2_entryTold 36 = .ok (.iload_n 1, 1) := by decide +kernel
theorem dX2_entryTold_37 : decode cX2_entryTold 37 = .ok (.iaload, 1) := by decide +kernel
theorem dX2_entryTold_38 : decode cX2_entryTold 38 = .ok (.ireturn, 1) := by decide +kernel
theorem dX2_entryTold_39 : decode cX2_entryTold 39 = .ok (.aload_n 0, 1) := by decide +kernel
theorem dX2_entryTold_40 : decode cX2_entryTold 40 = .ok (.getfield 19, 3) := by decide +kernel
theorem dX2_entryTold_43 : decode cX2_entryTold 43 = .ok (.iload_n 1, 1) := by decide +kernel
theorem dX2_entryTold_44 : decode cX2_entryTold 44 = .ok (.iaload, 1) := by decide +kernel
theorem dX2_entryTold_45 : decode cX2_entryTold 45 = .ok (.ireturn, 1) := by decide +kernel
theorem dX2_entryTold_46 : decode cX2_entryTold 46 = .ok (.aload_n 0, 1) := by decide +kernel
theorem dX2_entryTold_47 : decode cX2_entryTold 47 = .ok (.getfield 22, 3) := by decide +kernel
theorem dX2_entryTold_50 : decode cX2_entryTold 50 = .ok (.iload_n 1, 1) := by decide +kernel
theorem dX2_entryTold_51 : decode cX2_entryTold 51 = .ok (.iaload, 1) := by decide +kernel
theorem dX2_entryTold_52 : decode cX2_entryTold 52 = .ok (.ireturn, 1) := by decide +kernel
theorem dX2_entryTold_53 : decode cX2_entryTold 53 = .ok (.aload_n 0, 1) := by decide +kernel
theorem dX2_entryTold_54 : decode cX2_entryTold 54 = .ok (.getfield 25, 3) := by decide +kernel
theorem dX2_entryTold_57 : decode cX2_entryTold 57 = .ok (.iload_n 1, 1) := by decide +kernel
theorem dX2_entryTold_58 : decode cX2_entryTold 58 = .ok (.baload, 1) := by decide +kernel
theorem dX2_entryTold_59 : decode cX2_entryTold 59 = .ok (.ifCond .eq 7, 3) := by decide +kernel
theorem dX2_entryTold_62 : decode cX2_entryTold 62 = .ok (.iconst 1, 1) := by decide +kernel
theorem dX2_entryTold_63 : decode cX2_entryTold 63 = .ok (.goto 4, 3) := by decide +kernel
theorem dX2_entryTold_66 : decode cX2_entryTold 66 = .ok (.iconst 0, 1) := by decide +kernel
theorem dX2_entryTold_67 : decode cX2_entryTold 67 = .ok (.ireturn, 1) := by decide +kernel
theorem dX2_entryTold_68 : decode cX2_entryTold 68 = .ok (.aload_n 0, 1) := by decide +kernel
theorem dX2_entryTold_69 : decode cX2_entryTold 69 = .ok (.iload_n 1, 1) := by decide +kernel
theorem dX2_entryTold_70 : decode cX2_entryTold 70 = .ok (.iconst 1, 1) := by decide +kernel
theorem dX2_entryTold_71 : decode cX2_entryTold 71 = .ok (.iadd, 1) := by decide +kernel
theorem dX2_entryTold_72 : decode cX2_entryTold 72 = .ok (.invokevirtual 111, 3) := by decide +kernel
theorem dX2_entryTold_75 : decode cX2_entryTold 75 = .ok (.ifCond .eq 7, 3) := by decide +kernel
theorem dX2_entryTold_78 : decode cX2_entryTold 78 = .ok (.iconst 1, 1) := by decide +kernel
theorem dX2_entryTold_79 : decode cX2_entryTold 79 = .ok (.goto 4, 3) := by decide +kernel
theorem dX2_entryTold_82 : decode cX2_entryTold 82 = .ok (.iconst 0, 1) := by decide +kernel
theorem dX2_entryTold_83 : decode cX2_entryTold 83 = .ok (.ireturn, 1) := by decide +kernel
set_option maxRecDepth 20000 in
theorem ggX2_entry_X2_isEntry : GoodIn wsX2_entry wsX2_isEntry := goodIn_r _ [6, 7, 8, 9, 5, 10, 69, 70, 71, 72, 73, 74, 75, 76, 77, 78, 79, 80, 81, 82, 83, 84, 85] (by decide +kernel) (by decide +kernel)
set_option maxRecDepth 20000 in
theorem gX2_entry_X2_isEntry : GoodIn wsX2_entry (wsV RX2 105 RX2 yX2_isEntry wsX2_isEntry) := goodIn_app (goodIn_of _ (by decide +kernel)) ggX2_entry_X2_isEntry
set_option maxRecDepth 20000 in
theorem ggX2_entry_X2_isIn : GoodIn wsX2_entry wsX2_isIn := goodIn_r _ [10] (by decide +kernel) (by decide +kernel)
set_option maxRecDepth 20000 in
theorem gX2_entry_X2_isIn : GoodIn wsX2_entry (va_wsS RX2 39 yX2_isIn wsX2_isIn) := goodIn_app (goodIn_of _ (by decide +kernel)) ggX2_entry_X2_isIn
set_option maxRecDepth 20000 in
theorem ggX2_entry_X2_entryTold : GoodIn wsX2_entry wsX2_entryTold := goodIn_r _ [14, 15, 16, 17, 18, 19, 20, 21, 5, 22, 23, 24, 25, 26, 27, 28, 29, 30, 31, 32, 33, 34, 35, 36, 37, 38, 39, 40, 41, 42, 43, 44, 45, 46, 47, 48, 49, 50, 51, 52, 53, 54, 55, 56, 57, 58, 59, 60, 61, 62, 63, 64, 69, 70, 71, 72, 73, 74, 75, 76, 77, 78, 79, 80, 81, 82, 83, 84, 85] (by decide +kernel) (by decide +kernel)
set_option maxRecDepth 20000 in
theorem gX2_entry_X2_entryTold : GoodIn wsX2_entry (wsV RX2 114 RX2 yX2_entryTold wsX2_entryTold) := goodIn_app (goodIn_of _ (by decide +kernel)) ggX2_entry_X2_entryTold
set_option maxRecDepth 20000 in
theorem ggX2_entry_X2_fail : GoodIn wsX2_entry wsX2_fail := goodIn_r _ [68, 1, 69, 70, 71, 72, 73, 74, 75, 76, 77, 78, 79, 80, 81, 82, 83, 84, 85] (by decide +kernel) (by decide +kernel)
set_option maxRecDepth 20000 in
theorem gX2_entry_X2_fail : GoodIn wsX2_entry (wsV RX2 43 RX2 yX2_fail wsX2_fail) := goodIn_app (goodIn_of _ (by decide +kernel)) ggX2_entry_X2_fail
theorem dX2_entry_0 : decode cX2_entry 0 = .ok (.aload_n 0, 1) := by decide +kernel
theorem dX2_entry_1 : decode cX2_entry 1 = .ok (.iconst 0, 1) := by decide +kernel
theorem dX2_entry_2 : decode cX2_entry 2 = .ok (.putfield 32, 3) := by decide +kernel
theorem dX2_entry_5 : decode cX2_entry 5 = .ok (.aload_n 0, 1) := by decide +kernel
theorem dX2_entry_6 : decode cX2_entry 6 = .ok (.iload_n 1, 1) := by decide +kernel
theorem dX2_entry_7 : decode cX2_entry 7 = .ok (.invokevirtual 105, 3) := by decide +kernel
theorem dX2_entry_10 : decode cX2_entry 10 = .ok (.ifCond .eq 21, 3) := by decide +kernel
theorem dX2_entry_13 : decode cX2_entry 13 = .ok (.iload_n 2, 1) := by decide +kernel
theorem dX2_entry_14 : decode cX2_entry 14 = .ok (.iconst 0, 1) := by decide +kernel
theorem dX2_entry_15 : decode cX2_entry 15 = .ok (.iconst 4, 1) := by decide +kernel
theorem dX2_entry_16 : decode cX2_entry 16 = .ok (.invokestatic 39, 3) := by decide +kernel
theorem dX2_entry_19 : decode cX2_entry 19 = .ok (.ifCond .eq 12, 3) := by decide +kernel
theorem dX2_entry_22 : decode cX2_entry 22 = .ok (.aload_n 0, 1) := by decide +kernel
theorem dX2_entry_23 : decode cX2_entry 23 = .ok (.iload_n 1, 1) := by decide +kernel
theorem dX2_entry_24 : decode cX2_entry 24 = .ok (.iload_n 2, 1) := by decide +kernel
theorem dX2_entry_25 : decode cX2_entry 25 = .ok (.invokevirtual 114, 3) := by decide +kernel
theorem dX2_entry_28 : decode cX2_entry 28 = .ok (.goto 8, 3) := by decide +kernel
theorem dX2_entry_31 : decode cX2_entry 31 = .ok (.aload_n 0, 1) := by decide +kernel
theorem dX2_entry_32 : decode cX2_entry 32 = .ok (.iconst 1, 1) := by decide +kernel
theorem dX2_entry_33 : decode cX2_entry 33 = .ok (.invokevirtual 43, 3) := by decide +kernel
theorem dX2_entry_36 : decode cX2_entry 36 = .ok (.ireturn, 1) := by decide +kernel
set_option maxRecDepth 20000 in
theorem ggX2_behind_X2_isIn : GoodIn wsX2_behind wsX2_isIn := goodIn_r _ [13] (by decide +kernel) (by decide +kernel)
set_option maxRecDepth 20000 in
theorem gX2_behind_X2_isIn : GoodIn wsX2_behind (va_wsS RX2 39 yX2_isIn wsX2_isIn) := goodIn_app (goodIn_of _ (by decide +kernel)) ggX2_behind_X2_isIn
set_option maxRecDepth 20000 in
theorem ggX2_behind_X2_fail : GoodIn wsX2_behind wsX2_fail := goodIn_r _ [17, 1, 66, 67, 68, 69, 70, 71, 72, 73, 74, 75, 76, 77, 78, 79, 80, 81, 82] (by decide +kernel) (by decide +kernel)
set_option maxRecDepth 20000 in
theorem gX2_behind_X2_fail : GoodIn wsX2_behind (wsV RX2 43 RX2 yX2_fail wsX2_fail) := goodIn_app (goodIn_of _ (by decide +kernel)) ggX2_behind_X2_fail
set_option maxRecDepth 20000 in
theorem ggX2_behind_X2_reckon : GoodIn wsX2_behind wsX2_reckon := goodIn_r _ [21, 4, 5, 6, 7, 8, 9, 22, 23, 24, 25, 26, 27, 28, 29, 30, 31, 12, 32, 33, 34, 35, 36, 37, 38, 39, 40, 41, 42, 43, 44, 45, 46, 47, 48, 49, 50, 51, 52, 53, 54, 55, 56, 57, 58, 59, 60, 61, 66, 67, 68, 69, 70, 71, 72, 73, 74, 75, 76, 77, 78, 79, 80, 81, 82] (by decide +kernel) (by decide +kernel)
set_option maxRecDepth 20000 in
theorem gX2_behind_X2_reckon : GoodIn wsX2_behind (wsV RX2 111 RX2 yX2_reckon wsX2_reckon) := goodIn_app (goodIn_of _ (by decide +kernel)) ggX2_behind_X2_reckon
set_option maxRecDepth 20000 in
theorem ggX2_behind_X2_trustAll : GoodIn wsX2_behind wsX2_trustAll := goodIn_r _ [65, 7, 40, 66, 67, 68, 69, 70, 71, 72, 73, 74, 75, 76, 77, 78, 79, 80, 81, 82] (by decide +kernel) (by decide +kernel)
set_option maxRecDepth 20000 in
theorem gX2_behind_X2_trustAll : GoodIn wsX2_behind (wsV RX2 117 RX2 yX2_trustAll wsX2_trustAll) := goodIn_app (goodIn_of _ (by decide +kernel)) ggX2_behind_X2_trustAll
theorem dX2_behind_0 : decode cX2_behind 0 = .ok (.aload_n 0, 1) := by decide +kernel
theorem dX2_behind_1 : decode cX2_behind 1 = .ok (.iconst 0, 1) := by decide +kernel
theorem dX2_behind_2 : decode cX2_behind 2 = .ok (.putfield 32, 3) := by decide +kernel
theorem dX2_behind_5 : decode cX2_behind 5 = .ok (.iload_n 1, 1) := by decide +kernel
theorem dX2_behind_6 : decode cX2_behind 6 = .ok (.iconst 0, 1) := by decide +kernel
theorem dX2_behind_7 : decode cX2_behind 7 = .ok (.aload_n 0, 1) := by decide +kernel
theorem dX2_behind_8 : decode cX2_behind 8 = .ok (.getfield 36, 3) := by decide +kernel
theorem dX2_behind_11 : decode cX2_behind 11 = .ok (.invokestatic 39, 3) := by decide +kernel
theorem dX2_behind_14 : decode cX2_behind 14 = .ok (.ifCond .ne 9, 3) := by decide +kernel
theorem dX2_behind_17 : decode cX2_behind 17 = .ok (.aload_n 0, 1) := by decide +kernel
theorem dX2_behind_18 : decode cX2_behind 18 = .ok (.iconst 1, 1) := by decide +kernel
theorem dX2_behind_19 : decode cX2_behind 19 = .ok (.invokevirtual 43, 3) := by decide +kernel
theorem dX2_behind_22 : decode cX2_behind 22 = .ok (.ireturn, 1) := by decide +kernel
theorem dX2_behind_23 : decode cX2_behind 23 = .ok (.iload_n 2, 1) := by decide +kernel
theorem dX2_behind_24 : decode cX2_behind 24 = .ok (.iconst 0, 1) := by decide +kernel
theorem dX2_behind_25 : decode cX2_behind 25 = .ok (.bipush 6, 2) := by decide +kernel
theorem dX2_behind_27 : decode cX2_behind 27 = .ok (.invokestatic 39, 3) := by decide +kernel
theorem dX2_behind_30 : decode cX2_behind 30 = .ok (.ifCond .ne 9, 3) := by decide +kernel
theorem dX2_behind_33 : decode cX2_behind 33 = .ok (.aload_n 0, 1) := by decide +kernel
theorem dX2_behind_34 : decode cX2_behind 34 = .ok (.iconst 2, 1) := by decide +kernel
theorem dX2_behind_35 : decode cX2_behind 35 = .ok (.invokevirtual 43, 3) := by decide +kernel
theorem dX2_behind_38 : decode cX2_behind 38 = .ok (.ireturn, 1) := by decide +kernel
theorem dX2_behind_39 : decode cX2_behind 39 = .ok (.aload_n 0, 1) := by decide +kernel
theorem dX2_behind_40 : decode cX2_behind 40 = .ok (.iload_n 1, 1) := by decide +kernel
theorem dX2_behind_41 : decode cX2_behind 41 = .ok (.invokevirtual 111, 3) := by decide +kernel
theorem dX2_behind_44 : decode cX2_behind 44 = .ok (.pop, 1) := by decide +kernel
theorem dX2_behind_45 : decode cX2_behind 45 = .ok (.bipush 7, 2) := by decide +kernel
theorem dX2_behind_47 : decode cX2_behind 47 = .ok (.newarray .int, 2) := by decide +kernel
theorem dX2_behind_49 : decode cX2_behind 49 = .ok (.dup, 1) := by decide +kernel
theorem dX2_behind_50 : decode cX2_behind 50 = .ok (.iconst 0, 1) := by decide +kernel
theorem dX2_behind_51 : decode cX2_behind 51 = .ok (.aload_n 0, 1) := by decide +kernel
theorem dX2_behind_52 : decode cX2_behind 52 = .ok (.getfield 70, 3) := by decide +kernel
theorem dX2_behind_55 : decode cX2_behind 55 = .ok (.iastore, 1) := by decide +kernel
theorem dX2_behind_56 : decode cX2_behind 56 = .ok (.dup, 1) := by decide +kernel
theorem dX2_behind_57 : decode cX2_behind 57 = .ok (.iconst 1, 1) := by decide +kernel
theorem dX2_behind_58 : decode cX2_behind 58 = .ok (.aload_n 0, 1) := by decide +kernel
theorem dX2_behind_59 : decode cX2_behind 59 = .ok (.getfield 80, 3) := by decide +kernel
theorem dX2_behind_62 : decode cX2_behind 62 = .ok (.iastore, 1) := by decide +kernel
theorem dX2_behind_63 : decode cX2_behind 63 = .ok (.dup, 1) := by decide +kernel
theorem dX2_behind_64 : decode cX2_behind 64 = .ok (.iconst 2, 1) := by decide +kernel
theorem dX2_behind_65 : decode cX2_behind 65 = .ok (.aload_n 0, 1) := by decide +kernel
theorem dX2_behind_66 : decode cX2_behind 66 = .ok (.getfield 63, 3) := by decide +kernel
theorem dX2_behind_69 : decode cX2_behind 69 = .ok (.iastore, 1) := by decide +kernel
theorem dX2_behind_70 : decode cX2_behind 70 = .ok (.dup, 1) := by decide +kernel
theorem dX2_behind_71 : decode cX2_behind 71 = .ok (.iconst 3, 1) := by decide +kernel
theorem dX2_behind_72 : decode cX2_behind 72 = .ok (.aload_n 0, 1) := by decide +kernel
theorem dX2_behind_73 : decode cX2_behind 73 = .ok (.getfield 60, 3) := by decide +kernel
theorem dX2_behind_76 : decode cX2_behind 76 = .ok (.iastore, 1) := by decide +kernel
theorem dX2_behind_77 : decode cX2_behind 77 = .ok (.dup, 1) := by decide +kernel
theorem dX2_behind_78 : decode cX2_behind 78 = .ok (.iconst 4, 1) := by decide +kernel
theorem dX2_behind_79 : decode cX2_behind 79 = .ok (.aload_n 0, 1) := by decide +kernel
theorem dX2_behind_80 : decode cX2_behind 80 = .ok (.invokevirtual 117, 3) := by decide +kernel
theorem dX2_behind_83 : decode cX2_behind 83 = .ok (.iastore, 1) := by decide +kernel
theorem dX2_behind_84 : decode cX2_behind 84 = .ok (.dup, 1) := by decide +kernel
theorem dX2_behind_85 : decode cX2_behind 85 = .ok (.iconst 5, 1) := by decide +kernel
theorem dX2_behind_86 : decode cX2_behind 86 = .ok (.aload_n 0, 1) := by decide +kernel
theorem dX2_behind_87 : decode cX2_behind 87 = .ok (.getfield 86, 3) := by decide +kernel
theorem dX2_behind_90 : decode cX2_behind 90 = .ok (.iastore, 1) := by decide +kernel
theorem dX2_behind_91 : decode cX2_behind 91 = .ok (.dup, 1) := by decide +kernel
theorem dX2_behind_92 : decode cX2_behind 92 = .ok (.bipush 6, 2) := by decide +kernel
theorem dX2_behind_94 : decode cX2_behind 94 = .ok (.aload_n 0, 1) := by decide +kernel
theorem dX2_behind_95 : decode cX2_behind 95 = .ok (.getfield 89, 3) := by decide +kernel
theorem dX2_behind_98 : decode cX2_behind 98 = .ok (.iastore, 1) := by decide +kernel
theorem dX2_behind_99 : decode cX2_behind 99 = .ok (.astore_n 3, 1) := by decide +kernel
theorem dX2_behind_100 : decode cX2_behind 100 = .ok (.aload_n 3, 1) := by decide +kernel
theorem dX2_behind_101 : decode cX2_behind 101 = .ok (.iload_n 2, 1) := by decide +kernel
theorem dX2_behind_102 : decode cX2_behind 102 = .ok (.iaload, 1) := by decide +kernel
theorem dX2_behind_103 : decode cX2_behind 103 = .ok (.ireturn, 1) := by decide +kernel
set_option maxRecDepth 20000 in
theorem ggX2_trust_X2_isIn : GoodIn wsX2_trust wsX2_isIn := goodIn_r _ [8] (by decide +kernel) (by decide +kernel)
set_option maxRecDepth 20000 in
theorem gX2_trust_X2_isIn : GoodIn wsX2_trust (va_wsS RX2 39 yX2_isIn wsX2_isIn) := goodIn_app (goodIn_of _ (by decide +kernel)) ggX2_trust_X2_isIn
set_option maxRecDepth 20000 in
theorem ggX2_trust_X2_fail : GoodIn wsX2_trust wsX2_fail := goodIn_r _ [12, 1, 61, 62, 63, 64, 65, 66, 67, 68, 69, 70, 71, 72, 73, 74, 75, 76, 77] (by decide +kernel) (by decide +kernel)
set_option maxRecDepth 20000 in
theorem gX2_trust_X2_fail : GoodIn wsX2_trust (wsV RX2 43 RX2 yX2_fail wsX2_fail) := goodIn_app (goodIn_of _ (by decide +kernel)) ggX2_trust_X2_fail
set_option maxRecDepth 20000 in
theorem ggX2_trust_X2_reckon : GoodIn wsX2_trust wsX2_reckon := goodIn_r _ [16, 17, 18, 19, 3, 20, 21, 22, 23, 24, 25, 26, 27, 28, 29, 30, 31, 7, 32, 33, 34, 35, 36, 37, 38, 39, 4, 40, 41, 42, 43, 44, 45, 46, 47, 48, 49, 50, 51, 52, 53, 54, 55, 56, 57, 58, 59, 60, 61, 62, 63, 64, 65, 66, 67, 68, 69, 70, 71, 72, 73, 74, 75, 76, 77] (by decide +kernel) (by decide +kernel)
set_option maxRecDepth 20000 in
theorem gX2_trust_X2_reckon : GoodIn wsX2_trust (wsV RX2 111 RX2 yX2_reckon wsX2_reckon) := goodIn_app (goodIn_of _ (by decide +kernel)) ggX2_trust_X2_reckon
theorem dX2_trust_0 : decode cX2_trust 0 = .ok (.aload_n 0, 1) := by decide +kernel
theorem dX2_trust_1 : decode cX2_trust 1 = .ok (.iconst 0, 1) := by decide +kernel
theorem dX2_trust_2 : decode cX2_trust 2 = .ok (.putfield 32, 3) := by decide +kernel
theorem dX2_trust_5 : decode cX2_trust 5 = .ok (.iload_n 1, 1) := by decide +kernel
theorem dX2_trust_6 : decode cX2_trust 6 = .ok (.iconst 0, 1) := by decide +kernel
theorem dX2_trust_7 : decode cX2_trust 7 = .ok (.iconst 5, 1) := by decide +kernel
theorem dX2_trust_8 : decode cX2_trust 8 = .ok (.invokestatic 39, 3) := by decide +kernel
theorem dX2_trust_11 : decode cX2_trust 11 = .ok (.ifCond .ne 9, 3) := by decide +kernel
theorem dX2_trust_14 : decode cX2_trust 14 = .ok (.aload_n 0, 1) := by decide +kernel
theorem dX2_trust_15 : decode cX2_trust 15 = .ok (.iconst 1, 1) := by decide +kernel
theorem dX2_trust_16 : decode cX2_trust 16 = .ok (.invokevirtual 43, 3) := by decide +kernel
theorem dX2_trust_19 : decode cX2_trust 19 = .ok (.ireturn, 1) := by decide +kernel
theorem dX2_trust_20 : decode cX2_trust 20 = .ok (.iload_n 2, 1) := by decide +kernel
theorem dX2_trust_21 : decode cX2_trust 21 = .ok (.iconst 0, 1) := by decide +kernel
theorem dX2_trust_22 : decode cX2_trust 22 = .ok (.aload_n 0, 1) := by decide +kernel
theorem dX2_trust_23 : decode cX2_trust 23 = .ok (.getfield 36, 3) := by decide +kernel
theorem dX2_trust_26 : decode cX2_trust 26 = .ok (.invokestatic 39, 3) := by decide +kernel
theorem dX2_trust_29 : decode cX2_trust 29 = .ok (.ifCond .ne 9, 3) := by decide +kernel
theorem dX2_trust_32 : decode cX2_trust 32 = .ok (.aload_n 0, 1) := by decide +kernel
theorem dX2_trust_33 : decode cX2_trust 33 = .ok (.iconst 2, 1) := by decide +kernel
theorem dX2_trust_34 : decode cX2_trust 34 = .ok (.invokevirtual 43, 3) := by decide +kernel
theorem dX2_trust_37 : decode cX2_trust 37 = .ok (.ireturn, 1) := by decide +kernel
theorem dX2_trust_38 : decode cX2_trust 38 = .ok (.aload_n 0, 1) := by decide +kernel
theorem dX2_trust_39 : decode cX2_trust 39 = .ok (.iload_n 2, 1) := by decide +kernel
theorem dX2_trust_40 : decode cX2_trust 40 = .ok (.invokevirtual 111, 3) := by decide +kernel
theorem dX2_trust_43 : decode cX2_trust 43 = .ok (.pop, 1) := by decide +kernel
theorem dX2_trust_44 : decode cX2_trust 44 = .ok (.iload_n 1, 1) := by decide +kernel
theorem dX2_trust_45 : decode cX2_trust 45 = .ok (.aload_n 0, 1) := by decide +kernel
theorem dX2_trust_46 : decode cX2_trust 46 = .ok (.getfield 60, 3) := by decide +kernel
theorem dX2_trust_49 : decode cX2_trust 49 = .ok (.if_icmp .ge 12, 3) := by decide +kernel
theorem dX2_trust_52 : decode cX2_trust 52 = .ok (.aload_n 0, 1) := by decide +kernel
theorem dX2_trust_53 : decode cX2_trust 53 = .ok (.getfield 29, 3) := by decide +kernel
theorem dX2_trust_56 : decode cX2_trust 56 = .ok (.iload_n 1, 1) := by decide +kernel
theorem dX2_trust_57 : decode cX2_trust 57 = .ok (.iaload, 1) := by decide +kernel
theorem dX2_trust_58 : decode cX2_trust 58 = .ok (.goto 4, 3) := by decide +kernel
theorem dX2_trust_61 : decode cX2_trust 61 = .ok (.iconst (-1), 1) := by decide +kernel
theorem dX2_trust_62 : decode cX2_trust 62 = .ok (.ireturn, 1) := by decide +kernel
set_option maxRecDepth 20000 in
theorem ggX2_counted_X2_reckon : GoodIn wsX2_counted wsX2_reckon := goodIn_r _ [11, 4, 12, 13, 14, 3, 15, 5, 6, 2, 16, 17, 18, 19, 20, 21, 22, 10, 23, 24, 25, 26, 27, 28, 29, 30, 31, 32, 33, 34, 35, 36, 37, 38, 39, 40, 41, 42, 43, 44, 45, 46, 47, 48, 49, 50, 51, 52, 53, 54, 55, 56, 57, 58, 59, 60, 61, 62, 63, 64, 65, 66, 67, 68, 69] (by decide +kernel) (by decide +kernel)
set_option maxRecDepth 20000 in
theorem gX2_counted_X2_reckon : GoodIn wsX2_counted (wsV RX2 111 RX2 yX2_reckon wsX2_reckon) := goodIn_app (goodIn_of _ (by decide +kernel)) ggX2_counted_X2_reckon
theorem dX2_counted_0 : decode cX2_counted 0 = .ok (.iconst 0, 1) := by decide +kernel
theorem dX2_counted_1 : decode cX2_counted 1 = .ok (.istore_n 2, 1) := by decide +kernel
theorem dX2_counted_2 : decode cX2_counted 2 = .ok (.aload_n 0, 1) := by decide +kernel
theorem dX2_counted_3 : decode cX2_counted 3 = .ok (.aload_n 0, 1) := by decide +kernel
theorem dX2_counted_4 : decode cX2_counted 4 = .ok (.getfield 36, 3) := by decide +kernel
theorem dX2_counted_7 : decode cX2_counted 7 = .ok (.invokevirtual 111, 3) := by decide +kernel
theorem dX2_counted_10 : decode cX2_counted 10 = .ok (.pop, 1) := by decide +kernel
theorem dX2_counted_11 : decode cX2_counted 11 = .ok (.iload_n 1, 1) := by decide +kernel
theorem dX2_counted_12 : decode cX2_counted 12 = .ok (.tableswitch 91 0 4 #[36, 41, 76, 81, 86], 36) := by decide +kernel
theorem dX2_counted_48 : decode cX2_counted 48 = .ok (.aload_n 0, 1) := by decide +kernel
theorem dX2_counted_49 : decode cX2_counted 49 = .ok (.getfield 36, 3) := by decide +kernel
theorem dX2_counted_52 : decode cX2_counted 52 = .ok (.ireturn, 1) := by decide +kernel
theorem dX2_counted_53 : decode cX2_counted 53 = .ok (.iconst 0, 1) := by decide +kernel
theorem dX2_counted_54 : decode cX2_counted 54 = .ok (.istore_n 3, 1) := by decide +kernel
theorem dX2_counted_55 : decode cX2_counted 55 = .ok (.iload_n 3, 1) := by decide +kernel
theorem dX2_counted_56 : decode cX2_counted 56 = .ok (.aload_n 0, 1) := by decide +kernel
theorem dX2_counted_57 : decode cX2_counted 57 = .ok (.getfield 36, 3) := by decide +kernel
theorem dX2_counted_60 : decode cX2_counted 60 = .ok (.if_icmp .ge 26, 3) := by decide +kernel
theorem dX2_counted_63 : decode cX2_counted 63 = .ok (.iload_n 2, 1) := by decide +kernel
theorem dX2_counted_64 : decode cX2_counted 64 = .ok (.aload_n 0, 1) := by decide +kernel
theorem dX2_counted_65 : decode cX2_counted 65 = .ok (.getfield 25, 3) := by decide +kernel
theorem dX2_counted_68 : decode cX2_counted 68 = .ok (.iload_n 3, 1) := by decide +kernel
theorem dX2_counted_69 : decode cX2_counted 69 = .ok (.baload, 1) := by decide +kernel
theorem dX2_counted_70 : decode cX2_counted 70 = .ok (.ifCond .eq 7, 3) := by decide +kernel
theorem dX2_counted_73 : decode cX2_counted 73 = .ok (.iconst 1, 1) := by decide +kernel
theorem dX2_counted_74 : decode cX2_counted 74 = .ok (.goto 4, 3) := by decide +kernel
theorem dX2_counted_77 : decode cX2_counted 77 = .ok (.iconst 0, 1) := by decide +kernel
theorem dX2_counted_78 : decode cX2_counted 78 = .ok (.iadd, 1) := by decide +kernel
theorem dX2_counted_79 : decode cX2_counted 79 = .ok (.istore_n 2, 1) := by decide +kernel
theorem dX2_counted_80 : decode cX2_counted 80 = .ok (.iinc 3 1, 3) := by decide +kernel
theorem dX2_counted_83 : decode cX2_counted 83 = .ok (.goto (-28), 3) := by decide +kernel
theorem dX2_counted_86 : decode cX2_counted 86 = .ok (.iload_n 2, 1) := by decide +kernel
theorem dX2_counted_87 : decode cX2_counted 87 = .ok (.ireturn, 1) := by decide +kernel
theorem dX2_counted_88 : decode cX2_counted 88 = .ok (.aload_n 0, 1) := by decide +kernel
theorem dX2_counted_89 : decode cX2_counted 89 = .ok (.getfield 86, 3) := by decide +kernel
theorem dX2_counted_92 : decode cX2_counted 92 = .ok (.ireturn, 1) := by decide +kernel
theorem dX2_counted_93 : decode cX2_counted 93 = .ok (.aload_n 0, 1) := by decide +kernel
theorem dX2_counted_94 : decode cX2_counted 94 = .ok (.getfield 70, 3) := by decide +kernel
theorem dX2_counted_97 : decode cX2_counted 97 = .ok (.ireturn, 1) := by decide +kernel
theorem dX2_counted_98 : decode cX2_counted 98 = .ok (.aload_n 0, 1) := by decide +kernel
theorem dX2_counted_99 : decode cX2_counted 99 = .ok (.getfield 92, 3) := by decide +kernel
theorem dX2_counted_102 : decode cX2_counted 102 = .ok (.ireturn, 1) := by decide +kernel
theorem dX2_counted_103 : decode cX2_counted 103 = .ok (.aload_n 0, 1) := by decide +kernel
theorem dX2_counted_104 : decode cX2_counted 104 = .ok (.getfield 95, 3) := by decide +kernel
theorem dX2_counted_107 : decode cX2_counted 107 = .ok (.ireturn, 1) := by decide +kernel
set_option maxRecDepth 20000 in
theorem ggX2_count_X2_isIn : GoodIn wsX2_count wsX2_isIn := goodIn_r _ [5] (by decide +kernel) (by decide +kernel)
set_option maxRecDepth 20000 in
theorem gX2_count_X2_isIn : GoodIn wsX2_count (va_wsS RX2 39 yX2_isIn wsX2_isIn) := goodIn_app (goodIn_of _ (by decide +kernel)) ggX2_count_X2_isIn
set_option maxRecDepth 20000 in
theorem ggX2_count_X2_counted : GoodIn wsX2_count wsX2_counted := goodIn_r _ [9, 10, 11, 12, 13, 14, 15, 16, 17, 18, 4, 19, 20, 21, 22, 23, 24, 25, 26, 27, 28, 29, 30, 31, 32, 33, 34, 35, 36, 37, 38, 39, 40, 41, 42, 43, 44, 45, 46, 47, 48, 49, 50, 51, 52, 53, 54, 55, 56, 57, 58, 59, 60, 65, 66, 67, 68, 69, 70, 71, 72, 73, 74, 75, 76, 77, 78, 79, 80, 81] (by decide +kernel) (by decide +kernel)
set_option maxRecDepth 20000 in
theorem gX2_count_X2_counted : GoodIn wsX2_count (wsV RX2 121 RX2 yX2_counted wsX2_counted) := goodIn_app (goodIn_of _ (by decide +kernel)) ggX2_count_X2_counted
set_option maxRecDepth 20000 in
theorem ggX2_count_X2_fail : GoodIn wsX2_count wsX2_fail := goodIn_r _ [64, 1, 65, 66, 67, 68, 69, 70, 71, 72, 73, 74, 75, 76, 77, 78, 79, 80, 81] (by decide +kernel) (by decide +kernel)
set_option maxRecDepth 20000 in
theorem gX2_count_X2_fail : GoodIn wsX2_count (wsV RX2 43 RX2 yX2_fail wsX2_fail) := goodIn_app (goodIn_of _ (by decide +kernel)) ggX2_count_X2_fail
theorem dX2_count_0 : decode cX2_count 0 = .ok (.aload_n 0, 1) := by decide +kernel
theorem dX2_count_1 : decode cX2_count 1 = .ok (.iconst 0, 1) := by decide +kernel
theorem dX2_count_2 : decode cX2_count 2 = .ok (.putfield 32, 3) := by decide +kernel
theorem dX2_count_5 : decode cX2_count 5 = .ok (.iload_n 1, 1) := by decide +kernel
theorem dX2_count_6 : decode cX2_count 6 = .ok (.iconst 0, 1) := by decide +kernel
theorem dX2_count_7 : decode cX2_count 7 = .ok (.iconst 5, 1) := by decide +kernel
theorem dX2_count_8 : decode cX2_count 8 = .ok (.invokestatic 39, 3) := by decide +kernel
theorem dX2_count_11 : decode cX2_count 11 = .ok (.ifCond .eq 11, 3) := by decide +kernel
theorem dX2_count_14 : decode cX2_count 14 = .ok (.aload_n 0, 1) := by decide +kernel
theorem dX2_count_15 : decode cX2_count 15 = .ok (.iload_n 1, 1) := by decide +kernel
theorem dX2_count_16 : decode cX2_count 16 = .ok (.invokevirtual 121, 3) := by decide +kernel
theorem dX2_count_19 : decode cX2_count 19 = .ok (.goto 8, 3) := by decide +kernel
theorem dX2_count_22 : decode cX2_count 22 = .ok (.aload_n 0, 1) := by decide +kernel
theorem dX2_count_23 : decode cX2_count 23 = .ok (.iconst 1, 1) := by decide +kernel
theorem dX2_count_24 : decode cX2_count 24 = .ok (.invokevirtual 43, 3) := by decide +kernel
theorem dX2_count_27 : decode cX2_count 27 = .ok (.ireturn, 1) := by decide +kernel
set_option maxRecDepth 20000 in
theorem ggX2_coinsNow_X2_reckon : GoodIn wsX2_coinsNow wsX2_reckon := goodIn_r _ [7, 2, 8, 9, 10, 11, 12, 13, 14, 15, 16, 17, 18, 19, 20, 21, 22, 6, 23, 24, 25, 26, 27, 28, 29, 30, 31, 32, 33, 34, 35, 36, 37, 38, 39, 40, 41, 42, 43, 44, 45, 46, 47, 48, 49, 50, 51, 52, 53, 54, 55, 56, 57, 58, 59, 60, 61, 62, 63, 64, 65, 66, 67, 68, 69] (by decide +kernel) (by decide +kernel)
set_option maxRecDepth 20000 in
theorem gX2_coinsNow_X2_reckon : GoodIn wsX2_coinsNow (wsV RX2 111 RX2 yX2_reckon wsX2_reckon) := goodIn_app (goodIn_of _ (by decide +kernel)) ggX2_coinsNow_X2_reckon
theorem dX2_coinsNow_0 : decode cX2_coinsNow 0 = .ok (.aload_n 0, 1) := by decide +kernel
theorem dX2_coinsNow_1 : decode cX2_coinsNow 1 = .ok (.aload_n 0, 1) := by decide +kernel
theorem dX2_coinsNow_2 : decode cX2_coinsNow 2 = .ok (.getfield 36, 3) := by decide +kernel
theorem dX2_coinsNow_5 : decode cX2_coinsNow 5 = .ok (.invokevirtual 111, 3) := by decide +kernel
theorem dX2_coinsNow_8 : decode cX2_coinsNow 8 = .ok (.pop, 1) := by decide +kernel
theorem dX2_coinsNow_9 : decode cX2_coinsNow 9 = .ok (.aload_n 0, 1) := by decide +kernel
theorem dX2_coinsNow_10 : decode cX2_coinsNow 10 = .ok (.getfield 70, 3) := by decide +kernel
theorem dX2_coinsNow_13 : decode cX2_coinsNow 13 = .ok (.ireturn, 1) := by decide +kernel
set_option maxRecDepth 20000 in
theorem ggX2_coinsOther_X2_coinsNow : GoodIn wsX2_coinsOther wsX2_coinsNow := goodIn_r _ [6, 7, 8, 9, 10, 11, 5, 12, 13, 14, 15, 16, 17, 18, 19, 1, 20, 21, 22, 23, 24, 25, 26, 27, 28, 29, 30, 31, 32, 33, 34, 35, 36, 37, 38, 39, 40, 41, 42, 43, 44, 45, 46, 47, 48, 49, 50, 51, 52, 53, 54, 55, 56, 57, 58, 59, 60, 61, 62, 63, 64, 65, 66, 67, 68, 69, 70, 71, 72, 73] (by decide +kernel) (by decide +kernel)
set_option maxRecDepth 20000 in
theorem gX2_coinsOther_X2_coinsNow : GoodIn wsX2_coinsOther (wsV RX2 124 RX2 yX2_coinsNow wsX2_coinsNow) := goodIn_app (goodIn_of _ (by decide +kernel)) ggX2_coinsOther_X2_coinsNow
theorem dX2_coinsOther_0 : decode cX2_coinsOther 0 = .ok (.aload_n 0, 1) := by decide +kernel
theorem dX2_coinsOther_1 : decode cX2_coinsOther 1 = .ok (.getfield 25, 3) := by decide +kernel
theorem dX2_coinsOther_4 : decode cX2_coinsOther 4 = .ok (.iload_n 1, 1) := by decide +kernel
theorem dX2_coinsOther_5 : decode cX2_coinsOther 5 = .ok (.aload_n 0, 1) := by decide +kernel
theorem dX2_coinsOther_6 : decode cX2_coinsOther 6 = .ok (.getfield 25, 3) := by decide +kernel
theorem dX2_coinsOther_9 : decode cX2_coinsOther 9 = .ok (.iload_n 1, 1) := by decide +kernel
theorem dX2_coinsOther_10 : decode cX2_coinsOther 10 = .ok (.baload, 1) := by decide +kernel
theorem dX2_coinsOther_11 : decode cX2_coinsOther 11 = .ok (.ifCond .ne 7, 3) := by decide +kernel
theorem dX2_coinsOther_14 : decode cX2_coinsOther 14 = .ok (.iconst 1, 1) := by decide +kernel
theorem dX2_coinsOther_15 : decode cX2_coinsOther 15 = .ok (.goto 4, 3) := by decide +kernel
theorem dX2_coinsOther_18 : decode cX2_coinsOther 18 = .ok (.iconst 0, 1) := by decide +kernel
theorem dX2_coinsOther_19 : decode cX2_coinsOther 19 = .ok (.bastore, 1) := by decide +kernel
theorem dX2_coinsOther_20 : decode cX2_coinsOther 20 = .ok (.aload_n 0, 1) := by decide +kernel
theorem dX2_coinsOther_21 : decode cX2_coinsOther 21 = .ok (.invokevirtual 124, 3) := by decide +kernel
theorem dX2_coinsOther_24 : decode cX2_coinsOther 24 = .ok (.istore_n 2, 1) := by decide +kernel
theorem dX2_coinsOther_25 : decode cX2_coinsOther 25 = .ok (.aload_n 0, 1) := by decide +kernel
theorem dX2_coinsOther_26 : decode cX2_coinsOther 26 = .ok (.getfield 25, 3) := by decide +kernel
theorem dX2_coinsOther_29 : decode cX2_coinsOther 29 = .ok (.iload_n 1, 1) := by decide +kernel
theorem dX2_coinsOther_30 : decode cX2_coinsOther 30 = .ok (.aload_n 0, 1) := by decide +kernel
theorem dX2_coinsOther_31 : decode cX2_coinsOther 31 = .ok (.getfield 25, 3) := by decide +kernel
theorem dX2_coinsOther_34 : decode cX2_coinsOther 34 = .ok (.iload_n 1, 1) := by decide +kernel
theorem dX2_coinsOther_35 : decode cX2_coinsOther 35 = .ok (.baload, 1) := by decide +kernel
theorem dX2_coinsOther_36 : decode cX2_coinsOther 36 = .ok (.ifCond .ne 7, 3) := by decide +kernel
theorem dX2_coinsOther_39 : decode cX2_coinsOther 39 = .ok (.iconst 1, 1) := by decide +kernel
theorem dX2_coinsOther_40 : decode cX2_coinsOther 40 = .ok (.goto 4, 3) := by decide +kernel
theorem dX2_coinsOther_43 : decode cX2_coinsOther 43 = .ok (.iconst 0, 1) := by decide +kernel
theorem dX2_coinsOther_44 : decode cX2_coinsOther 44 = .ok (.bastore, 1) := by decide +kernel
theorem dX2_coinsOther_45 : decode cX2_coinsOther 45 = .ok (.iload_n 2, 1) := by decide +kernel
theorem dX2_coinsOther_46 : decode cX2_coinsOther 46 = .ok (.ireturn, 1) := by decide +kernel
set_option maxRecDepth 20000 in
theorem ggX2_worth_X2_isEntry : GoodIn wsX2_worth wsX2_isEntry := goodIn_r _ [6, 7, 8, 9, 5, 10, 73, 74, 75, 76, 77, 78, 79, 80, 81, 82, 83, 84, 85, 86, 87, 88, 89] (by decide +kernel) (by decide +kernel)
set_option maxRecDepth 20000 in
theorem gX2_worth_X2_isEntry : GoodIn wsX2_worth (wsV RX2 105 RX2 yX2_isEntry wsX2_isEntry) := goodIn_app (goodIn_of _ (by decide +kernel)) ggX2_worth_X2_isEntry
set_option maxRecDepth 20000 in
theorem ggX2_worth_X2_coinsNow : GoodIn wsX2_worth wsX2_coinsNow := goodIn_r _ [14, 7, 15, 16, 17, 18, 5, 19, 20, 21, 22, 23, 24, 25, 26, 27, 28, 29, 30, 31, 32, 33, 34, 35, 36, 37, 38, 39, 40, 41, 42, 43, 44, 45, 46, 47, 48, 49, 50, 51, 52, 53, 54, 55, 56, 57, 58, 59, 60, 61, 62, 63, 64, 73, 74, 75, 76, 77, 78, 79, 80, 81, 82, 83, 84, 85, 86, 87, 88, 89] (by decide +kernel) (by decide +kernel)
set_option maxRecDepth 20000 in
theorem gX2_worth_X2_coinsNow : GoodIn wsX2_worth (wsV RX2 124 RX2 yX2_coinsNow wsX2_coinsNow) := goodIn_app (goodIn_of _ (by decide +kernel)) ggX2_worth_X2_coinsNow
set_option maxRecDepth 20000 in
theorem ggX2_worth_X2_coinsOther : GoodIn wsX2_worth wsX2_coinsOther := goodIn_r _ [68, 27, 11, 12, 13, 5, 14, 7, 15, 16, 17, 18, 19, 20, 21, 22, 23, 24, 25, 26, 28, 29, 30, 31, 32, 33, 34, 35, 36, 37, 38, 39, 40, 41, 42, 43, 44, 45, 46, 47, 48, 49, 50, 51, 52, 53, 54, 55, 56, 57, 58, 59, 60, 61, 62, 63, 64, 73, 74, 75, 76, 77, 78, 79, 80, 81, 82, 83, 84, 85, 86, 87, 88, 89] (by decide +kernel) (by decide +kernel)
set_option maxRecDepth 20000 in
theorem gX2_worth_X2_coinsOther : GoodIn wsX2_worth (wsV RX2 127 RX2 yX2_coinsOther wsX2_coinsOther) := goodIn_app (goodIn_of _ (by decide +kernel)) ggX2_worth_X2_coinsOther
set_option maxRecDepth 20000 in
theorem ggX2_worth_X2_fail : GoodIn wsX2_worth wsX2_fail := goodIn_r _ [72, 1, 73, 74, 75, 76, 77, 78, 79, 80, 81, 82, 83, 84, 85, 86, 87, 88, 89] (by decide +kernel) (by decide +kernel)
set_option maxRecDepth 20000 in
theorem gX2_worth_X2_fail : GoodIn wsX2_worth (wsV RX2 43 RX2 yX2_fail wsX2_fail) := goodIn_app (goodIn_of _ (by decide +kernel)) ggX2_worth_X2_fail
theorem dX2_worth_0 : decode cX2_worth 0 = .ok (.aload_n 0, 1) := by decide +kernel
theorem dX2_worth_1 : decode cX2_worth 1 = .ok (.iconst 0, 1) := by decide +kernel
theorem dX2_worth_2 : decode cX2_worth 2 = .ok (.putfield 32, 3) := by decide +kernel
theorem dX2_worth_5 : decode cX2_worth 5 = .ok (.aload_n 0, 1) := by decide +kernel
theorem dX2_worth_6 : decode cX2_worth 6 = .ok (.iload_n 1, 1) := by decide +kernel
theorem dX2_worth_7 : decode cX2_worth 7 = .ok (.invokevirtual 105, 3) := by decide +kernel
theorem dX2_worth_10 : decode cX2_worth 10 = .ok (.ifCond .eq 16, 3) := by decide +kernel
theorem dX2_worth_13 : decode cX2_worth 13 = .ok (.aload_n 0, 1) := by decide +kernel
theorem dX2_worth_14 : decode cX2_worth 14 = .ok (.invokevirtual 124, 3) := by decide +kernel
theorem dX2_worth_17 : decode cX2_worth 17 = .ok (.aload_n 0, 1) := by decide +kernel
theorem dX2_worth_18 : decode cX2_worth 18 = .ok (.iload_n 1, 1) := by decide +kernel
theorem dX2_worth_19 : decode cX2_worth 19 = .ok (.invokevirtual 127, 3) := by decide +kernel
theorem dX2_worth_22 : decode cX2_worth 22 = .ok (.isub, 1) := by decide +kernel
theorem dX2_worth_23 : decode cX2_worth 23 = .ok (.goto 8, 3) := by decide +kernel
theorem dX2_worth_26 : decode cX2_worth 26 = .ok (.aload_n 0, 1) := by decide +kernel
theorem dX2_worth_27 : decode cX2_worth 27 = .ok (.iconst 1, 1) := by decide +kernel
theorem dX2_worth_28 : decode cX2_worth 28 = .ok (.invokevirtual 43, 3) := by decide +kernel
theorem dX2_worth_31 : decode cX2_worth 31 = .ok (.ireturn, 1) := by decide +kernel
set_option maxRecDepth 20000 in
theorem ggX2_best_X2_coinsNow : GoodIn wsX2_best wsX2_coinsNow := goodIn_r _ [8, 2, 9, 10, 11, 12, 7, 13, 14, 15, 16, 17, 18, 19, 20, 3, 21, 22, 23, 24, 25, 26, 27, 28, 29, 30, 31, 32, 33, 34, 35, 36, 37, 38, 39, 40, 41, 42, 43, 44, 45, 46, 47, 48, 49, 50, 51, 52, 53, 54, 55, 56, 57, 62, 63, 64, 65, 66, 67, 68, 69, 70, 71, 72, 73, 74, 75, 76, 77, 78] (by decide +kernel) (by decide +kernel)
set_option maxRecDepth 20000 in
theorem gX2_best_X2_coinsNow : GoodIn wsX2_best (wsV RX2 124 RX2 yX2_coinsNow wsX2_coinsNow) := goodIn_app (goodIn_of _ (by decide +kernel)) ggX2_best_X2_coinsNow
set_option maxRecDepth 20000 in
theorem ggX2_best_X2_coinsOther : GoodIn wsX2_best wsX2_coinsOther := goodIn_r _ [61, 3, 4, 5, 6, 7, 8, 2, 9, 10, 11, 12, 13, 14, 15, 16, 17, 18, 19, 20, 21, 22, 23, 24, 25, 26, 27, 28, 29, 30, 31, 32, 33, 34, 35, 36, 37, 38, 39, 40, 41, 42, 43, 44, 45, 46, 47, 48, 49, 50, 51, 52, 53, 54, 55, 56, 57, 62, 63, 64, 65, 66, 67, 68, 69, 70, 71, 72, 73, 74, 75, 76, 77, 78] (by decide +kernel) (by decide +kernel)
set_option maxRecDepth 20000 in
theorem gX2_best_X2_coinsOther : GoodIn wsX2_best (wsV RX2 127 RX2 yX2_coinsOther wsX2_coinsOther) := goodIn_app (goodIn_of _ (by decide +kernel)) ggX2_best_X2_coinsOther
theorem dX2_best_0 : decode cX2_best 0 = .ok (.aload_n 0, 1) := by decide +kernel
theorem dX2_best_1 : decode cX2_best 1 = .ok (.iconst 0, 1) := by decide +kernel
theorem dX2_best_2 : decode cX2_best 2 = .ok (.putfield 32, 3) := by decide +kernel
theorem dX2_best_5 : decode cX2_best 5 = .ok (.iconst (-1), 1) := by decide +kernel
theorem dX2_best_6 : decode cX2_best 6 = .ok (.istore_n 1, 1) := by decide +kernel
theorem dX2_best_7 : decode cX2_best 7 = .ok (.aload_n 0, 1) := by decide +kernel
theorem dX2_best_8 : decode cX2_best 8 = .ok (.invokevirtual 124, 3) := by decide +kernel
theorem dX2_best_11 : decode cX2_best 11 = .ok (.istore_n 2, 1) := by decide +kernel
theorem dX2_best_12 : decode cX2_best 12 = .ok (.iconst 0, 1) := by decide +kernel
theorem dX2_best_13 : decode cX2_best 13 = .ok (.istore_n 3, 1) := by decide +kernel
theorem dX2_best_14 : decode cX2_best 14 = .ok (.iload_n 3, 1) := by decide +kernel
theorem dX2_best_15 : decode cX2_best 15 = .ok (.aload_n 0, 1) := by decide +kernel
theorem dX2_best_16 : decode cX2_best 16 = .ok (.getfield 36, 3) := by decide +kernel
theorem dX2_best_19 : decode cX2_best 19 = .ok (.if_icmp .ge 42, 3) := by decide +kernel
theorem dX2_best_22 : decode cX2_best 22 = .ok (.aload_n 0, 1) := by decide +kernel
theorem dX2_best_23 : decode cX2_best 23 = .ok (.getfield 25, 3) := by decide +kernel
theorem dX2_best_26 : decode cX2_best 26 = .ok (.iload_n 3, 1) := by decide +kernel
theorem dX2_best_27 : decode cX2_best 27 = .ok (.baload, 1) := by decide +kernel
theorem dX2_best_28 : decode cX2_best 28 = .ok (.ifCond .eq 6, 3) := by decide +kernel
theorem dX2_best_31 : decode cX2_best 31 = .ok (.goto 24, 3) := by decide +kernel
theorem dX2_best_34 : decode cX2_best 34 = .ok (.aload_n 0, 1) := by decide +kernel
theorem dX2_best_35 : decode cX2_best 35 = .ok (.iload_n 3, 1) := by decide +kernel
theorem dX2_best_36 : decode cX2_best 36 = .ok (.invokevirtual 127, 3) := by decide +kernel
theorem dX2_best_39 : decode cX2_best 39 = .ok (.istore 4, 2) := by decide +kernel
theorem dX2_best_41 : decode cX2_best 41 = .ok (.iload 4, 2) := by decide +kernel
theorem dX2_best_43 : decode cX2_best 43 = .ok (.iload_n 2, 1) := by decide +kernel
theorem dX2_best_44 : decode cX2_best 44 = .ok (.if_icmp .gt 6, 3) := by decide +kernel
theorem dX2_best_47 : decode cX2_best 47 = .ok (.goto 8, 3) := by decide +kernel
theorem dX2_best_50 : decode cX2_best 50 = .ok (.iload_n 3, 1) := by decide +kernel
theorem dX2_best_51 : decode cX2_best 51 = .ok (.istore_n 1, 1) := by decide +kernel
theorem dX2_best_52 : decode cX2_best 52 = .ok (.iload 4, 2) := by decide +kernel
theorem dX2_best_54 : decode cX2_best 54 = .ok (.istore_n 2, 1) := by decide +kernel
theorem dX2_best_55 : decode cX2_best 55 = .ok (.iinc 3 1, 3) := by decide +kernel
theorem dX2_best_58 : decode cX2_best 58 = .ok (.goto (-44), 3) := by decide +kernel
theorem dX2_best_61 : decode cX2_best 61 = .ok (.iload_n 1, 1) := by decide +kernel
theorem dX2_best_62 : decode cX2_best 62 = .ok (.ireturn, 1) := by decide +kernel
set_option maxRecDepth 20000 in
theorem ggX2_would_X2_isIn : GoodIn wsX2_would wsX2_isIn := goodIn_r _ [6] (by decide +kernel) (by decide +kernel)
set_option maxRecDepth 20000 in
theorem gX2_would_X2_isIn : GoodIn wsX2_would (va_wsS RX2 39 yX2_isIn wsX2_isIn) := goodIn_app (goodIn_of _ (by decide +kernel)) ggX2_would_X2_isIn
set_option maxRecDepth 20000 in
theorem ggX2_would_X2_fail : GoodIn wsX2_would wsX2_fail := goodIn_r _ [10, 1, 61, 62, 63, 64, 65, 66, 67, 68, 69, 70, 71, 72, 73, 74, 75, 76, 77] (by decide +kernel) (by decide +kernel)
set_option maxRecDepth 20000 in
theorem gX2_would_X2_fail : GoodIn wsX2_would (wsV RX2 43 RX2 yX2_fail wsX2_fail) := goodIn_app (goodIn_of _ (by decide +kernel)) ggX2_would_X2_fail
set_option maxRecDepth 20000 in
theorem ggX2_would_X2_reckon : GoodIn wsX2_would wsX2_reckon := goodIn_r _ [14, 15, 16, 17, 18, 19, 20, 21, 22, 23, 24, 25, 26, 27, 28, 29, 30, 5, 31, 32, 33, 34, 35, 36, 37, 38, 39, 40, 41, 42, 43, 44, 45, 46, 47, 48, 49, 50, 51, 52, 53, 54, 55, 56, 57, 58, 59, 60, 61, 62, 63, 64, 65, 66, 67, 68, 69, 70, 71, 72, 73, 74, 75, 76, 77] (by decide +kernel) (by decide +kernel)
set_option maxRecDepth 20000 in
theorem gX2_would_X2_reckon : GoodIn wsX2_would (wsV RX2 111 RX2 yX2_reckon wsX2_reckon) := goodIn_app (goodIn_of _ (by decide +kernel)) ggX2_would_X2_reckon
set_option maxRecDepth 20000 in
theorem ggX2_would_X2_canToss : GoodIn wsX2_would wsX2_canToss := goodIn_r _ [38, 18, 39, 40, 17, 61, 62, 63, 64, 65, 66, 67, 68, 69, 70, 71, 72, 73, 74, 75, 76, 77] (by decide +kernel) (by decide +kernel)
set_option maxRecDepth 20000 in
theorem gX2_would_X2_canToss : GoodIn wsX2_would (wsV RX2 66 RX2 yX2_canToss wsX2_canToss) := goodIn_app (goodIn_of _ (by decide +kernel)) ggX2_would_X2_canToss
set_option maxRecDepth 20000 in
theorem ggX2_would_X2_brings : GoodIn wsX2_would wsX2_brings := goodIn_r _ [55, 56, 17, 61, 62, 63, 64, 65, 66, 67, 68, 69, 70, 71, 72, 73, 74, 75, 76, 77] (by decide +kernel) (by decide +kernel)
set_option maxRecDepth 20000 in
theorem gX2_would_X2_brings : GoodIn wsX2_would (wsV RX2 73 RX2 yX2_brings wsX2_brings) := goodIn_app (goodIn_of _ (by decide +kernel)) ggX2_would_X2_brings
theorem dX2_would_0 : decode cX2_would 0 = .ok (.aload_n 0, 1) := by decide +kernel
theorem dX2_would_1 : decode cX2_would 1 = .ok (.iconst 0, 1) := by decide +kernel
theorem dX2_would_2 : decode cX2_would 2 = .ok (.putfield 32, 3) := by decide +kernel
theorem dX2_would_5 : decode cX2_would 5 = .ok (.iload_n 1, 1) := by decide +kernel
theorem dX2_would_6 : decode cX2_would 6 = .ok (.iconst 0, 1) := by decide +kernel
theorem dX2_would_7 : decode cX2_would 7 = .ok (.iconst 5, 1) := by decide +kernel
theorem dX2_would_8 : decode cX2_would 8 = .ok (.invokestatic 39, 3) := by decide +kernel
theorem dX2_would_11 : decode cX2_would 11 = .ok (.ifCond .ne 9, 3) := by decide +kernel
theorem dX2_would_14 : decode cX2_would 14 = .ok (.aload_n 0, 1) := by decide +kernel
theorem dX2_would_15 : decode cX2_would 15 = .ok (.iconst 1, 1) := by decide +kernel
theorem dX2_would_16 : decode cX2_would 16 = .ok (.invokevirtual 43, 3) := by decide +kernel
theorem dX2_would_19 : decode cX2_would 19 = .ok (.ireturn, 1) := by decide +kernel
theorem dX2_would_20 : decode cX2_would 20 = .ok (.iload_n 2, 1) := by decide +kernel
theorem dX2_would_21 : decode cX2_would 21 = .ok (.iconst 0, 1) := by decide +kernel
theorem dX2_would_22 : decode cX2_would 22 = .ok (.bipush 20, 2) := by decide +kernel
theorem dX2_would_24 : decode cX2_would 24 = .ok (.invokestatic 39, 3) := by decide +kernel
theorem dX2_would_27 : decode cX2_would 27 = .ok (.ifCond .ne 9, 3) := by decide +kernel
theorem dX2_would_30 : decode cX2_would 30 = .ok (.aload_n 0, 1) := by decide +kernel
theorem dX2_would_31 : decode cX2_would 31 = .ok (.iconst 2, 1) := by decide +kernel
theorem dX2_would_32 : decode cX2_would 32 = .ok (.invokevirtual 43, 3) := by decide +kernel
theorem dX2_would_35 : decode cX2_would 35 = .ok (.ireturn, 1) := by decide +kernel
theorem dX2_would_36 : decode cX2_would 36 = .ok (.aload_n 0, 1) := by decide +kernel
theorem dX2_would_37 : decode cX2_would 37 = .ok (.aload_n 0, 1) := by decide +kernel
theorem dX2_would_38 : decode cX2_would 38 = .ok (.getfield 36, 3) := by decide +kernel
theorem dX2_would_41 : decode cX2_would 41 = .ok (.invokevirtual 111, 3) := by decide +kernel
theorem dX2_would_44 : decode cX2_would 44 = .ok (.pop, 1) := by decide +kernel
theorem dX2_would_45 : decode cX2_would 45 = .ok (.aload_n 0, 1) := by decide +kernel
theorem dX2_would_46 : decode cX2_would 46 = .ok (.iload_n 1, 1) := by decide +kernel
theorem dX2_would_47 : decode cX2_would 47 = .ok (.invokevirtual 66, 3) := by decide +kernel
theorem dX2_would_50 : decode cX2_would 50 = .ok (.ifCond .eq 11, 3) := by decide +kernel
theorem dX2_would_53 : decode cX2_would 53 = .ok (.aload_n 0, 1) := by decide +kernel
theorem dX2_would_54 : decode cX2_would 54 = .ok (.iload_n 2, 1) := by decide +kernel
theorem dX2_would_55 : decode cX2_would 55 = .ok (.invokevirtual 73, 3) := by decide +kernel
theorem dX2_would_58 : decode cX2_would 58 = .ok (.goto 4, 3) := by decide +kernel
theorem dX2_would_61 : decode cX2_would 61 = .ok (.iconst (-1), 1) := by decide +kernel
theorem dX2_would_62 : decode cX2_would 62 = .ok (.ireturn, 1) := by decide +kernel
set_option maxRecDepth 20000 in
theorem ggX2_mean_X2_reckon : GoodIn wsX2_mean wsX2_reckon := goodIn_r _ [8, 9, 10, 11, 3, 12, 13, 14, 15, 16, 17, 18, 19, 20, 21, 22, 23, 7, 24, 25, 26, 27, 28, 29, 30, 31, 32, 33, 34, 35, 36, 37, 38, 39, 40, 41, 42, 43, 44, 45, 46, 47, 48, 49, 50, 51, 52, 53, 58, 59, 60, 61, 62, 63, 64, 65, 66, 67, 68, 69, 70, 71, 72, 73, 74] (by decide +kernel) (by decide +kernel)
set_option maxRecDepth 20000 in
theorem gX2_mean_X2_reckon : GoodIn wsX2_mean (wsV RX2 111 RX2 yX2_reckon wsX2_reckon) := goodIn_app (goodIn_of _ (by decide +kernel)) ggX2_mean_X2_reckon
set_option maxRecDepth 20000 in
theorem ggX2_mean_X2_trustAll : GoodIn wsX2_mean wsX2_trustAll := goodIn_r _ [57, 3, 32, 58, 59, 60, 61, 62, 63, 64, 65, 66, 67, 68, 69, 70, 71, 72, 73, 74] (by decide +kernel) (by decide +kernel)
set_option maxRecDepth 20000 in
theorem gX2_mean_X2_trustAll : GoodIn wsX2_mean (wsV RX2 117 RX2 yX2_trustAll wsX2_trustAll) := goodIn_app (goodIn_of _ (by decide +kernel)) ggX2_mean_X2_trustAll
theorem dX2_mean_0 : decode cX2_mean 0 = .ok (.aload_n 0, 1) := by decide +kernel
theorem dX2_mean_1 : decode cX2_mean 1 = .ok (.iconst 0, 1) := by decide +kernel
theorem dX2_mean_2 : decode cX2_mean 2 = .ok (.putfield 32, 3) := by decide +kernel
theorem dX2_mean_5 : decode cX2_mean 5 = .ok (.aload_n 0, 1) := by decide +kernel
theorem dX2_mean_6 : decode cX2_mean 6 = .ok (.aload_n 0, 1) := by decide +kernel
theorem dX2_mean_7 : decode cX2_mean 7 = .ok (.getfield 36, 3) := by decide +kernel
theorem dX2_mean_10 : decode cX2_mean 10 = .ok (.invokevirtual 111, 3) := by decide +kernel
theorem dX2_mean_13 : decode cX2_mean 13 = .ok (.pop, 1) := by decide +kernel
theorem dX2_mean_14 : decode cX2_mean 14 = .ok (.aload_n 0, 1) := by decide +kernel
theorem dX2_mean_15 : decode cX2_mean 15 = .ok (.getfield 60, 3) := by decide +kernel
theorem dX2_mean_18 : decode cX2_mean 18 = .ok (.ifCond .ne 7, 3) := by decide +kernel
theorem dX2_mean_21 : decode cX2_mean 21 = .ok (.dconst 0, 1) := by decide +kernel
theorem dX2_mean_22 : decode cX2_mean 22 = .ok (.goto 14, 3) := by decide +kernel
theorem dX2_mean_25 : decode cX2_mean 25 = .ok (.aload_n 0, 1) := by decide +kernel
theorem dX2_mean_26 : decode cX2_mean 26 = .ok (.invokevirtual 117, 3) := by decide +kernel
theorem dX2_mean_29 : decode cX2_mean 29 = .ok (.i2d, 1) := by decide +kernel
theorem dX2_mean_30 : decode cX2_mean 30 = .ok (.aload_n 0, 1) := by decide +kernel
theorem dX2_mean_31 : decode cX2_mean 31 = .ok (.getfield 60, 3) := by decide +kernel
theorem dX2_mean_34 : decode cX2_mean 34 = .ok (.i2d, 1) := by decide +kernel
theorem dX2_mean_35 : decode cX2_mean 35 = .ok (.ddiv, 1) := by decide +kernel
theorem dX2_mean_36 : decode cX2_mean 36 = .ok (.dreturn, 1) := by decide +kernel
set_option maxRecDepth 20000 in
theorem ggX2_digest_X2_counted : GoodIn wsX2_digest wsX2_counted := goodIn_r _ [14, 6, 15, 16, 7, 17, 18, 19, 20, 21, 13, 22, 23, 24, 8, 25, 26, 27, 28, 29, 30, 31, 32, 33, 34, 35, 36, 37, 38, 39, 40, 9, 5, 41, 42, 43, 44, 45, 46, 47, 48, 49, 50, 51, 52, 53, 54, 55, 4, 56, 57, 58, 59, 64, 65, 66, 67, 68, 69, 70, 71, 72, 73, 74, 75, 76, 77, 78, 79, 80] (by decide +kernel) (by decide +kernel)
set_option maxRecDepth 20000 in
theorem gX2_digest_X2_counted : GoodIn wsX2_digest (wsV RX2 121 RX2 yX2_counted wsX2_counted) := goodIn_app (goodIn_of _ (by decide +kernel)) ggX2_digest_X2_counted
set_option maxRecDepth 20000 in
theorem ggX2_digest_X2_entryTold : GoodIn wsX2_digest wsX2_entryTold := goodIn_r _ [63, 35, 34, 36, 15, 19, 20, 21, 13, 22, 7, 23, 24, 8, 16, 25, 17, 18, 26, 27, 28, 29, 30, 31, 32, 33, 37, 38, 39, 40, 9, 5, 41, 42, 43, 44, 45, 46, 47, 48, 49, 50, 51, 52, 53, 54, 55, 4, 56, 57, 58, 59, 64, 65, 66, 67, 68, 69, 70, 71, 72, 73, 74, 75, 76, 77, 78, 79, 80] (by decide +kernel) (by decide +kernel)
set_option maxRecDepth 20000 in
theorem gX2_digest_X2_entryTold : GoodIn wsX2_digest (wsV RX2 114 RX2 yX2_entryTold wsX2_entryTold) := goodIn_app (goodIn_of _ (by decide +kernel)) ggX2_digest_X2_entryTold
set_option maxRecDepth 20000 in
theorem ggX2_digest_X2_reckon : GoodIn wsX2_digest wsX2_reckon := goodIn_r _ [22, 7, 23, 24, 8, 16, 25, 17, 18, 15, 26, 27, 28, 29, 30, 31, 32, 13, 33, 34, 35, 36, 37, 38, 39, 40, 9, 5, 41, 42, 43, 44, 45, 46, 47, 48, 49, 50, 51, 52, 53, 54, 55, 4, 56, 57, 58, 59, 64, 65, 66, 67, 68, 69, 70, 71, 72, 73, 74, 75, 76, 77, 78, 79, 80] (by decide +kernel) (by decide +kernel)
set_option maxRecDepth 20000 in
theorem gX2_digest_X2_reckon : GoodIn wsX2_digest (wsV RX2 111 RX2 yX2_reckon wsX2_reckon) := goodIn_app (goodIn_of _ (by decide +kernel)) ggX2_digest_X2_reckon
theorem dX2_digest_0 : decode cX2_digest 0 = .ok (.aload_n 0, 1) := by decide +kernel
theorem dX2_digest_1 : decode cX2_digest 1 = .ok (.iconst 0, 1) := by decide +kernel
theorem dX2_digest_2 : decode cX2_digest 2 = .ok (.putfield 32, 3) := by decide +kernel
theorem dX2_digest_5 : decode cX2_digest 5 = .ok (.ldc2_w 130, 3) := by decide +kernel
theorem dX2_digest_8 : decode cX2_digest 8 = .ok (.lstore_n 1, 1) := by decide +kernel
theorem dX2_digest_9 : decode cX2_digest 9 = .ok (.iconst 0, 1) := by decide +kernel
theorem dX2_digest_10 : decode cX2_digest 10 = .ok (.istore_n 3, 1) := by decide +kernel
theorem dX2_digest_11 : decode cX2_digest 11 = .ok (.iload_n 3, 1) := by decide +kernel
theorem dX2_digest_12 : decode cX2_digest 12 = .ok (.bipush 6, 2) := by decide +kernel
theorem dX2_digest_14 : decode cX2_digest 14 = .ok (.if_icmp .ge 22, 3) := by decide +kernel
theorem dX2_digest_17 : decode cX2_digest 17 = .ok (.lload_n 1, 1) := by decide +kernel
theorem dX2_digest_18 : decode cX2_digest 18 = .ok (.ldc2_w 132, 3) := by decide +kernel
theorem dX2_digest_21 : decode cX2_digest 21 = .ok (.lmul, 1) := by decide +kernel
theorem dX2_digest_22 : decode cX2_digest 22 = .ok (.aload_n 0, 1) := by decide +kernel
theorem dX2_digest_23 : decode cX2_digest 23 = .ok (.iload_n 3, 1) := by decide +kernel
theorem dX2_digest_24 : decode cX2_digest 24 = .ok (.invokevirtual 121, 3) := by decide +kernel
theorem dX2_digest_27 : decode cX2_digest 27 = .ok (.i2l, 1) := by decide +kernel
theorem dX2_digest_28 : decode cX2_digest 28 = .ok (.ladd, 1) := by decide +kernel
theorem dX2_digest_29 : decode cX2_digest 29 = .ok (.lstore_n 1, 1) := by decide +kernel
theorem dX2_digest_30 : decode cX2_digest 30 = .ok (.iinc 3 1, 3) := by decide +kernel
theorem dX2_digest_33 : decode cX2_digest 33 = .ok (.goto (-22), 3) := by decide +kernel
theorem dX2_digest_36 : decode cX2_digest 36 = .ok (.iconst 0, 1) := by decide +kernel
theorem dX2_digest_37 : decode cX2_digest 37 = .ok (.istore_n 3, 1) := by decide +kernel
theorem dX2_digest_38 : decode cX2_digest 38 = .ok (.iload_n 3, 1) := by decide +kernel
theorem dX2_digest_39 : decode cX2_digest 39 = .ok (.iconst 4, 1) := by decide +kernel
theorem dX2_digest_40 : decode cX2_digest 40 = .ok (.if_icmp .ge 35, 3) := by decide +kernel
theorem dX2_digest_43 : decode cX2_digest 43 = .ok (.lload_n 1, 1) := by decide +kernel
theorem dX2_digest_44 : decode cX2_digest 44 = .ok (.ldc2_w 132, 3) := by decide +kernel
theorem dX2_digest_47 : decode cX2_digest 47 = .ok (.lmul, 1) := by decide +kernel
theorem dX2_digest_48 : decode cX2_digest 48 = .ok (.aload_n 0, 1) := by decide +kernel
theorem dX2_digest_49 : decode cX2_digest 49 = .ok (.getfield 9, 3) := by decide +kernel
theorem dX2_digest_52 : decode cX2_digest 52 = .ok (.iload_n 3, 1) := by decide +kernel
theorem dX2_digest_53 : decode cX2_digest 53 = .ok (.iaload, 1) := by decide +kernel
theorem dX2_digest_54 : decode cX2_digest 54 = .ok (.i2l, 1) := by decide +kernel
theorem dX2_digest_55 : decode cX2_digest 55 = .ok (.ladd, 1) := by decide +kernel
theorem dX2_digest_56 : decode cX2_digest 56 = .ok (.ldc2_w 132, 3) := by decide +kernel
theorem dX2_digest_59 : decode cX2_digest 59 = .ok (.lmul, 1) := by decide +kernel
theorem dX2_digest_60 : decode cX2_digest 60 = .ok (.aload_n 0, 1) := by decide +kernel
theorem dX2_digest_61 : decode cX2_digest 61 = .ok (.getfield 13, 3) := by decide +kernel
theorem dX2_digest_64 : decode cX2_digest 64 = .ok (.iload_n 3, 1) := by decide +kernel
theorem dX2_digest_65 : decode cX2_digest 65 = .ok (.iaload, 1) := by decide +kernel
theorem dX2_digest_66 : decode cX2_digest 66 = .ok (.i2l, 1) := by decide +kernel
theorem dX2_digest_67 : decode cX2_digest 67 = .ok (.ladd, 1) := by decide +kernel
theorem dX2_digest_68 : decode cX2_digest 68 = .ok (.lstore_n 1, 1) := by decide +kernel
theorem dX2_digest_69 : decode cX2_digest 69 = .ok (.iinc 3 1, 3) := by decide +kernel
theorem dX2_digest_72 : decode cX2_digest 72 = .ok (.goto (-34), 3) := by decide +kernel
theorem dX2_digest_75 : decode cX2_digest 75 = .ok (.iconst 0, 1) := by decide +kernel
theorem dX2_digest_76 : decode cX2_digest 76 = .ok (.istore_n 3, 1) := by decide +kernel
theorem dX2_digest_77 : decode cX2_digest 77 = .ok (.iload_n 3, 1) := by decide +kernel
theorem dX2_digest_78 : decode cX2_digest 78 = .ok (.aload_n 0, 1) := by decide +kernel
theorem dX2_digest_79 : decode cX2_digest 79 = .ok (.getfield 36, 3) := by decide +kernel
theorem dX2_digest_82 : decode cX2_digest 82 = .ok (.if_icmp .ge 51, 3) := by decide +kernel
theorem dX2_digest_85 : decode cX2_digest 85 = .ok (.iconst 0, 1) := by decide +kernel
theorem dX2_digest_86 : decode cX2_digest 86 = .ok (.istore 4, 2) := by decide +kernel
theorem dX2_digest_88 : decode cX2_digest 88 = .ok (.iload 4, 2) := by decide +kernel
theorem dX2_digest_90 : decode cX2_digest 90 = .ok (.iconst 5, 1) := by decide +kernel
theorem dX2_digest_91 : decode cX2_digest 91 = .ok (.if_icmp .ge 24, 3) := by decide +kernel
theorem dX2_digest_94 : decode cX2_digest 94 = .ok (.lload_n 1, 1) := by decide +kernel
theorem dX2_digest_95 : decode cX2_digest 95 = .ok (.ldc2_w 132, 3) := by decide +kernel
theorem dX2_digest_98 : decode cX2_digest 98 = .ok (.lmul, 1) := by decide +kernel
theorem dX2_digest_99 : decode cX2_digest 99 = .ok (.aload_n 0, 1) := by decide +kernel
theorem dX2_digest_100 : decode cX2_digest 100 = .ok (.iload_n 3, 1) := by decide +kernel
theorem dX2_digest_101 : decode cX2_digest 101 = .ok (.iload 4, 2) := by decide +kernel
theorem dX2_digest_103 : decode cX2_digest 103 = .ok (.invokevirtual 114, 3) := by decide +kernel
theorem dX2_digest_106 : decode cX2_digest 106 = .ok (.i2l, 1) := by decide +kernel
theorem dX2_digest_107 : decode cX2_digest 107 = .ok (.ladd, 1) := by decide +kernel
theorem dX2_digest_108 : decode cX2_digest 108 = .ok (.lstore_n 1, 1) := by decide +kernel
theorem dX2_digest_109 : decode cX2_digest 109 = .ok (.iinc 4 1, 3) := by decide +kernel
theorem dX2_digest_112 : decode cX2_digest 112 = .ok (.goto (-24), 3) := by decide +kernel
theorem dX2_digest_115 : decode cX2_digest 115 = .ok (.lload_n 1, 1) := by decide +kernel
theorem dX2_digest_116 : decode cX2_digest 116 = .ok (.ldc2_w 132, 3) := by decide +kernel
theorem dX2_digest_119 : decode cX2_digest 119 = .ok (.lmul, 1) := by decide +kernel
theorem dX2_digest_120 : decode cX2_digest 120 = .ok (.aload_n 0, 1) := by decide +kernel
theorem dX2_digest_121 : decode cX2_digest 121 = .ok (.getfield 70, 3) := by decide +kernel
theorem dX2_digest_124 : decode cX2_digest 124 = .ok (.i2l, 1) := by decide +kernel
theorem dX2_digest_125 : decode cX2_digest 125 = .ok (.ladd, 1) := by decide +kernel
theorem dX2_digest_126 : decode cX2_digest 126 = .ok (.lstore_n 1, 1) := by decide +kernel
theorem dX2_digest_127 : decode cX2_digest 127 = .ok (.iinc 3 1, 3) := by decide +kernel
theorem dX2_digest_130 : decode cX2_digest 130 = .ok (.goto (-53), 3) := by decide +kernel
theorem dX2_digest_133 : decode cX2_digest 133 = .ok (.aload_n 0, 1) := by decide +kernel
theorem dX2_digest_134 : decode cX2_digest 134 = .ok (.aload_n 0, 1) := by decide +kernel
theorem dX2_digest_135 : decode cX2_digest 135 = .ok (.getfield 36, 3) := by decide +kernel
theorem dX2_digest_138 : decode cX2_digest 138 = .ok (.invokevirtual 111, 3) := by decide +kernel
theorem dX2_digest_141 : decode cX2_digest 141 = .ok (.pop, 1) := by decide +kernel
theorem dX2_digest_142 : decode cX2_digest 142 = .ok (.iconst 0, 1) := by decide +kernel
theorem dX2_digest_143 : decode cX2_digest 143 = .ok (.istore_n 3, 1) := by decide +kernel
theorem dX2_digest_144 : decode cX2_digest 144 = .ok (.iload_n 3, 1) := by decide +kernel
theorem dX2_digest_145 : decode cX2_digest 145 = .ok (.bipush 6, 2) := by decide +kernel
theorem dX2_digest_147 : decode cX2_digest 147 = .ok (.if_icmp .ge 35, 3) := by decide +kernel
theorem dX2_digest_150 : decode cX2_digest 150 = .ok (.lload_n 1, 1) := by decide +kernel
theorem dX2_digest_151 : decode cX2_digest 151 = .ok (.ldc2_w 132, 3) := by decide +kernel
theorem dX2_digest_154 : decode cX2_digest 154 = .ok (.lmul, 1) := by decide +kernel
theorem dX2_digest_155 : decode cX2_digest 155 = .ok (.iload_n 3, 1) := by decide +kernel
theorem dX2_digest_156 : decode cX2_digest 156 = .ok (.aload_n 0, 1) := by decide +kernel
theorem dX2_digest_157 : decode cX2_digest 157 = .ok (.getfield 60, 3) := by decide +kernel
theorem dX2_digest_160 : decode cX2_digest 160 = .ok (.if_icmp .ge 12, 3) := by decide +kernel
theorem dX2_digest_163 : decode cX2_digest 163 = .ok (.aload_n 0, 1) := by decide +kernel
theorem dX2_digest_164 : decode cX2_digest 164 = .ok (.getfield 29, 3) := by decide +kernel
theorem dX2_digest_167 : decode cX2_digest 167 = .ok (.iload_n 3, 1) := by decide +kernel
theorem dX2_digest_168 : decode cX2_digest 168 = .ok (.iaload, 1) := by decide +kernel
theorem dX2_digest_169 : decode cX2_digest 169 = .ok (.goto 4, 3) := by decide +kernel
theorem dX2_digest_172 : decode cX2_digest 172 = .ok (.iconst (-1), 1) := by decide +kernel
theorem dX2_digest_173 : decode cX2_digest 173 = .ok (.i2l, 1) := by decide +kernel
theorem dX2_digest_174 : decode cX2_digest 174 = .ok (.ladd, 1) := by decide +kernel
theorem dX2_digest_175 : decode cX2_digest 175 = .ok (.lstore_n 1, 1) := by decide +kernel
theorem dX2_digest_176 : decode cX2_digest 176 = .ok (.iinc 3 1, 3) := by decide +kernel
theorem dX2_digest_179 : decode cX2_digest 179 = .ok (.goto (-35), 3) := by decide +kernel
theorem dX2_digest_182 : decode cX2_digest 182 = .ok (.lload_n 1, 1) := by decide +kernel
theorem dX2_digest_183 : decode cX2_digest 183 = .ok (.lreturn, 1) := by decide +kernel
theorem dJ9_max_7cf53_0 : decode cJ9_max_7cf53 0 = .ok (.iload_n 0, 1) := by decide +kernel
theorem dJ9_max_7cf53_1 : decode cJ9_max_7cf53 1 = .ok (.iload_n 1, 1) := by decide +kernel
theorem dJ9_max_7cf53_2 : decode cJ9_max_7cf53 2 = .ok (.if_icmp .lt 7, 3) := by decide +kernel
theorem dJ9_max_7cf53_5 : decode cJ9_max_7cf53 5 = .ok (.iload_n 0, 1) := by decide +kernel
theorem dJ9_max_7cf53_6 : decode cJ9_max_7cf53 6 = .ok (.goto 4, 3) := by decide +kernel
theorem dJ9_max_7cf53_9 : decode cJ9_max_7cf53 9 = .ok (.iload_n 1, 1) := by decide +kernel
theorem dJ9_max_7cf53_10 : decode cJ9_max_7cf53 10 = .ok (.ireturn, 1) := by decide +kernel
theorem dJ9_min_7cf53_0 : decode cJ9_min_7cf53 0 = .ok (.iload_n 0, 1) := by decide +kernel
theorem dJ9_min_7cf53_1 : decode cJ9_min_7cf53 1 = .ok (.iload_n 1, 1) := by decide +kernel
theorem dJ9_min_7cf53_2 : decode cJ9_min_7cf53 2 = .ok (.if_icmp .gt 7, 3) := by decide +kernel
theorem dJ9_min_7cf53_5 : decode cJ9_min_7cf53 5 = .ok (.iload_n 0, 1) := by decide +kernel
theorem dJ9_min_7cf53_6 : decode cJ9_min_7cf53 6 = .ok (.goto 4, 3) := by decide +kernel
theorem dJ9_min_7cf53_9 : decode cJ9_min_7cf53 9 = .ok (.iload_n 1, 1) := by decide +kernel
theorem dJ9_min_7cf53_10 : decode cJ9_min_7cf53 10 = .ok (.ireturn, 1) := by decide +kernel
set_option maxRecDepth 20000 in
theorem ggL_set_X1_set : GoodIn wsL_set wsX1_set := goodIn_ca (goodIn_ca (goodIn_r _ [7, 8, 9, 10, 11, 6, 12, 13, 14, 15, 16, 17, 18, 19, 20, 21, 22, 23, 24, 25, 26, 27] (by decide +kernel) (by decide +kernel)) (goodIn_sub (fun _ h => List.mem_cons_of_mem _ (List.mem_append_left _ (List.mem_append_right _ h))) (by decide +kernel))) (goodIn_sub (fun _ h => List.mem_cons_of_mem _ (List.mem_append_right _ h)) (by decide +kernel))
set_option maxRecDepth 20000 in
theorem gL_set_X1_set : GoodIn wsL_set (wsV RL 7 RX1 yX1_set wsX1_set) := goodIn_app (goodIn_of _ (by decide +kernel)) ggL_set_X1_set
theorem dL_set_0 : decode cL_set 0 = .ok (.aload 4, 2) := by decide +kernel
theorem dL_set_2 : decode cL_set 2 = .ok (.iconst 0, 1) := by decide +kernel
theorem dL_set_3 : decode cL_set 3 = .ok (.aload_n 0, 1) := by decide +kernel
theorem dL_set_4 : decode cL_set 4 = .ok (.iload_n 1, 1) := by decide +kernel
theorem dL_set_5 : decode cL_set 5 = .ok (.iload_n 2, 1) := by decide +kernel
theorem dL_set_6 : decode cL_set 6 = .ok (.iload_n 3, 1) := by decide +kernel
theorem dL_set_7 : decode cL_set 7 = .ok (.invokevirtual 7, 3) := by decide +kernel
theorem dL_set_10 : decode cL_set 10 = .ok (.i2l, 1) := by decide +kernel
theorem dL_set_11 : decode cL_set 11 = .ok (.lastore, 1) := by decide +kernel
theorem dL_set_12 : decode cL_set 12 = .ok (.goto 11, 3) := by decide +kernel
theorem dL_set_15 : decode cL_set 15 = .ok (.astore 5, 2) := by decide +kernel
theorem dL_set_17 : decode cL_set 17 = .ok (.iconst 1, 1) := by decide +kernel
theorem dL_set_18 : decode cL_set 18 = .ok (.ireturn, 1) := by decide +kernel
theorem dL_set_19 : decode cL_set 19 = .ok (.astore 5, 2) := by decide +kernel
theorem dL_set_21 : decode cL_set 21 = .ok (.iconst 2, 1) := by decide +kernel
theorem dL_set_22 : decode cL_set 22 = .ok (.ireturn, 1) := by decide +kernel
theorem dL_set_23 : decode cL_set 23 = .ok (.iconst 0, 1) := by decide +kernel
theorem dL_set_24 : decode cL_set 24 = .ok (.ireturn, 1) := by decide +kernel
set_option maxRecDepth 20000 in
theorem ggL_join_X1_join : GoodIn wsL_join wsX1_join := goodIn_ca (goodIn_ca (goodIn_r _ [7, 8, 9, 6, 10, 11, 12, 13, 14, 15, 16, 17, 18, 19, 20, 21, 22, 23, 24, 25, 26, 27, 28, 29, 30, 31] (by decide +kernel) (by decide +kernel)) (goodIn_sub (fun _ h => List.mem_cons_of_mem _ (List.mem_append_left _ (List.mem_append_right _ h))) (by decide +kernel))) (goodIn_sub (fun _ h => List.mem_cons_of_mem _ (List.mem_append_right _ h)) (by decide +kernel))
set_option maxRecDepth 20000 in
theorem gL_join_X1_join : GoodIn wsL_join (wsV RL 17 RX1 yX1_join wsX1_join) := goodIn_app (goodIn_of _ (by decide +kernel)) ggL_join_X1_join
theorem dL_join_0 : decode cL_join 0 = .ok (.aload_n 2, 1) := by decide +kernel
theorem dL_join_1 : decode cL_join 1 = .ok (.iconst 0, 1) := by decide +kernel
theorem dL_join_2 : decode cL_join 2 = .ok (.aload_n 0, 1) := by decide +kernel
theorem dL_join_3 : decode cL_join 3 = .ok (.iload_n 1, 1) := by decide +kernel
theorem dL_join_4 : decode cL_join 4 = .ok (.invokevirtual 17, 3) := by decide +kernel
theorem dL_join_7 : decode cL_join 7 = .ok (.i2l, 1) := by decide +kernel
theorem dL_join_8 : decode cL_join 8 = .ok (.lastore, 1) := by decide +kernel
theorem dL_join_9 : decode cL_join 9 = .ok (.goto 9, 3) := by decide +kernel
theorem dL_join_12 : decode cL_join 12 = .ok (.astore_n 3, 1) := by decide +kernel
theorem dL_join_13 : decode cL_join 13 = .ok (.iconst 1, 1) := by decide +kernel
theorem dL_join_14 : decode cL_join 14 = .ok (.ireturn, 1) := by decide +kernel
theorem dL_join_15 : decode cL_join 15 = .ok (.astore_n 3, 1) := by decide +kernel
theorem dL_join_16 : decode cL_join 16 = .ok (.iconst 2, 1) := by decide +kernel
theorem dL_join_17 : decode cL_join 17 = .ok (.ireturn, 1) := by decide +kernel
theorem dL_join_18 : decode cL_join 18 = .ok (.iconst 0, 1) := by decide +kernel
theorem dL_join_19 : decode cL_join 19 = .ok (.ireturn, 1) := by decide +kernel
set_option maxRecDepth 20000 in
theorem ggL_toss_X1_toss : GoodIn wsL_toss wsX1_toss := goodIn_ca (goodIn_ca (goodIn_ca (goodIn_r _ [8, 9, 10, 7, 11, 12, 13, 14, 15, 16, 17, 18, 19, 20, 21, 22, 23, 24, 25, 26, 27, 28, 29, 30, 31, 32, 33, 34, 35, 36, 37] (by decide +kernel) (by decide +kernel)) (goodIn_sub (fun _ h => List.mem_cons_of_mem _ (List.mem_append_left _ (List.mem_append_left _ (List.mem_append_right _ h)))) (by decide +kernel))) (goodIn_sub (fun _ h => List.mem_cons_of_mem _ (List.mem_append_left _ (List.mem_append_right _ h))) (by decide +kernel))) (goodIn_sub (fun _ h => List.mem_cons_of_mem _ (List.mem_append_right _ h)) (by decide +kernel))
set_option maxRecDepth 20000 in
theorem gL_toss_X1_toss : GoodIn wsL_toss (wsV RL 23 RX1 yX1_toss wsX1_toss) := goodIn_app (goodIn_of _ (by decide +kernel)) ggL_toss_X1_toss
theorem dL_toss_0 : decode cL_toss 0 = .ok (.aload_n 3, 1) := by decide +kernel
theorem dL_toss_1 : decode cL_toss 1 = .ok (.iconst 0, 1) := by decide +kernel
theorem dL_toss_2 : decode cL_toss 2 = .ok (.aload_n 0, 1) := by decide +kernel
theorem dL_toss_3 : decode cL_toss 3 = .ok (.iload_n 1, 1) := by decide +kernel
theorem dL_toss_4 : decode cL_toss 4 = .ok (.iload_n 2, 1) := by decide +kernel
theorem dL_toss_5 : decode cL_toss 5 = .ok (.invokevirtual 23, 3) := by decide +kernel
theorem dL_toss_8 : decode cL_toss 8 = .ok (.i2l, 1) := by decide +kernel
theorem dL_toss_9 : decode cL_toss 9 = .ok (.lastore, 1) := by decide +kernel
theorem dL_toss_10 : decode cL_toss 10 = .ok (.goto 15, 3) := by decide +kernel
theorem dL_toss_13 : decode cL_toss 13 = .ok (.astore 4, 2) := by decide +kernel
theorem dL_toss_15 : decode cL_toss 15 = .ok (.iconst 1, 1) := by decide +kernel
theorem dL_toss_16 : decode cL_toss 16 = .ok (.ireturn, 1) := by decide +kernel
theorem dL_toss_17 : decode cL_toss 17 = .ok (.astore 4, 2) := by decide +kernel
theorem dL_toss_19 : decode cL_toss 19 = .ok (.iconst 2, 1) := by decide +kernel
theorem dL_toss_20 : decode cL_toss 20 = .ok (.ireturn, 1) := by decide +kernel
theorem dL_toss_21 : decode cL_toss 21 = .ok (.astore 4, 2) := by decide +kernel
theorem dL_toss_23 : decode cL_toss 23 = .ok (.iconst 3, 1) := by decide +kernel
theorem dL_toss_24 : decode cL_toss 24 = .ok (.ireturn, 1) := by decide +kernel
theorem dL_toss_25 : decode cL_toss 25 = .ok (.iconst 0, 1) := by decide +kernel
theorem dL_toss_26 : decode cL_toss 26 = .ok (.ireturn, 1) := by decide +kernel
set_option maxRecDepth 20000 in
theorem ggL_rest_X1_rest : GoodIn wsL_rest wsX1_rest := goodIn_ca (goodIn_ca (goodIn_r _ [7, 8, 9, 6, 10, 11, 12, 13, 14, 15, 16, 17, 18, 19, 20, 21, 22, 23, 24, 25, 26, 27, 28, 29, 30, 31] (by decide +kernel) (by decide +kernel)) (goodIn_sub (fun _ h => List.mem_cons_of_mem _ (List.mem_append_left _ (List.mem_append_right _ h))) (by decide +kernel))) (goodIn_sub (fun _ h => List.mem_cons_of_mem _ (List.mem_append_right _ h)) (by decide +kernel))
set_option maxRecDepth 20000 in
theorem gL_rest_X1_rest : GoodIn wsL_rest (wsV RL 27 RX1 yX1_rest wsX1_rest) := goodIn_app (goodIn_of _ (by decide +kernel)) ggL_rest_X1_rest
theorem dL_rest_0 : decode cL_rest 0 = .ok (.aload_n 2, 1) := by decide +kernel
theorem dL_rest_1 : decode cL_rest 1 = .ok (.iconst 0, 1) := by decide +kernel
theorem dL_rest_2 : decode cL_rest 2 = .ok (.aload_n 0, 1) := by decide +kernel
theorem dL_rest_3 : decode cL_rest 3 = .ok (.iload_n 1, 1) := by decide +kernel
theorem dL_rest_4 : decode cL_rest 4 = .ok (.invokevirtual 27, 3) := by decide +kernel
theorem dL_rest_7 : decode cL_rest 7 = .ok (.i2l, 1) := by decide +kernel
theorem dL_rest_8 : decode cL_rest 8 = .ok (.lastore, 1) := by decide +kernel
theorem dL_rest_9 : decode cL_rest 9 = .ok (.goto 9, 3) := by decide +kernel
theorem dL_rest_12 : decode cL_rest 12 = .ok (.astore_n 3, 1) := by decide +kernel
theorem dL_rest_13 : decode cL_rest 13 = .ok (.iconst 1, 1) := by decide +kernel
theorem dL_rest_14 : decode cL_rest 14 = .ok (.ireturn, 1) := by decide +kernel
theorem dL_rest_15 : decode cL_rest 15 = .ok (.astore_n 3, 1) := by decide +kernel
theorem dL_rest_16 : decode cL_rest 16 = .ok (.iconst 2, 1) := by decide +kernel
theorem dL_rest_17 : decode cL_rest 17 = .ok (.ireturn, 1) := by decide +kernel
theorem dL_rest_18 : decode cL_rest 18 = .ok (.iconst 0, 1) := by decide +kernel
theorem dL_rest_19 : decode cL_rest 19 = .ok (.ireturn, 1) := by decide +kernel
set_option maxRecDepth 20000 in
theorem ggL_go_X1_go : GoodIn wsL_go wsX1_go := goodIn_ca (goodIn_ca (goodIn_r _ [7, 8, 9, 6, 10, 11, 12, 13, 14, 15, 16, 17, 18, 19, 20, 21, 22, 23, 24, 25, 26, 27, 28, 29, 30, 31] (by decide +kernel) (by decide +kernel)) (goodIn_sub (fun _ h => List.mem_cons_of_mem _ (List.mem_append_left _ (List.mem_append_right _ h))) (by decide +kernel))) (goodIn_sub (fun _ h => List.mem_cons_of_mem _ (List.mem_append_right _ h)) (by decide +kernel))
set_option maxRecDepth 20000 in
theorem gL_go_X1_go : GoodIn wsL_go (wsV RL 30 RX1 yX1_go wsX1_go) := goodIn_app (goodIn_of _ (by decide +kernel)) ggL_go_X1_go
theorem dL_go_0 : decode cL_go 0 = .ok (.aload_n 2, 1) := by decide +kernel
theorem dL_go_1 : decode cL_go 1 = .ok (.iconst 0, 1) := by decide +kernel
theorem dL_go_2 : decode cL_go 2 = .ok (.aload_n 0, 1) := by decide +kernel
theorem dL_go_3 : decode cL_go 3 = .ok (.iload_n 1, 1) := by decide +kernel
theorem dL_go_4 : decode cL_go 4 = .ok (.invokevirtual 30, 3) := by decide +kernel
theorem dL_go_7 : decode cL_go 7 = .ok (.i2l, 1) := by decide +kernel
theorem dL_go_8 : decode cL_go 8 = .ok (.lastore, 1) := by decide +kernel
theorem dL_go_9 : decode cL_go 9 = .ok (.goto 9, 3) := by decide +kernel
theorem dL_go_12 : decode cL_go 12 = .ok (.astore_n 3, 1) := by decide +kernel
theorem dL_go_13 : decode cL_go 13 = .ok (.iconst 1, 1) := by decide +kernel
theorem dL_go_14 : decode cL_go 14 = .ok (.ireturn, 1) := by decide +kernel
theorem dL_go_15 : decode cL_go 15 = .ok (.astore_n 3, 1) := by decide +kernel
theorem dL_go_16 : decode cL_go 16 = .ok (.iconst 2, 1) := by decide +kernel
theorem dL_go_17 : decode cL_go 17 = .ok (.ireturn, 1) := by decide +kernel
theorem dL_go_18 : decode cL_go 18 = .ok (.iconst 0, 1) := by decide +kernel
theorem dL_go_19 : decode cL_go 19 = .ok (.ireturn, 1) := by decide +kernel
set_option maxRecDepth 20000 in
theorem ggL_pay_X1_pay : GoodIn wsL_pay wsX1_pay := goodIn_ca (goodIn_ca (goodIn_ca (goodIn_r _ [8, 9, 10, 7, 11, 12, 13, 14, 15, 16, 17, 18, 19, 20, 21, 22, 23, 24, 25, 26, 27, 28, 29, 30, 31, 32, 33, 34, 35, 36, 37] (by decide +kernel) (by decide +kernel)) (goodIn_sub (fun _ h => List.mem_cons_of_mem _ (List.mem_append_left _ (List.mem_append_left _ (List.mem_append_right _ h)))) (by decide +kernel))) (goodIn_sub (fun _ h => List.mem_cons_of_mem _ (List.mem_append_left _ (List.mem_append_right _ h))) (by decide +kernel))) (goodIn_sub (fun _ h => List.mem_cons_of_mem _ (List.mem_append_right _ h)) (by decide +kernel))
set_option maxRecDepth 20000 in
theorem gL_pay_X1_pay : GoodIn wsL_pay (wsV RL 33 RX1 yX1_pay wsX1_pay) := goodIn_app (goodIn_of _ (by decide +kernel)) ggL_pay_X1_pay
theorem dL_pay_0 : decode cL_pay 0 = .ok (.aload_n 3, 1) := by decide +kernel
theorem dL_pay_1 : decode cL_pay 1 = .ok (.iconst 0, 1) := by decide +kernel
theorem dL_pay_2 : decode cL_pay 2 = .ok (.aload_n 0, 1) := by decide +kernel
theorem dL_pay_3 : decode cL_pay 3 = .ok (.iload_n 1, 1) := by decide +kernel
theorem dL_pay_4 : decode cL_pay 4 = .ok (.iload_n 2, 1) := by decide +kernel
theorem dL_pay_5 : decode cL_pay 5 = .ok (.invokevirtual 33, 3) := by decide +kernel
theorem dL_pay_8 : decode cL_pay 8 = .ok (.i2l, 1) := by decide +kernel
theorem dL_pay_9 : decode cL_pay 9 = .ok (.lastore, 1) := by decide +kernel
theorem dL_pay_10 : decode cL_pay 10 = .ok (.goto 15, 3) := by decide +kernel
theorem dL_pay_13 : decode cL_pay 13 = .ok (.astore 4, 2) := by decide +kernel
theorem dL_pay_15 : decode cL_pay 15 = .ok (.iconst 1, 1) := by decide +kernel
theorem dL_pay_16 : decode cL_pay 16 = .ok (.ireturn, 1) := by decide +kernel
theorem dL_pay_17 : decode cL_pay 17 = .ok (.astore 4, 2) := by decide +kernel
theorem dL_pay_19 : decode cL_pay 19 = .ok (.iconst 2, 1) := by decide +kernel
theorem dL_pay_20 : decode cL_pay 20 = .ok (.ireturn, 1) := by decide +kernel
theorem dL_pay_21 : decode cL_pay 21 = .ok (.astore 4, 2) := by decide +kernel
theorem dL_pay_23 : decode cL_pay 23 = .ok (.iconst 3, 1) := by decide +kernel
theorem dL_pay_24 : decode cL_pay 24 = .ok (.ireturn, 1) := by decide +kernel
theorem dL_pay_25 : decode cL_pay 25 = .ok (.iconst 0, 1) := by decide +kernel
theorem dL_pay_26 : decode cL_pay 26 = .ok (.ireturn, 1) := by decide +kernel
set_option maxRecDepth 20000 in
theorem ggL_buy_X1_buy : GoodIn wsL_buy wsX1_buy := goodIn_ca (goodIn_ca (goodIn_r _ [7, 8, 9, 6, 10, 11, 12, 13, 14, 15, 16, 17, 18, 19, 20, 21, 22, 23, 24, 25, 26, 27, 28, 29, 30, 31] (by decide +kernel) (by decide +kernel)) (goodIn_sub (fun _ h => List.mem_cons_of_mem _ (List.mem_append_left _ (List.mem_append_right _ h))) (by decide +kernel))) (goodIn_sub (fun _ h => List.mem_cons_of_mem _ (List.mem_append_right _ h)) (by decide +kernel))
set_option maxRecDepth 20000 in
theorem gL_buy_X1_buy : GoodIn wsL_buy (wsV RL 36 RX1 yX1_buy wsX1_buy) := goodIn_app (goodIn_of _ (by decide +kernel)) ggL_buy_X1_buy
theorem dL_buy_0 : decode cL_buy 0 = .ok (.aload_n 2, 1) := by decide +kernel
theorem dL_buy_1 : decode cL_buy 1 = .ok (.iconst 0, 1) := by decide +kernel
theorem dL_buy_2 : decode cL_buy 2 = .ok (.aload_n 0, 1) := by decide +kernel
theorem dL_buy_3 : decode cL_buy 3 = .ok (.iload_n 1, 1) := by decide +kernel
theorem dL_buy_4 : decode cL_buy 4 = .ok (.invokevirtual 36, 3) := by decide +kernel
theorem dL_buy_7 : decode cL_buy 7 = .ok (.i2l, 1) := by decide +kernel
theorem dL_buy_8 : decode cL_buy 8 = .ok (.lastore, 1) := by decide +kernel
theorem dL_buy_9 : decode cL_buy 9 = .ok (.goto 9, 3) := by decide +kernel
theorem dL_buy_12 : decode cL_buy 12 = .ok (.astore_n 3, 1) := by decide +kernel
theorem dL_buy_13 : decode cL_buy 13 = .ok (.iconst 1, 1) := by decide +kernel
theorem dL_buy_14 : decode cL_buy 14 = .ok (.ireturn, 1) := by decide +kernel
theorem dL_buy_15 : decode cL_buy 15 = .ok (.astore_n 3, 1) := by decide +kernel
theorem dL_buy_16 : decode cL_buy 16 = .ok (.iconst 2, 1) := by decide +kernel
theorem dL_buy_17 : decode cL_buy 17 = .ok (.ireturn, 1) := by decide +kernel
theorem dL_buy_18 : decode cL_buy 18 = .ok (.iconst 0, 1) := by decide +kernel
theorem dL_buy_19 : decode cL_buy 19 = .ok (.ireturn, 1) := by decide +kernel
set_option maxRecDepth 20000 in
theorem ggL_strike_X1_strike : GoodIn wsL_strike wsX1_strike := goodIn_ca (goodIn_r _ [6, 7, 8, 9, 10, 5, 11, 12, 13, 14, 15, 16, 17, 18, 19, 20, 21] (by decide +kernel) (by decide +kernel)) (goodIn_sub (fun _ h => List.mem_cons_of_mem _ (List.mem_append_right _ h)) (by decide +kernel))
set_option maxRecDepth 20000 in
theorem gL_strike_X1_strike : GoodIn wsL_strike (wsV RL 39 RX1 yX1_strike wsX1_strike) := goodIn_app (goodIn_of _ (by decide +kernel)) ggL_strike_X1_strike
theorem dL_strike_0 : decode cL_strike 0 = .ok (.aload_n 2, 1) := by decide +kernel
theorem dL_strike_1 : decode cL_strike 1 = .ok (.iconst 0, 1) := by decide +kernel
theorem dL_strike_2 : decode cL_strike 2 = .ok (.aload_n 0, 1) := by decide +kernel
theorem dL_strike_3 : decode cL_strike 3 = .ok (.iload_n 1, 1) := by decide +kernel
theorem dL_strike_4 : decode cL_strike 4 = .ok (.invokevirtual 39, 3) := by decide +kernel
theorem dL_strike_7 : decode cL_strike 7 = .ok (.ifCond .eq 7, 3) := by decide +kernel
theorem dL_strike_10 : decode cL_strike 10 = .ok (.lconst 1, 1) := by decide +kernel
theorem dL_strike_11 : decode cL_strike 11 = .ok (.goto 4, 3) := by decide +kernel
theorem dL_strike_14 : decode cL_strike 14 = .ok (.lconst 0, 1) := by decide +kernel
theorem dL_strike_15 : decode cL_strike 15 = .ok (.lastore, 1) := by decide +kernel
theorem dL_strike_16 : decode cL_strike 16 = .ok (.goto 6, 3) := by decide +kernel
theorem dL_strike_19 : decode cL_strike 19 = .ok (.astore_n 3, 1) := by decide +kernel
theorem dL_strike_20 : decode cL_strike 20 = .ok (.iconst 1, 1) := by decide +kernel
theorem dL_strike_21 : decode cL_strike 21 = .ok (.ireturn, 1) := by decide +kernel
theorem dL_strike_22 : decode cL_strike 22 = .ok (.iconst 0, 1) := by decide +kernel
theorem dL_strike_23 : decode cL_strike 23 = .ok (.ireturn, 1) := by decide +kernel
set_option maxRecDepth 20000 in
theorem ggL_shift_X1_shift : GoodIn wsL_shift wsX1_shift := goodIn_ca (goodIn_r _ [6, 7, 8, 9, 10, 5, 11, 12, 13, 14, 15, 16, 17, 18, 19, 20, 21, 22, 23, 24, 25, 26, 27, 28, 29, 30, 31] (by decide +kernel) (by decide +kernel)) (goodIn_sub (fun _ h => List.mem_cons_of_mem _ (List.mem_append_right _ h)) (by decide +kernel))
set_option maxRecDepth 20000 in
theorem gL_shift_X1_shift : GoodIn wsL_shift (wsV RL 43 RX1 yX1_shift wsX1_shift) := goodIn_app (goodIn_of _ (by decide +kernel)) ggL_shift_X1_shift
theorem dL_shift_0 : decode cL_shift 0 = .ok (.aload_n 3, 1) := by decide +kernel
theorem dL_shift_1 : decode cL_shift 1 = .ok (.iconst 0, 1) := by decide +kernel
theorem dL_shift_2 : decode cL_shift 2 = .ok (.aload_n 0, 1) := by decide +kernel
theorem dL_shift_3 : decode cL_shift 3 = .ok (.iload_n 1, 1) := by decide +kernel
theorem dL_shift_4 : decode cL_shift 4 = .ok (.iload_n 2, 1) := by decide +kernel
theorem dL_shift_5 : decode cL_shift 5 = .ok (.invokevirtual 43, 3) := by decide +kernel
theorem dL_shift_8 : decode cL_shift 8 = .ok (.i2l, 1) := by decide +kernel
theorem dL_shift_9 : decode cL_shift 9 = .ok (.lastore, 1) := by decide +kernel
theorem dL_shift_10 : decode cL_shift 10 = .ok (.goto 7, 3) := by decide +kernel
theorem dL_shift_13 : decode cL_shift 13 = .ok (.astore 4, 2) := by decide +kernel
theorem dL_shift_15 : decode cL_shift 15 = .ok (.iconst 1, 1) := by decide +kernel
theorem dL_shift_16 : decode cL_shift 16 = .ok (.ireturn, 1) := by decide +kernel
theorem dL_shift_17 : decode cL_shift 17 = .ok (.iconst 0, 1) := by decide +kernel
theorem dL_shift_18 : decode cL_shift 18 = .ok (.ireturn, 1) := by decide +kernel
set_option maxRecDepth 20000 in
theorem ggL_tear_X1_tear : GoodIn wsL_tear wsX1_tear := goodIn_ca (goodIn_r _ [6, 7, 8, 9, 10, 11, 12, 13, 14, 15, 16, 17, 18] (by decide +kernel) (by decide +kernel)) (goodIn_sub (fun _ h => List.mem_cons_of_mem _ (List.mem_append_right _ h)) (by decide +kernel))
set_option maxRecDepth 20000 in
theorem gL_tear_X1_tear : GoodIn wsL_tear (wsV RL 46 RX1 yX1_tear wsX1_tear) := goodIn_app (goodIn_of _ (by decide +kernel)) ggL_tear_X1_tear
theorem dL_tear_0 : decode cL_tear 0 = .ok (.aload_n 1, 1) := by decide +kernel
theorem dL_tear_1 : decode cL_tear 1 = .ok (.iconst 0, 1) := by decide +kernel
theorem dL_tear_2 : decode cL_tear 2 = .ok (.aload_n 0, 1) := by decide +kernel
theorem dL_tear_3 : decode cL_tear 3 = .ok (.invokevirtual 46, 3) := by decide +kernel
theorem dL_tear_6 : decode cL_tear 6 = .ok (.i2l, 1) := by decide +kernel
theorem dL_tear_7 : decode cL_tear 7 = .ok (.lastore, 1) := by decide +kernel
theorem dL_tear_8 : decode cL_tear 8 = .ok (.goto 6, 3) := by decide +kernel
theorem dL_tear_11 : decode cL_tear 11 = .ok (.astore_n 2, 1) := by decide +kernel
theorem dL_tear_12 : decode cL_tear 12 = .ok (.iconst 1, 1) := by decide +kernel
theorem dL_tear_13 : decode cL_tear 13 = .ok (.ireturn, 1) := by decide +kernel
theorem dL_tear_14 : decode cL_tear 14 = .ok (.iconst 0, 1) := by decide +kernel
theorem dL_tear_15 : decode cL_tear 15 = .ok (.ireturn, 1) := by decide +kernel
set_option maxRecDepth 20000 in
theorem ggL_entry_X1_entry : GoodIn wsL_entry wsX1_entry := goodIn_ca (goodIn_r _ [6, 7, 8, 9, 10, 11, 12, 13, 5, 14, 15, 16, 17, 18, 19, 20, 21, 22, 23, 24, 25, 26, 27, 28, 29, 30, 31, 32, 33, 34, 35, 36, 37, 38, 39, 40, 41, 42, 43, 44, 45, 46, 47, 48, 49, 50, 51, 52, 53, 54, 55, 56, 57, 58, 59, 60, 61, 62, 63, 64, 65, 66, 67, 68, 69, 70, 71, 72, 73, 74, 75, 76, 77, 78, 79, 80, 81, 82, 83, 84, 85, 86, 87, 88, 89, 90, 91, 92, 93, 94, 95, 96, 97, 98, 99, 100, 101, 102, 103, 104, 105, 106, 107, 108, 109, 110, 111, 112, 113] (by decide +kernel) (by decide +kernel)) (goodIn_sub (fun _ h => List.mem_cons_of_mem _ (List.mem_append_right _ h)) (by decide +kernel))
set_option maxRecDepth 20000 in
theorem gL_entry_X1_entry : GoodIn wsL_entry (wsV RL 50 RX1 yX1_entry wsX1_entry) := goodIn_app (goodIn_of _ (by decide +kernel)) ggL_entry_X1_entry
theorem dL_entry_0 : decode cL_entry 0 = .ok (.aload_n 3, 1) := by decide +kernel
theorem dL_entry_1 : decode cL_entry 1 = .ok (.iconst 0, 1) := by decide +kernel
theorem dL_entry_2 : decode cL_entry 2 = .ok (.aload_n 0, 1) := by decide +kernel
theorem dL_entry_3 : decode cL_entry 3 = .ok (.iload_n 1, 1) := by decide +kernel
theorem dL_entry_4 : decode cL_entry 4 = .ok (.iload_n 2, 1) := by decide +kernel
theorem dL_entry_5 : decode cL_entry 5 = .ok (.invokevirtual 50, 3) := by decide +kernel
theorem dL_entry_8 : decode cL_entry 8 = .ok (.i2l, 1) := by decide +kernel
theorem dL_entry_9 : decode cL_entry 9 = .ok (.lastore, 1) := by decide +kernel
theorem dL_entry_10 : decode cL_entry 10 = .ok (.goto 7, 3) := by decide +kernel
theorem dL_entry_13 : decode cL_entry 13 = .ok (.astore 4, 2) := by decide +kernel
theorem dL_entry_15 : decode cL_entry 15 = .ok (.iconst 1, 1) := by decide +kernel
theorem dL_entry_16 : decode cL_entry 16 = .ok (.ireturn, 1) := by decide +kernel
theorem dL_entry_17 : decode cL_entry 17 = .ok (.iconst 0, 1) := by decide +kernel
theorem dL_entry_18 : decode cL_entry 18 = .ok (.ireturn, 1) := by decide +kernel
set_option maxRecDepth 20000 in
theorem ggL_behind_X1_behind : GoodIn wsL_behind wsX1_behind := goodIn_ca (goodIn_ca (goodIn_r _ [7, 8, 9, 10, 11, 6, 12, 13, 14, 15, 16, 17, 18, 19, 20, 21, 22, 23, 24, 25, 26, 27, 28, 29, 30, 31, 32, 33, 34, 35, 36, 37, 38, 39, 40, 41, 42, 43, 44, 45, 46, 47, 48, 49, 50, 51, 52, 53, 54, 55, 56, 57, 58, 59, 60, 61, 62, 63, 64, 65, 66, 67, 68, 69, 70, 71, 72, 73, 74, 75, 76, 77, 78, 79, 80, 81, 82, 83, 84, 85, 86, 87, 88, 89, 90, 91, 92, 93, 94, 95, 96, 97, 98, 99, 100, 101, 102, 103, 104, 105, 106, 107, 108, 109, 110, 111, 112, 113, 114, 115, 116, 117, 118] (by decide +kernel) (by decide +kernel)) (goodIn_sub (fun _ h => List.mem_cons_of_mem _ (List.mem_append_left _ (List.mem_append_right _ h))) (by decide +kernel))) (goodIn_sub (fun _ h => List.mem_cons_of_mem _ (List.mem_append_right _ h)) (by decide +kernel))
set_option maxRecDepth 20000 in
theorem gL_behind_X1_behind : GoodIn wsL_behind (wsV RL 53 RX1 yX1_behind wsX1_behind) := goodIn_app (goodIn_of _ (by decide +kernel)) ggL_behind_X1_behind
theorem dL_behind_0 : decode cL_behind 0 = .ok (.aload_n 3, 1) := by decide +kernel
theorem dL_behind_1 : decode cL_behind 1 = .ok (.iconst 0, 1) := by decide +kernel
theorem dL_behind_2 : decode cL_behind 2 = .ok (.aload_n 0, 1) := by decide +kernel
theorem dL_behind_3 : decode cL_behind 3 = .ok (.iload_n 1, 1) := by decide +kernel
theorem dL_behind_4 : decode cL_behind 4 = .ok (.iload_n 2, 1) := by decide +kernel
theorem dL_behind_5 : decode cL_behind 5 = .ok (.invokevirtual 53, 3) := by decide +kernel
theorem dL_behind_8 : decode cL_behind 8 = .ok (.i2l, 1) := by decide +kernel
theorem dL_behind_9 : decode cL_behind 9 = .ok (.lastore, 1) := by decide +kernel
theorem dL_behind_10 : decode cL_behind 10 = .ok (.goto 11, 3) := by decide +kernel
theorem dL_behind_13 : decode cL_behind 13 = .ok (.astore 4, 2) := by decide +kernel
theorem dL_behind_15 : decode cL_behind 15 = .ok (.iconst 1, 1) := by decide +kernel
theorem dL_behind_16 : decode cL_behind 16 = .ok (.ireturn, 1) := by decide +kernel
theorem dL_behind_17 : decode cL_behind 17 = .ok (.astore 4, 2) := by decide +kernel
theorem dL_behind_19 : decode cL_behind 19 = .ok (.iconst 2, 1) := by decide +kernel
theorem dL_behind_20 : decode cL_behind 20 = .ok (.ireturn, 1) := by decide +kernel
theorem dL_behind_21 : decode cL_behind 21 = .ok (.iconst 0, 1) := by decide +kernel
theorem dL_behind_22 : decode cL_behind 22 = .ok (.ireturn, 1) := by decide +kernel
set_option maxRecDepth 20000 in
theorem ggL_trust_X1_trust : GoodIn wsL_trust wsX1_trust := goodIn_ca (goodIn_ca (goodIn_r _ [7, 8, 9, 10, 11, 6, 12, 13, 14, 15, 16, 17, 18, 19, 20, 21, 22, 23, 24, 25, 26, 27, 28, 29, 30, 31, 32, 33, 34, 35, 36, 37, 38, 39, 40, 41, 42, 43, 44, 45, 46, 47, 48, 49, 50, 51, 52, 53, 54, 55, 56, 57, 58, 59, 60, 61, 62, 63, 64, 65, 66, 67, 68, 69, 70, 71, 72, 73, 74, 75, 76, 77, 78, 79, 80, 81, 82, 83, 84, 85, 86, 87, 88, 89, 90, 91, 92, 93, 94, 95, 96, 97, 98, 99, 100, 101, 102, 103, 104, 105, 106, 107, 108, 109, 110, 111, 112, 113, 114, 115] (by decide +kernel) (by decide +kernel)) (goodIn_sub (fun _ h => List.mem_cons_of_mem _ (List.mem_append_left _ (List.mem_append_right _ h))) (by decide +kernel))) (goodIn_sub (fun _ h => List.mem_cons_of_mem _ (List.mem_append_right _ h)) (by decide +kernel))
set_option maxRecDepth 20000 in
theorem gL_trust_X1_trust : GoodIn wsL_trust (wsV RL 56 RX1 yX1_trust wsX1_trust) := goodIn_app (goodIn_of _ (by decide +kernel)) ggL_trust_X1_trust
theorem dL_trust_0 : decode cL_trust 0 = .ok (.aload_n 3, 1) := by decide +kernel
theorem dL_trust_1 : decode cL_trust 1 = .ok (.iconst 0, 1) := by decide +kernel
theorem dL_trust_2 : decode cL_trust 2 = .ok (.aload_n 0, 1) := by decide +kernel
theorem dL_trust_3 : decode cL_trust 3 = .ok (.iload_n 1, 1) := by decide +kernel
theorem dL_trust_4 : decode cL_trust 4 = .ok (.iload_n 2, 1) := by decide +kernel
theorem dL_trust_5 : decode cL_trust 5 = .ok (.invokevirtual 56, 3) := by decide +kernel
theorem dL_trust_8 : decode cL_trust 8 = .ok (.i2l, 1) := by decide +kernel
theorem dL_trust_9 : decode cL_trust 9 = .ok (.lastore, 1) := by decide +kernel
theorem dL_trust_10 : decode cL_trust 10 = .ok (.goto 11, 3) := by decide +kernel
theorem dL_trust_13 : decode cL_trust 13 = .ok (.astore 4, 2) := by decide +kernel
theorem dL_trust_15 : decode cL_trust 15 = .ok (.iconst 1, 1) := by decide +kernel
theorem dL_trust_16 : decode cL_trust 16 = .ok (.ireturn, 1) := by decide +kernel
theorem dL_trust_17 : decode cL_trust 17 = .ok (.astore 4, 2) := by decide +kernel
theorem dL_trust_19 : decode cL_trust 19 = .ok (.iconst 2, 1) := by decide +kernel
theorem dL_trust_20 : decode cL_trust 20 = .ok (.ireturn, 1) := by decide +kernel
theorem dL_trust_21 : decode cL_trust 21 = .ok (.iconst 0, 1) := by decide +kernel
theorem dL_trust_22 : decode cL_trust 22 = .ok (.ireturn, 1) := by decide +kernel
set_option maxRecDepth 20000 in
theorem ggL_count_X1_count : GoodIn wsL_count wsX1_count := goodIn_ca (goodIn_r _ [6, 7, 8, 9, 10, 5, 11, 12, 13, 14, 15, 16, 17, 18, 19, 20, 21, 22, 23, 24, 25, 26, 27, 28, 29, 30, 31, 32, 33, 34, 35, 36, 37, 38, 39, 40, 41, 42, 43, 44, 45, 46, 47, 48, 49, 50, 51, 52, 53, 54, 55, 56, 57, 58, 59, 60, 61, 62, 63, 64, 65, 66, 67, 68, 69, 70, 71, 72, 73, 74, 75, 76, 77, 78, 79, 80, 81, 82, 83, 84, 85, 86, 87, 88, 89, 90, 91, 92, 93, 94, 95, 96, 97, 98, 99, 100, 101, 102, 103, 104, 105, 106, 107, 108, 109] (by decide +kernel) (by decide +kernel)) (goodIn_sub (fun _ h => List.mem_cons_of_mem _ (List.mem_append_right _ h)) (by decide +kernel))
set_option maxRecDepth 20000 in
theorem gL_count_X1_count : GoodIn wsL_count (wsV RL 59 RX1 yX1_count wsX1_count) := goodIn_app (goodIn_of _ (by decide +kernel)) ggL_count_X1_count
theorem dL_count_0 : decode cL_count 0 = .ok (.aload_n 2, 1) := by decide +kernel
theorem dL_count_1 : decode cL_count 1 = .ok (.iconst 0, 1) := by decide +kernel
theorem dL_count_2 : decode cL_count 2 = .ok (.aload_n 0, 1) := by decide +kernel
theorem dL_count_3 : decode cL_count 3 = .ok (.iload_n 1, 1) := by decide +kernel
theorem dL_count_4 : decode cL_count 4 = .ok (.invokevirtual 59, 3) := by decide +kernel
theorem dL_count_7 : decode cL_count 7 = .ok (.i2l, 1) := by decide +kernel
theorem dL_count_8 : decode cL_count 8 = .ok (.lastore, 1) := by decide +kernel
theorem dL_count_9 : decode cL_count 9 = .ok (.goto 6, 3) := by decide +kernel
theorem dL_count_12 : decode cL_count 12 = .ok (.astore_n 3, 1) := by decide +kernel
theorem dL_count_13 : decode cL_count 13 = .ok (.iconst 1, 1) := by decide +kernel
theorem dL_count_14 : decode cL_count 14 = .ok (.ireturn, 1) := by decide +kernel
theorem dL_count_15 : decode cL_count 15 = .ok (.iconst 0, 1) := by decide +kernel
theorem dL_count_16 : decode cL_count 16 = .ok (.ireturn, 1) := by decide +kernel
set_option maxRecDepth 20000 in
theorem ggL_worth_X1_worth : GoodIn wsL_worth wsX1_worth := goodIn_ca (goodIn_r _ [6, 7, 8, 9, 5, 10, 11, 12, 13, 14, 15, 16, 17, 18, 19, 20, 21, 22, 23, 24, 25, 26, 27, 28, 29, 30, 31, 32, 33, 34, 35, 36, 37, 38, 39, 40, 41, 42, 43, 44, 45, 46, 47, 48, 49, 50, 51, 52, 53, 54, 55, 56, 57, 58, 59, 60, 61, 62, 63, 64, 65, 66, 67, 68, 69, 70, 71, 72, 73, 74, 75, 76, 77, 78, 79, 80, 81, 82, 83, 84, 85, 86, 87, 88, 89, 90, 91, 92, 93, 94, 95, 96, 97, 98, 99, 100, 101, 102, 103, 104, 105, 106, 107, 108, 109, 110, 111, 112, 113] (by decide +kernel) (by decide +kernel)) (goodIn_sub (fun _ h => List.mem_cons_of_mem _ (List.mem_append_right _ h)) (by decide +kernel))
set_option maxRecDepth 20000 in
theorem gL_worth_X1_worth : GoodIn wsL_worth (wsV RL 62 RX1 yX1_worth wsX1_worth) := goodIn_app (goodIn_of _ (by decide +kernel)) ggL_worth_X1_worth
theorem dL_worth_0 : decode cL_worth 0 = .ok (.aload_n 2, 1) := by decide +kernel
theorem dL_worth_1 : decode cL_worth 1 = .ok (.iconst 0, 1) := by decide +kernel
theorem dL_worth_2 : decode cL_worth 2 = .ok (.aload_n 0, 1) := by decide +kernel
theorem dL_worth_3 : decode cL_worth 3 = .ok (.iload_n 1, 1) := by decide +kernel
theorem dL_worth_4 : decode cL_worth 4 = .ok (.invokevirtual 62, 3) := by decide +kernel
theorem dL_worth_7 : decode cL_worth 7 = .ok (.i2l, 1) := by decide +kernel
theorem dL_worth_8 : decode cL_worth 8 = .ok (.lastore, 1) := by decide +kernel
theorem dL_worth_9 : decode cL_worth 9 = .ok (.goto 6, 3) := by decide +kernel
theorem dL_worth_12 : decode cL_worth 12 = .ok (.astore_n 3, 1) := by decide +kernel
theorem dL_worth_13 : decode cL_worth 13 = .ok (.iconst 1, 1) := by decide +kernel
theorem dL_worth_14 : decode cL_worth 14 = .ok (.ireturn, 1) := by decide +kernel
theorem dL_worth_15 : decode cL_worth 15 = .ok (.iconst 0, 1) := by decide +kernel
theorem dL_worth_16 : decode cL_worth 16 = .ok (.ireturn, 1) := by decide +kernel
set_option maxRecDepth 20000 in
theorem ggL_would_X1_would : GoodIn wsL_would wsX1_would := goodIn_ca (goodIn_ca (goodIn_r _ [7, 8, 9, 10, 11, 6, 12, 13, 14, 15, 16, 17, 18, 19, 20, 21, 22, 23, 24, 25, 26, 27, 28, 29, 30, 31, 32, 33, 34, 35, 36, 37, 38, 39, 40, 41, 42, 43, 44, 45, 46, 47, 48, 49, 50, 51, 52, 53, 54, 55, 56, 57, 58, 59, 60, 61, 62, 63, 64, 65, 66, 67, 68, 69, 70, 71, 72, 73, 74, 75, 76, 77, 78, 79, 80, 81, 82, 83, 84, 85, 86, 87, 88, 89, 90, 91, 92, 93, 94, 95, 96, 97, 98, 99, 100, 101, 102, 103, 104, 105, 106, 107, 108, 109, 110, 111, 112, 113, 114, 115] (by decide +kernel) (by decide +kernel)) (goodIn_sub (fun _ h => List.mem_cons_of_mem _ (List.mem_append_left _ (List.mem_append_right _ h))) (by decide +kernel))) (goodIn_sub (fun _ h => List.mem_cons_of_mem _ (List.mem_append_right _ h)) (by decide +kernel))
set_option maxRecDepth 20000 in
theorem gL_would_X1_would : GoodIn wsL_would (wsV RL 65 RX1 yX1_would wsX1_would) := goodIn_app (goodIn_of _ (by decide +kernel)) ggL_would_X1_would
theorem dL_would_0 : decode cL_would 0 = .ok (.aload_n 3, 1) := by decide +kernel
theorem dL_would_1 : decode cL_would 1 = .ok (.iconst 0, 1) := by decide +kernel
theorem dL_would_2 : decode cL_would 2 = .ok (.aload_n 0, 1) := by decide +kernel
theorem dL_would_3 : decode cL_would 3 = .ok (.iload_n 1, 1) := by decide +kernel
theorem dL_would_4 : decode cL_would 4 = .ok (.iload_n 2, 1) := by decide +kernel
theorem dL_would_5 : decode cL_would 5 = .ok (.invokevirtual 65, 3) := by decide +kernel
theorem dL_would_8 : decode cL_would 8 = .ok (.i2l, 1) := by decide +kernel
theorem dL_would_9 : decode cL_would 9 = .ok (.lastore, 1) := by decide +kernel
theorem dL_would_10 : decode cL_would 10 = .ok (.goto 11, 3) := by decide +kernel
theorem dL_would_13 : decode cL_would 13 = .ok (.astore 4, 2) := by decide +kernel
theorem dL_would_15 : decode cL_would 15 = .ok (.iconst 1, 1) := by decide +kernel
theorem dL_would_16 : decode cL_would 16 = .ok (.ireturn, 1) := by decide +kernel
theorem dL_would_17 : decode cL_would 17 = .ok (.astore 4, 2) := by decide +kernel
theorem dL_would_19 : decode cL_would 19 = .ok (.iconst 2, 1) := by decide +kernel
theorem dL_would_20 : decode cL_would 20 = .ok (.ireturn, 1) := by decide +kernel
theorem dL_would_21 : decode cL_would 21 = .ok (.iconst 0, 1) := by decide +kernel
theorem dL_would_22 : decode cL_would 22 = .ok (.ireturn, 1) := by decide +kernel
set_option maxRecDepth 20000 in
theorem ggL_law_X1_init : GoodIn wsL_law wsX1_init := goodIn_r _ [9, 10, 11, 12, 13, 14, 15, 16, 17, 18, 19, 20, 21, 22, 23, 24, 25, 26, 27, 28, 29, 30, 31, 441, 442, 443, 444, 445, 446, 447, 448, 466, 467, 468, 469, 470, 471, 472, 473, 474, 475, 476] (by decide +kernel) (by decide +kernel)
set_option maxRecDepth 20000 in
theorem gL_law_X1_init : GoodIn wsL_law (wsX1_init) := ggL_law_X1_init
set_option maxRecDepth 20000 in
theorem ggL_law_X2_init : GoodIn wsL_law wsX2_init := goodIn_r _ [34, 35, 11, 12, 13, 36, 37, 38, 39, 40, 19, 41, 42, 449, 450, 451, 452, 453, 454, 455, 456, 457, 458, 459, 460, 461, 462, 463, 464, 465] (by decide +kernel) (by decide +kernel)
set_option maxRecDepth 20000 in
theorem gL_law_X2_init : GoodIn wsL_law (wsX2_init) := ggL_law_X2_init
set_option maxRecDepth 20000 in
theorem ggL_law_L_set : GoodIn wsL_law wsL_set := goodIn_ca (goodIn_ca (goodIn_r _ [46, 47, 48, 49, 50, 51, 2, 52, 14, 15, 53, 54, 55, 56, 57, 58, 59, 60, 61, 62, 441, 442, 443, 444, 445, 446, 447, 448] (by decide +kernel) (by decide +kernel)) (goodIn_sub (fun _ h => List.mem_append_left _ (List.mem_append_left _ (List.mem_append_right _ h))) (by decide +kernel))) (goodIn_sub (fun _ h => List.mem_append_left _ (List.mem_append_right _ h)) (by decide +kernel))
set_option maxRecDepth 20000 in
theorem gL_law_L_set : GoodIn wsL_law (va_wsS RL 72 yL_set wsL_set) := goodIn_app (goodIn_of _ (by decide +kernel)) ggL_law_L_set
set_option maxRecDepth 20000 in
theorem ggL_law_X2_set : GoodIn wsL_law wsX2_set := goodIn_r _ [66, 67, 36, 37, 68, 69, 5, 70, 71, 72, 73, 74, 449, 450, 451, 452, 453, 454, 455, 456, 457, 458, 459, 460, 461, 462, 463, 464, 465] (by decide +kernel) (by decide +kernel)
set_option maxRecDepth 20000 in
theorem gL_law_X2_set : GoodIn wsL_law (wsV RL 77 RX2 yX2_set wsX2_set) := goodIn_app (goodIn_of _ (by decide +kernel)) ggL_law_X2_set
set_option maxRecDepth 20000 in
theorem ggL_law_X2_thrown : GoodIn wsL_law wsX2_thrown := goodIn_r _ [78, 67, 449, 450, 451, 452, 453, 454, 455, 456, 457, 458, 459, 460, 461, 462, 463, 464, 465] (by decide +kernel) (by decide +kernel)
set_option maxRecDepth 20000 in
theorem gL_law_X2_thrown : GoodIn wsL_law (wsV RL 78 RX2 yX2_thrown wsX2_thrown) := goodIn_app (goodIn_of _ (by decide +kernel)) ggL_law_X2_thrown
set_option maxRecDepth 20000 in
theorem ggL_law_L_join : GoodIn wsL_law wsL_join := goodIn_ca (goodIn_ca (goodIn_r _ [81, 48, 82, 83, 84, 85, 2, 86, 58, 59, 60, 61, 62, 87, 88, 89, 90, 91, 92, 21, 16, 17, 18, 20, 441, 442, 443, 444, 445, 446, 447, 448] (by decide +kernel) (by decide +kernel)) (goodIn_sub (fun _ h => List.mem_append_left _ (List.mem_append_right _ h)) (by decide +kernel))) (goodIn_sub (fun _ h => List.mem_append_right _ h) (by decide +kernel))
set_option maxRecDepth 20000 in
theorem gL_law_L_join : GoodIn wsL_law (va_wsS RL 81 yL_join wsL_join) := goodIn_app (goodIn_of _ (by decide +kernel)) ggL_law_L_join
set_option maxRecDepth 20000 in
theorem ggL_law_X2_join : GoodIn wsL_law wsX2_join := goodIn_r _ [96, 67, 97, 68, 69, 5, 70, 71, 72, 73, 74, 98, 99, 100, 101, 38, 39, 40, 41, 449, 450, 451, 452, 453, 454, 455, 456, 457, 458, 459, 460, 461, 462, 463, 464, 465] (by decide +kernel) (by decide +kernel)
set_option maxRecDepth 20000 in
theorem gL_law_X2_join : GoodIn wsL_law (wsV RL 84 RX2 yX2_join wsX2_join) := goodIn_app (goodIn_of _ (by decide +kernel)) ggL_law_X2_join
set_option maxRecDepth 20000 in
theorem ggL_law_L_toss : GoodIn wsL_law wsL_toss := goodIn_ca (goodIn_ca (goodIn_ca (goodIn_r _ [104, 47, 48, 82, 105, 106, 107, 2, 108, 53, 54, 55, 56, 57, 58, 59, 60, 61, 62, 87, 88, 89, 90, 91, 92, 21, 16, 17, 18, 20, 441, 442, 443, 444, 445, 446, 447, 448] (by decide +kernel) (by decide +kernel)) (goodIn_sub (fun _ h => List.mem_append_left _ (List.mem_append_left _ (List.mem_append_right _ h))) (by decide +kernel))) (goodIn_sub (fun _ h => List.mem_append_left _ (List.mem_append_right _ h)) (by decide +kernel))) (goodIn_sub (fun _ h => List.mem_append_right _ h) (by decide +kernel))
set_option maxRecDepth 20000 in
theorem gL_law_L_toss : GoodIn wsL_law (va_wsS RL 85 yL_toss wsL_toss) := goodIn_app (goodIn_of _ (by decide +kernel)) ggL_law_L_toss
set_option maxRecDepth 20000 in
theorem ggL_law_X2_toss : GoodIn wsL_law wsX2_toss := goodIn_r _ [112, 67, 97, 68, 69, 5, 70, 71, 72, 73, 74, 98, 99, 100, 101, 38, 39, 40, 41, 449, 450, 451, 452, 453, 454, 455, 456, 457, 458, 459, 460, 461, 462, 463, 464, 465] (by decide +kernel) (by decide +kernel)
set_option maxRecDepth 20000 in
theorem gL_law_X2_toss : GoodIn wsL_law (wsV RL 88 RX2 yX2_toss wsX2_toss) := goodIn_app (goodIn_of _ (by decide +kernel)) ggL_law_X2_toss
set_option maxRecDepth 20000 in
theorem ggL_law_L_rest : GoodIn wsL_law wsL_rest := goodIn_ca (goodIn_ca (goodIn_r _ [115, 47, 82, 116, 117, 118, 2, 119, 53, 54, 55, 56, 57, 87, 88, 89, 90, 91, 92, 21, 16, 17, 18, 20, 441, 442, 443, 444, 445, 446, 447, 448] (by decide +kernel) (by decide +kernel)) (goodIn_sub (fun _ h => List.mem_append_left _ (List.mem_append_left _ (List.mem_append_right _ h))) (by decide +kernel))) (goodIn_sub (fun _ h => List.mem_append_right _ h) (by decide +kernel))
set_option maxRecDepth 20000 in
theorem gL_law_L_rest : GoodIn wsL_law (va_wsS RL 89 yL_rest wsL_rest) := goodIn_app (goodIn_of _ (by decide +kernel)) ggL_law_L_rest
set_option maxRecDepth 20000 in
theorem ggL_law_X2_rest : GoodIn wsL_law wsX2_rest := goodIn_r _ [123, 67, 97, 68, 69, 5, 70, 71, 72, 73, 74, 98, 99, 100, 101, 38, 39, 40, 41, 449, 450, 451, 452, 453, 454, 455, 456, 457, 458, 459, 460, 461, 462, 463, 464, 465] (by decide +kernel) (by decide +kernel)
set_option maxRecDepth 20000 in
theorem gL_law_X2_rest : GoodIn wsL_law (wsV RL 91 RX2 yX2_rest wsX2_rest) := goodIn_app (goodIn_of _ (by decide +kernel)) ggL_law_X2_rest
set_option maxRecDepth 20000 in
theorem ggL_law_L_go : GoodIn wsL_law wsL_go := goodIn_ca (goodIn_ca (goodIn_r _ [126, 47, 82, 127, 128, 129, 2, 130, 53, 54, 55, 56, 57, 87, 88, 89, 90, 91, 92, 21, 16, 17, 18, 20, 441, 442, 443, 444, 445, 446, 447, 448] (by decide +kernel) (by decide +kernel)) (goodIn_sub (fun _ h => List.mem_append_left _ (List.mem_append_left _ (List.mem_append_right _ h))) (by decide +kernel))) (goodIn_sub (fun _ h => List.mem_append_right _ h) (by decide +kernel))
set_option maxRecDepth 20000 in
theorem gL_law_L_go : GoodIn wsL_law (va_wsS RL 92 yL_go wsL_go) := goodIn_app (goodIn_of _ (by decide +kernel)) ggL_law_L_go
set_option maxRecDepth 20000 in
theorem ggL_law_X2_go : GoodIn wsL_law wsX2_go := goodIn_r _ [134, 67, 97, 68, 69, 5, 70, 71, 72, 73, 74, 98, 99, 100, 101, 38, 39, 40, 41, 449, 450, 451, 452, 453, 454, 455, 456, 457, 458, 459, 460, 461, 462, 463, 464, 465] (by decide +kernel) (by decide +kernel)
set_option maxRecDepth 20000 in
theorem gL_law_X2_go : GoodIn wsL_law (wsV RL 94 RX2 yX2_go wsX2_go) := goodIn_app (goodIn_of _ (by decide +kernel)) ggL_law_X2_go
set_option maxRecDepth 20000 in
theorem ggL_law_L_pay : GoodIn wsL_law wsL_pay := goodIn_ca (goodIn_ca (goodIn_ca (goodIn_r _ [137, 47, 48, 82, 138, 139, 140, 2, 141, 53, 54, 55, 56, 57, 58, 59, 60, 61, 62, 87, 88, 89, 90, 91, 92, 21, 16, 17, 18, 20, 441, 442, 443, 444, 445, 446, 447, 448] (by decide +kernel) (by decide +kernel)) (goodIn_sub (fun _ h => List.mem_append_left _ (List.mem_append_left _ (List.mem_append_right _ h))) (by decide +kernel))) (goodIn_sub (fun _ h => List.mem_append_left _ (List.mem_append_right _ h)) (by decide +kernel))) (goodIn_sub (fun _ h => List.mem_append_right _ h) (by decide +kernel))
set_option maxRecDepth 20000 in
theorem gL_law_L_pay : GoodIn wsL_law (va_wsS RL 95 yL_pay wsL_pay) := goodIn_app (goodIn_of _ (by decide +kernel)) ggL_law_L_pay
set_option maxRecDepth 20000 in
theorem ggL_law_X2_pay : GoodIn wsL_law wsX2_pay := goodIn_r _ [145, 67, 97, 68, 69, 5, 70, 71, 72, 73, 74, 98, 99, 100, 101, 38, 39, 40, 41, 449, 450, 451, 452, 453, 454, 455, 456, 457, 458, 459, 460, 461, 462, 463, 464, 465] (by decide +kernel) (by decide +kernel)
set_option maxRecDepth 20000 in
theorem gL_law_X2_pay : GoodIn wsL_law (wsV RL 97 RX2 yX2_pay wsX2_pay) := goodIn_app (goodIn_of _ (by decide +kernel)) ggL_law_X2_pay
set_option maxRecDepth 20000 in
theorem ggL_law_L_buy : GoodIn wsL_law wsL_buy := goodIn_ca (goodIn_ca (goodIn_r _ [148, 48, 82, 149, 150, 151, 2, 152, 58, 59, 60, 61, 62, 87, 88, 89, 90, 91, 92, 21, 16, 17, 18, 20, 441, 442, 443, 444, 445, 446, 447, 448] (by decide +kernel) (by decide +kernel)) (goodIn_sub (fun _ h => List.mem_append_left _ (List.mem_append_right _ h)) (by decide +kernel))) (goodIn_sub (fun _ h => List.mem_append_right _ h) (by decide +kernel))
set_option maxRecDepth 20000 in
theorem gL_law_L_buy : GoodIn wsL_law (va_wsS RL 98 yL_buy wsL_buy) := goodIn_app (goodIn_of _ (by decide +kernel)) ggL_law_L_buy
set_option maxRecDepth 20000 in
theorem ggL_law_X2_buy : GoodIn wsL_law wsX2_buy := goodIn_r _ [156, 67, 97, 68, 69, 5, 70, 71, 72, 73, 74, 98, 99, 100, 101, 38, 39, 40, 41, 449, 450, 451, 452, 453, 454, 455, 456, 457, 458, 459, 460, 461, 462, 463, 464, 465] (by decide +kernel) (by decide +kernel)
set_option maxRecDepth 20000 in
theorem gL_law_X2_buy : GoodIn wsL_law (wsV RL 100 RX2 yX2_buy wsX2_buy) := goodIn_app (goodIn_of _ (by decide +kernel)) ggL_law_X2_buy
set_option maxRecDepth 20000 in
theorem ggL_law_L_strike : GoodIn wsL_law wsL_strike := goodIn_ca (goodIn_r _ [159, 47, 160, 161, 162, 2, 163, 21, 20, 53, 54, 55, 56, 57, 441, 442, 443, 444, 445, 446, 447, 448] (by decide +kernel) (by decide +kernel)) (goodIn_sub (fun _ h => List.mem_append_left _ (List.mem_append_left _ (List.mem_append_right _ h))) (by decide +kernel))
set_option maxRecDepth 20000 in
theorem gL_law_L_strike : GoodIn wsL_law (va_wsS RL 101 yL_strike wsL_strike) := goodIn_app (goodIn_of _ (by decide +kernel)) ggL_law_L_strike
set_option maxRecDepth 20000 in
theorem ggL_law_X2_strike : GoodIn wsL_law wsX2_strike := goodIn_r _ [167, 67, 41, 168, 169, 170, 5, 171, 97, 68, 69, 70, 449, 450, 451, 452, 453, 454, 455, 456, 457, 458, 459, 460, 461, 462, 463, 464, 465] (by decide +kernel) (by decide +kernel)
set_option maxRecDepth 20000 in
theorem gL_law_X2_strike : GoodIn wsL_law (wsV RL 103 RX2 yX2_strike wsX2_strike) := goodIn_app (goodIn_of _ (by decide +kernel)) ggL_law_X2_strike
set_option maxRecDepth 20000 in
theorem ggL_law_L_shift : GoodIn wsL_law wsL_shift := goodIn_ca (goodIn_r _ [174, 47, 175, 176, 177, 2, 178, 21, 16, 53, 54, 55, 56, 57, 179, 180, 181, 182, 17, 18, 20, 183, 184, 185, 441, 442, 443, 444, 445, 446, 447, 448] (by decide +kernel) (by decide +kernel)) (goodIn_sub (fun _ h => List.mem_append_left _ (List.mem_append_left _ (List.mem_append_right _ h))) (by decide +kernel))
set_option maxRecDepth 20000 in
theorem gL_law_L_shift : GoodIn wsL_law (va_wsS RL 104 yL_shift wsL_shift) := goodIn_app (goodIn_of _ (by decide +kernel)) ggL_law_L_shift
set_option maxRecDepth 20000 in
theorem ggL_law_X2_shift : GoodIn wsL_law wsX2_shift := goodIn_r _ [189, 67, 38, 168, 169, 170, 5, 171, 97, 68, 69, 70, 71, 72, 73, 74, 190, 191, 192, 193, 39, 40, 41, 449, 450, 451, 452, 453, 454, 455, 456, 457, 458, 459, 460, 461, 462, 463, 464, 465] (by decide +kernel) (by decide +kernel)
set_option maxRecDepth 20000 in
theorem gL_law_X2_shift : GoodIn wsL_law (wsV RL 106 RX2 yX2_shift wsX2_shift) := goodIn_app (goodIn_of _ (by decide +kernel)) ggL_law_X2_shift
set_option maxRecDepth 20000 in
theorem ggL_law_L_tear : GoodIn wsL_law wsL_tear := goodIn_ca (goodIn_r _ [196, 82, 197, 198, 199, 2, 200, 91, 92, 21, 16, 441, 442, 443, 444, 445, 446, 447, 448] (by decide +kernel) (by decide +kernel)) (goodIn_sub (fun _ h => List.mem_append_right _ h) (by decide +kernel))
set_option maxRecDepth 20000 in
theorem gL_law_L_tear : GoodIn wsL_law (va_wsS RL 107 yL_tear wsL_tear) := goodIn_app (goodIn_of _ (by decide +kernel)) ggL_law_L_tear
set_option maxRecDepth 20000 in
theorem ggL_law_X2_tear : GoodIn wsL_law wsX2_tear := goodIn_r _ [204, 67, 97, 38, 71, 72, 73, 5, 74, 449, 450, 451, 452, 453, 454, 455, 456, 457, 458, 459, 460, 461, 462, 463, 464, 465] (by decide +kernel) (by decide +kernel)
set_option maxRecDepth 20000 in
theorem gL_law_X2_tear : GoodIn wsL_law (wsV RL 110 RX2 yX2_tear wsX2_tear) := goodIn_app (goodIn_of _ (by decide +kernel)) ggL_law_X2_tear
set_option maxRecDepth 20000 in
theorem ggL_law_L_entry : GoodIn wsL_law wsL_entry := goodIn_ca (goodIn_r _ [207, 47, 208, 209, 210, 2, 211, 21, 16, 17, 18, 20, 53, 54, 55, 56, 57, 212, 213, 214, 215, 25, 216, 217, 218, 219, 220, 24, 221, 222, 223, 224, 225, 226, 227, 228, 229, 230, 231, 232, 233, 234, 235, 236, 237, 238, 239, 240, 241, 242, 243, 244, 245, 29, 246, 247, 248, 249, 250, 251, 252, 253, 31, 254, 255, 256, 257, 258, 259, 260, 261, 30, 262, 263, 264, 265, 266, 267, 268, 269, 270, 271, 272, 273, 274, 275, 276, 277, 278, 279, 280, 281, 282, 283, 284, 441, 442, 443, 444, 445, 446, 447, 448, 466, 467, 468, 469, 470, 471, 472, 473, 474, 475, 476] (by decide +kernel) (by decide +kernel)) (goodIn_sub (fun _ h => List.mem_append_left _ (List.mem_append_left _ (List.mem_append_right _ h))) (by decide +kernel))
set_option maxRecDepth 20000 in
theorem gL_law_L_entry : GoodIn wsL_law (va_wsS RL 111 yL_entry wsL_entry) := goodIn_app (goodIn_of _ (by decide +kernel)) ggL_law_L_entry
set_option maxRecDepth 20000 in
theorem ggL_law_X2_entry : GoodIn wsL_law wsX2_entry := goodIn_r _ [288, 67, 168, 169, 170, 5, 171, 97, 68, 69, 70, 289, 290, 291, 292, 38, 39, 40, 41, 293, 294, 295, 296, 297, 298, 299, 300, 301, 302, 303, 304, 305, 235, 236, 237, 306, 307, 308, 309, 310, 311, 312, 313, 42, 37, 314, 315, 316, 317, 318, 319, 320, 321, 322, 271, 272, 323, 324, 325, 326, 36, 327, 328, 329, 330, 71, 72, 73, 74, 449, 450, 451, 452, 453, 454, 455, 456, 457, 458, 459, 460, 461, 462, 463, 464, 465] (by decide +kernel) (by decide +kernel)
set_option maxRecDepth 20000 in
theorem gL_law_X2_entry : GoodIn wsL_law (wsV RL 113 RX2 yX2_entry wsX2_entry) := goodIn_app (goodIn_of _ (by decide +kernel)) ggL_law_X2_entry
set_option maxRecDepth 20000 in
theorem ggL_law_L_behind : GoodIn wsL_law wsL_behind := goodIn_ca (goodIn_ca (goodIn_r _ [333, 48, 47, 334, 335, 336, 2, 337, 21, 25, 58, 59, 60, 61, 62, 53, 54, 55, 56, 57, 216, 217, 218, 219, 20, 16, 17, 18, 220, 24, 221, 222, 223, 224, 225, 226, 227, 228, 229, 230, 231, 232, 233, 234, 235, 236, 237, 238, 239, 240, 241, 242, 243, 244, 245, 29, 246, 247, 248, 249, 250, 251, 252, 253, 31, 254, 255, 256, 257, 258, 259, 260, 261, 30, 262, 263, 264, 265, 266, 267, 268, 269, 270, 271, 272, 273, 274, 275, 276, 277, 278, 279, 280, 281, 282, 283, 284, 338, 339, 340, 441, 442, 443, 444, 445, 446, 447, 448, 466, 467, 468, 469, 470, 471, 472, 473, 474, 475, 476] (by decide +kernel) (by decide +kernel)) (goodIn_sub (fun _ h => List.mem_append_left _ (List.mem_append_right _ h)) (by decide +kernel))) (goodIn_sub (fun _ h => List.mem_append_left _ (List.mem_append_left _ (List.mem_append_right _ h))) (by decide +kernel))
set_option maxRecDepth 20000 in
theorem gL_law_L_behind : GoodIn wsL_law (va_wsS RL 114 yL_behind wsL_behind) := goodIn_app (goodIn_of _ (by decide +kernel)) ggL_law_L_behind
set_option maxRecDepth 20000 in
theorem ggL_law_X2_behind : GoodIn wsL_law wsX2_behind := goodIn_r _ [344, 67, 97, 13, 297, 298, 299, 300, 301, 302, 68, 69, 5, 70, 71, 72, 73, 74, 293, 294, 295, 296, 303, 304, 41, 305, 235, 236, 237, 306, 307, 308, 309, 39, 38, 40, 310, 311, 312, 313, 42, 37, 314, 315, 316, 317, 318, 319, 320, 321, 322, 271, 272, 323, 324, 325, 326, 36, 327, 328, 329, 330, 345, 346, 347, 348, 449, 450, 451, 452, 453, 454, 455, 456, 457, 458, 459, 460, 461, 462, 463, 464, 465] (by decide +kernel) (by decide +kernel)
set_option maxRecDepth 20000 in
theorem gL_law_X2_behind : GoodIn wsL_law (wsV RL 116 RX2 yX2_behind wsX2_behind) := goodIn_app (goodIn_of _ (by decide +kernel)) ggL_law_X2_behind
set_option maxRecDepth 20000 in
theorem ggL_law_L_trust : GoodIn wsL_law wsL_trust := goodIn_ca (goodIn_ca (goodIn_r _ [351, 47, 48, 352, 353, 354, 2, 355, 21, 25, 53, 54, 55, 56, 57, 58, 59, 60, 61, 62, 216, 217, 218, 219, 20, 16, 17, 18, 220, 24, 221, 222, 223, 224, 225, 226, 227, 228, 229, 230, 231, 232, 233, 234, 235, 236, 237, 238, 239, 240, 241, 242, 243, 244, 245, 29, 246, 247, 248, 249, 250, 251, 252, 253, 31, 254, 255, 256, 257, 258, 259, 260, 261, 30, 262, 263, 264, 265, 266, 267, 268, 269, 270, 271, 272, 273, 274, 275, 276, 277, 278, 279, 280, 281, 282, 283, 284, 441, 442, 443, 444, 445, 446, 447, 448, 466, 467, 468, 469, 470, 471, 472, 473, 474, 475, 476] (by decide +kernel) (by decide +kernel)) (goodIn_sub (fun _ h => List.mem_append_left _ (List.mem_append_left _ (List.mem_append_right _ h))) (by decide +kernel))) (goodIn_sub (fun _ h => List.mem_append_left _ (List.mem_append_right _ h)) (by decide +kernel))
set_option maxRecDepth 20000 in
theorem gL_law_L_trust : GoodIn wsL_law (va_wsS RL 117 yL_trust wsL_trust) := goodIn_app (goodIn_of _ (by decide +kernel)) ggL_law_L_trust
set_option maxRecDepth 20000 in
theorem ggL_law_X2_trust : GoodIn wsL_law wsX2_trust := goodIn_r _ [359, 67, 97, 300, 42, 68, 69, 5, 70, 71, 72, 73, 74, 293, 294, 295, 296, 297, 298, 299, 301, 302, 303, 304, 41, 305, 235, 236, 237, 306, 307, 308, 309, 39, 38, 40, 310, 311, 312, 313, 37, 314, 315, 316, 317, 318, 319, 320, 321, 322, 271, 272, 323, 324, 325, 326, 36, 327, 328, 329, 330, 449, 450, 451, 452, 453, 454, 455, 456, 457, 458, 459, 460, 461, 462, 463, 464, 465] (by decide +kernel) (by decide +kernel)
set_option maxRecDepth 20000 in
theorem gL_law_X2_trust : GoodIn wsL_law (wsV RL 119 RX2 yX2_trust wsX2_trust) := goodIn_app (goodIn_of _ (by decide +kernel)) ggL_law_X2_trust
set_option maxRecDepth 20000 in
theorem ggL_law_L_count : GoodIn wsL_law wsL_count := goodIn_ca (goodIn_r _ [362, 47, 363, 364, 365, 2, 366, 21, 25, 53, 54, 55, 56, 57, 216, 217, 218, 219, 20, 16, 17, 18, 220, 24, 221, 222, 223, 224, 225, 226, 227, 228, 229, 230, 231, 232, 233, 234, 235, 236, 237, 238, 239, 240, 241, 242, 243, 244, 245, 29, 246, 247, 248, 249, 250, 251, 252, 253, 31, 254, 255, 256, 257, 258, 259, 260, 261, 30, 262, 263, 264, 265, 266, 267, 268, 269, 270, 271, 272, 273, 274, 275, 276, 277, 278, 279, 280, 281, 282, 283, 284, 441, 442, 443, 444, 445, 446, 447, 448, 466, 467, 468, 469, 470, 471, 472, 473, 474, 475, 476] (by decide +kernel) (by decide +kernel)) (goodIn_sub (fun _ h => List.mem_append_left _ (List.mem_append_left _ (List.mem_append_right _ h))) (by decide +kernel))
set_option maxRecDepth 20000 in
theorem gL_law_L_count : GoodIn wsL_law (va_wsS RL 120 yL_count wsL_count) := goodIn_app (goodIn_of _ (by decide +kernel)) ggL_law_L_count
set_option maxRecDepth 20000 in
theorem ggL_law_X2_count : GoodIn wsL_law wsX2_count := goodIn_r _ [370, 67, 68, 69, 5, 70, 371, 372, 373, 374, 97, 41, 301, 297, 303, 304, 293, 294, 295, 296, 298, 299, 300, 302, 305, 235, 236, 237, 306, 307, 308, 309, 39, 38, 40, 310, 311, 312, 313, 42, 37, 314, 315, 316, 317, 318, 319, 320, 321, 322, 271, 272, 323, 324, 325, 326, 36, 327, 328, 329, 330, 71, 72, 73, 74, 449, 450, 451, 452, 453, 454, 455, 456, 457, 458, 459, 460, 461, 462, 463, 464, 465] (by decide +kernel) (by decide +kernel)
set_option maxRecDepth 20000 in
theorem gL_law_X2_count : GoodIn wsL_law (wsV RL 122 RX2 yX2_count wsX2_count) := goodIn_app (goodIn_of _ (by decide +kernel)) ggL_law_X2_count
set_option maxRecDepth 20000 in
theorem ggL_law_L_worth : GoodIn wsL_law wsL_worth := goodIn_ca (goodIn_r _ [377, 47, 378, 379, 380, 2, 381, 21, 53, 54, 55, 56, 57, 382, 383, 384, 385, 25, 216, 217, 218, 219, 20, 16, 17, 18, 220, 24, 221, 222, 223, 224, 225, 226, 227, 228, 229, 230, 231, 232, 233, 234, 235, 236, 237, 238, 239, 240, 241, 242, 243, 244, 245, 29, 246, 247, 248, 249, 250, 251, 252, 253, 31, 254, 255, 256, 257, 258, 259, 260, 261, 30, 262, 263, 264, 265, 266, 267, 268, 269, 270, 271, 272, 273, 274, 275, 276, 277, 278, 279, 280, 281, 282, 283, 284, 441, 442, 443, 444, 445, 446, 447, 448, 466, 467, 468, 469, 470, 471, 472, 473, 474, 475, 476] (by decide +kernel) (by decide +kernel)) (goodIn_sub (fun _ h => List.mem_append_left _ (List.mem_append_left _ (List.mem_append_right _ h))) (by decide +kernel))
set_option maxRecDepth 20000 in
theorem gL_law_L_worth : GoodIn wsL_law (va_wsS RL 123 yL_worth wsL_worth) := goodIn_app (goodIn_of _ (by decide +kernel)) ggL_law_L_worth
set_option maxRecDepth 20000 in
theorem ggL_law_X2_worth : GoodIn wsL_law wsX2_worth := goodIn_r _ [389, 67, 168, 169, 170, 5, 171, 97, 68, 69, 70, 390, 391, 392, 393, 297, 293, 294, 295, 296, 298, 299, 300, 301, 302, 303, 304, 41, 305, 235, 236, 237, 306, 307, 308, 309, 39, 38, 40, 310, 311, 312, 313, 42, 37, 314, 315, 316, 317, 318, 319, 320, 321, 322, 271, 272, 323, 324, 325, 326, 36, 327, 328, 329, 330, 394, 395, 396, 397, 71, 72, 73, 74, 449, 450, 451, 452, 453, 454, 455, 456, 457, 458, 459, 460, 461, 462, 463, 464, 465] (by decide +kernel) (by decide +kernel)
set_option maxRecDepth 20000 in
theorem gL_law_X2_worth : GoodIn wsL_law (wsV RL 125 RX2 yX2_worth wsX2_worth) := goodIn_app (goodIn_of _ (by decide +kernel)) ggL_law_X2_worth
set_option maxRecDepth 20000 in
theorem ggL_law_X1_best : GoodIn wsL_law wsX1_best := goodIn_r _ [401, 21, 20, 382, 383, 384, 2, 385, 25, 216, 217, 218, 219, 16, 17, 18, 220, 24, 221, 222, 223, 224, 225, 226, 227, 228, 229, 230, 231, 232, 233, 234, 235, 236, 237, 238, 239, 240, 241, 242, 243, 244, 245, 29, 246, 247, 248, 249, 250, 251, 252, 253, 31, 254, 255, 256, 257, 258, 259, 260, 261, 30, 262, 263, 264, 265, 266, 267, 268, 269, 270, 271, 272, 273, 274, 275, 276, 277, 278, 279, 280, 281, 282, 283, 284, 441, 442, 443, 444, 445, 446, 447, 448, 466, 467, 468, 469, 470, 471, 472, 473, 474, 475, 476] (by decide +kernel) (by decide +kernel)
set_option maxRecDepth 20000 in
theorem gL_law_X1_best : GoodIn wsL_law (wsV RL 126 RX1 yX1_best wsX1_best) := goodIn_app (goodIn_of _ (by decide +kernel)) ggL_law_X1_best
set_option maxRecDepth 20000 in
theorem ggL_law_X2_best : GoodIn wsL_law wsX2_best := goodIn_r _ [405, 67, 97, 41, 390, 391, 392, 5, 393, 297, 293, 294, 295, 296, 298, 299, 300, 301, 302, 303, 304, 305, 235, 236, 237, 306, 307, 308, 309, 39, 38, 40, 310, 311, 312, 313, 42, 37, 314, 315, 316, 317, 318, 319, 320, 321, 322, 271, 272, 323, 324, 325, 326, 36, 327, 328, 329, 330, 394, 395, 396, 397, 449, 450, 451, 452, 453, 454, 455, 456, 457, 458, 459, 460, 461, 462, 463, 464, 465] (by decide +kernel) (by decide +kernel)
set_option maxRecDepth 20000 in
theorem gL_law_X2_best : GoodIn wsL_law (wsV RL 129 RX2 yX2_best wsX2_best) := goodIn_app (goodIn_of _ (by decide +kernel)) ggL_law_X2_best
set_option maxRecDepth 20000 in
theorem ggL_law_L_would : GoodIn wsL_law wsL_would := goodIn_ca (goodIn_ca (goodIn_r _ [408, 47, 48, 409, 410, 411, 2, 412, 21, 25, 53, 54, 55, 56, 57, 58, 59, 60, 61, 62, 216, 217, 218, 219, 20, 16, 17, 18, 220, 24, 221, 222, 223, 224, 225, 226, 227, 228, 229, 230, 231, 232, 233, 234, 235, 236, 237, 238, 239, 240, 241, 242, 243, 244, 245, 29, 246, 247, 248, 249, 250, 251, 252, 253, 31, 254, 255, 256, 257, 258, 259, 260, 261, 30, 262, 263, 264, 265, 266, 267, 268, 269, 270, 271, 272, 273, 274, 275, 276, 277, 278, 279, 280, 281, 282, 283, 284, 441, 442, 443, 444, 445, 446, 447, 448, 466, 467, 468, 469, 470, 471, 472, 473, 474, 475, 476] (by decide +kernel) (by decide +kernel)) (goodIn_sub (fun _ h => List.mem_append_left _ (List.mem_append_left _ (List.mem_append_right _ h))) (by decide +kernel))) (goodIn_sub (fun _ h => List.mem_append_left _ (List.mem_append_right _ h)) (by decide +kernel))
set_option maxRecDepth 20000 in
theorem gL_law_L_would : GoodIn wsL_law (va_wsS RL 130 yL_would wsL_would) := goodIn_app (goodIn_of _ (by decide +kernel)) ggL_law_L_would
set_option maxRecDepth 20000 in
theorem ggL_law_X2_would : GoodIn wsL_law wsX2_would := goodIn_r _ [416, 67, 97, 68, 69, 5, 70, 71, 72, 73, 74, 293, 294, 295, 296, 297, 298, 299, 300, 301, 302, 303, 304, 41, 305, 235, 236, 237, 306, 307, 308, 309, 39, 38, 40, 310, 311, 312, 313, 42, 37, 314, 315, 316, 317, 318, 319, 320, 321, 322, 271, 272, 323, 324, 325, 326, 36, 327, 328, 329, 330, 449, 450, 451, 452, 453, 454, 455, 456, 457, 458, 459, 460, 461, 462, 463, 464, 465] (by decide +kernel) (by decide +kernel)
set_option maxRecDepth 20000 in
theorem gL_law_X2_would : GoodIn wsL_law (wsV RL 132 RX2 yX2_would wsX2_would) := goodIn_app (goodIn_of _ (by decide +kernel)) ggL_law_X2_would
set_option maxRecDepth 20000 in
theorem ggL_law_X1_mean : GoodIn wsL_law wsX1_mean := goodIn_r _ [420, 21, 25, 216, 217, 218, 2, 219, 20, 16, 17, 18, 220, 24, 221, 222, 223, 224, 225, 226, 227, 228, 229, 230, 231, 232, 233, 234, 235, 236, 237, 238, 239, 240, 241, 242, 243, 244, 245, 29, 246, 247, 248, 249, 250, 251, 252, 253, 31, 254, 255, 256, 257, 258, 259, 260, 261, 30, 262, 263, 264, 265, 266, 267, 268, 269, 270, 271, 272, 273, 274, 275, 276, 277, 278, 279, 280, 281, 282, 283, 284, 338, 339, 340, 441, 442, 443, 444, 445, 446, 447, 448, 466, 467, 468, 469, 470, 471, 472, 473, 474, 475, 476] (by decide +kernel) (by decide +kernel)
set_option maxRecDepth 20000 in
theorem gL_law_X1_mean : GoodIn wsL_law (wsV RL 133 RX1 yX1_mean wsX1_mean) := goodIn_app (goodIn_of _ (by decide +kernel)) ggL_law_X1_mean
set_option maxRecDepth 20000 in
theorem ggL_law_X2_mean : GoodIn wsL_law wsX2_mean := goodIn_r _ [424, 67, 97, 300, 293, 294, 295, 5, 296, 297, 298, 299, 301, 302, 303, 304, 41, 305, 235, 236, 237, 306, 307, 308, 309, 39, 38, 40, 310, 311, 312, 313, 42, 37, 314, 315, 316, 317, 318, 319, 320, 321, 322, 271, 272, 323, 324, 325, 326, 36, 327, 328, 329, 330, 345, 346, 347, 348, 449, 450, 451, 452, 453, 454, 455, 456, 457, 458, 459, 460, 461, 462, 463, 464, 465] (by decide +kernel) (by decide +kernel)
set_option maxRecDepth 20000 in
theorem gL_law_X2_mean : GoodIn wsL_law (wsV RL 137 RX2 yX2_mean wsX2_mean) := goodIn_app (goodIn_of _ (by decide +kernel)) ggL_law_X2_mean
set_option maxRecDepth 20000 in
theorem ggL_law_X1_digest : GoodIn wsL_law wsX1_digest := goodIn_ca (goodIn_ca (goodIn_r _ [428, 429, 430, 14, 15, 21, 431, 364, 365, 2, 366, 25, 53, 54, 55, 56, 57, 216, 217, 218, 219, 20, 16, 17, 18, 220, 24, 221, 222, 223, 224, 225, 226, 227, 228, 229, 230, 231, 232, 233, 234, 235, 236, 237, 238, 239, 240, 241, 242, 243, 244, 245, 29, 246, 247, 248, 249, 250, 251, 252, 253, 31, 254, 255, 256, 257, 258, 259, 260, 261, 30, 262, 263, 264, 265, 266, 267, 268, 269, 270, 271, 272, 273, 274, 275, 276, 277, 278, 279, 280, 281, 282, 283, 284, 432, 209, 210, 211, 212, 213, 214, 215, 433, 335, 336, 337, 58, 59, 60, 61, 62, 338, 339, 340, 434, 353, 354, 355, 441, 442, 443, 444, 445, 446, 447, 448, 466, 467, 468, 469, 470, 471, 472, 473, 474, 475, 476] (by decide +kernel) (by decide +kernel)) (goodIn_sub (fun _ h => List.mem_append_left _ (List.mem_append_left _ (List.mem_append_right _ h))) (by decide +kernel))) (goodIn_sub (fun _ h => List.mem_append_left _ (List.mem_append_right _ h)) (by decide +kernel))
set_option maxRecDepth 20000 in
theorem gL_law_X1_digest : GoodIn wsL_law (wsV RL 138 RX1 yX1_digest wsX1_digest) := goodIn_app (goodIn_of _ (by decide +kernel)) ggL_law_X1_digest
set_option maxRecDepth 20000 in
theorem ggL_law_X2_digest : GoodIn wsL_law wsX2_digest := goodIn_r _ [438, 67, 439, 440, 36, 37, 97, 297, 300, 42, 371, 372, 373, 5, 374, 41, 301, 303, 304, 293, 294, 295, 296, 298, 299, 302, 305, 235, 236, 237, 306, 307, 308, 309, 39, 38, 40, 310, 311, 312, 313, 314, 315, 316, 317, 318, 319, 320, 321, 322, 271, 272, 323, 324, 325, 326, 327, 328, 329, 330, 289, 290, 291, 292, 449, 450, 451, 452, 453, 454, 455, 456, 457, 458, 459, 460, 461, 462, 463, 464, 465] (by decide +kernel) (by decide +kernel)
set_option maxRecDepth 20000 in
theorem gL_law_X2_digest : GoodIn wsL_law (wsV RL 142 RX2 yX2_digest wsX2_digest) := goodIn_app (goodIn_of _ (by decide +kernel)) ggL_law_X2_digest
theorem dL_law_0 : decode cL_law 0 = .ok (.new 8, 3) := by decide +kernel
theorem dL_law_3 : decode cL_law 3 = .ok (.dup, 1) := by decide +kernel
theorem dL_law_4 : decode cL_law 4 = .ok (.invokespecial 68, 3) := by decide +kernel
theorem dL_law_7 : decode cL_law 7 = .ok (.astore_n 1, 1) := by decide +kernel
theorem dL_law_8 : decode cL_law 8 = .ok (.new 69, 3) := by decide +kernel
theorem dL_law_11 : decode cL_law 11 = .ok (.dup, 1) := by decide +kernel
theorem dL_law_12 : decode cL_law 12 = .ok (.invokespecial 71, 3) := by decide +kernel
theorem dL_law_15 : decode cL_law 15 = .ok (.astore_n 2, 1) := by decide +kernel
theorem dL_law_16 : decode cL_law 16 = .ok (.iconst 1, 1) := by decide +kernel
theorem dL_law_17 : decode cL_law 17 = .ok (.newarray .long, 2) := by decide +kernel
theorem dL_law_19 : decode cL_law 19 = .ok (.astore_n 3, 1) := by decide +kernel
theorem dL_law_20 : decode cL_law 20 = .ok (.iconst 0, 1) := by decide +kernel
theorem dL_law_21 : decode cL_law 21 = .ok (.istore 4, 2) := by decide +kernel
theorem dL_law_23 : decode cL_law 23 = .ok (.iload 4, 2) := by decide +kernel
theorem dL_law_25 : decode cL_law 25 = .ok (.aload_n 0, 1) := by decide +kernel
theorem dL_law_26 : decode cL_law 26 = .ok (.arraylength, 1) := by decide +kernel
theorem dL_law_27 : decode cL_law 27 = .ok (.iconst 4, 1) := by decide +kernel
theorem dL_law_28 : decode cL_law 28 = .ok (.isub, 1) := by decide +kernel
theorem dL_law_29 : decode cL_law 29 = .ok (.if_icmp .gt 1172, 3) := by decide +kernel
theorem dL_law_32 : decode cL_law 32 = .ok (.aload_n 0, 1) := by decide +kernel
theorem dL_law_33 : decode cL_law 33 = .ok (.iload 4, 2) := by decide +kernel
theorem dL_law_35 : decode cL_law 35 = .ok (.iaload, 1) := by decide +kernel
theorem dL_law_36 : decode cL_law 36 = .ok (.bipush 31, 2) := by decide +kernel
theorem dL_law_38 : decode cL_law 38 = .ok (.iand, 1) := by decide +kernel
theorem dL_law_39 : decode cL_law 39 = .ok (.tableswitch 1156 0 18 #[89, 169, 225, 293, 349, 405, 473, 529, 592, 660, 704, 772, 840, 908, 964, 1020, 1033, 1101, 1142], 89) := by decide +kernel
theorem dL_law_128 : decode cL_law 128 = .ok (.aload_n 1, 1) := by decide +kernel
theorem dL_law_129 : decode cL_law 129 = .ok (.aload_n 0, 1) := by decide +kernel
theorem dL_law_130 : decode cL_law 130 = .ok (.iload 4, 2) := by decide +kernel
theorem dL_law_132 : decode cL_law 132 = .ok (.iconst 1, 1) := by decide +kernel
theorem dL_law_133 : decode cL_law 133 = .ok (.iadd, 1) := by decide +kernel
theorem dL_law_134 : decode cL_law 134 = .ok (.iaload, 1) := by decide +kernel
theorem dL_law_135 : decode cL_law 135 = .ok (.aload_n 0, 1) := by decide +kernel
theorem dL_law_136 : decode cL_law 136 = .ok (.iload 4, 2) := by decide +kernel
theorem dL_law_138 : decode cL_law 138 = .ok (.iconst 2, 1) := by decide +kernel
theorem dL_law_139 : decode cL_law 139 = .ok (.iadd, 1) := by decide +kernel
theorem dL_law_140 : decode cL_law 140 = .ok (.iaload, 1) := by decide +kernel
theorem dL_law_141 : decode cL_law 141 = .ok (.aload_n 0, 1) := by decide +kernel
theorem dL_law_142 : decode cL_law 142 = .ok (.iload 4, 2) := by decide +kernel
theorem dL_law_144 : decode cL_law 144 = .ok (.iconst 3, 1) := by decide +kernel
theorem dL_law_145 : decode cL_law 145 = .ok (.iadd, 1) := by decide +kernel
theorem dL_law_146 : decode cL_law 146 = .ok (.iaload, 1) := by decide +kernel
theorem dL_law_147 : decode cL_law 147 = .ok (.aload_n 3, 1) := by decide +kernel
theorem dL_law_148 : decode cL_law 148 = .ok (.invokestatic 72, 3) := by decide +kernel
theorem dL_law_151 : decode cL_law 151 = .ok (.istore 5, 2) := by decide +kernel
theorem dL_law_153 : decode cL_law 153 = .ok (.aload_n 2, 1) := by decide +kernel
theorem dL_law_154 : decode cL_law 154 = .ok (.aload_n 0, 1) := by decide +kernel
theorem dL_law_155 : decode cL_law 155 = .ok (.iload 4, 2) := by decide +kernel
theorem dL_law_157 : decode cL_law 157 = .ok (.iconst 1, 1) := by decide +kernel
theorem dL_law_158 : decode cL_law 158 = .ok (.iadd, 1) := by decide +kernel
theorem dL_law_159 : decode cL_law 159 = .ok (.iaload, 1) := by decide +kernel
theorem dL_law_160 : decode cL_law 160 = .ok (.aload_n 0, 1) := by decide +kernel
theorem dL_law_161 : decode cL_law 161 = .ok (.iload 4, 2) := by decide +kernel
theorem dL_law_163 : decode cL_law 163 = .ok (.iconst 2, 1) := by decide +kernel
theorem dL_law_164 : decode cL_law 164 = .ok (.iadd, 1) := by decide +kernel
theorem dL_law_165 : decode cL_law 165 = .ok (.iaload, 1) := by decide +kernel
theorem dL_law_166 : decode cL_law 166 = .ok (.aload_n 0, 1) := by decide +kernel
theorem dL_law_167 : decode cL_law 167 = .ok (.iload 4, 2) := by decide +kernel
theorem dL_law_169 : decode cL_law 169 = .ok (.iconst 3, 1) := by decide +kernel
theorem dL_law_170 : decode cL_law 170 = .ok (.iadd, 1) := by decide +kernel
theorem dL_law_171 : decode cL_law 171 = .ok (.iaload, 1) := by decide +kernel
theorem dL_law_172 : decode cL_law 172 = .ok (.invokevirtual 77, 3) := by decide +kernel
theorem dL_law_175 : decode cL_law 175 = .ok (.istore 6, 2) := by decide +kernel
theorem dL_law_177 : decode cL_law 177 = .ok (.aload_n 2, 1) := by decide +kernel
theorem dL_law_178 : decode cL_law 178 = .ok (.invokevirtual 78, 3) := by decide +kernel
theorem dL_law_181 : decode cL_law 181 = .ok (.iload 5, 2) := by decide +kernel
theorem dL_law_183 : decode cL_law 183 = .ok (.if_icmp .eq 5, 3) := by decide +kernel
theorem dL_law_186 : decode cL_law 186 = .ok (.iconst 0, 1) := by decide +kernel
theorem dL_law_187 : decode cL_law 187 = .ok (.ireturn, 1) := by decide +kernel
theorem dL_law_188 : decode cL_law 188 = .ok (.iload 5, 2) := by decide +kernel
theorem dL_law_190 : decode cL_law 190 = .ok (.ifCond .ne 15, 3) := by decide +kernel
theorem dL_law_193 : decode cL_law 193 = .ok (.aload_n 3, 1) := by decide +kernel
theorem dL_law_194 : decode cL_law 194 = .ok (.iconst 0, 1) := by decide +kernel
theorem dL_law_195 : decode cL_law 195 = .ok (.laload, 1) := by decide +kernel
theorem dL_law_196 : decode cL_law 196 = .ok (.iload 6, 2) := by decide +kernel
theorem dL_law_198 : decode cL_law 198 = .ok (.i2l, 1) := by decide +kernel
theorem dL_law_199 : decode cL_law 199 = .ok (.lcmp, 1) := by decide +kernel
theorem dL_law_200 : decode cL_law 200 = .ok (.ifCond .eq 5, 3) := by decide +kernel
theorem dL_law_203 : decode cL_law 203 = .ok (.iconst 0, 1) := by decide +kernel
theorem dL_law_204 : decode cL_law 204 = .ok (.ireturn, 1) := by decide +kernel
theorem dL_law_205 : decode cL_law 205 = .ok (.goto 990, 3) := by decide +kernel
theorem dL_law_208 : decode cL_law 208 = .ok (.aload_n 1, 1) := by decide +kernel
theorem dL_law_209 : decode cL_law 209 = .ok (.aload_n 0, 1) := by decide +kernel
theorem dL_law_210 : decode cL_law 210 = .ok (.iload 4, 2) := by decide +kernel
theorem dL_law_212 : decode cL_law 212 = .ok (.iconst 1, 1) := by decide +kernel
theorem dL_law_213 : decode cL_law 213 = .ok (.iadd, 1) := by decide +kernel
theorem dL_law_214 : decode cL_law 214 = .ok (.iaload, 1) := by decide +kernel
theorem dL_law_215 : decode cL_law 215 = .ok (.aload_n 3, 1) := by decide +kernel
theorem dL_law_216 : decode cL_law 216 = .ok (.invokestatic 81, 3) := by decide +kernel
theorem dL_law_219 : decode cL_law 219 = .ok (.istore 5, 2) := by decide +kernel
theorem dL_law_221 : decode cL_law 221 = .ok (.aload_n 2, 1) := by decide +kernel
theorem dL_law_222 : decode cL_law 222 = .ok (.aload_n 0, 1) := by decide +kernel
theorem dL_law_223 : decode cL_law 223 = .ok (.iload 4, 2) := by decide +kernel
theorem dL_law_225 : decode cL_law 225 = .ok (.iconst 1, 1) := by decide +kernel
theorem dL_law_226 : decode cL_law 226 = .ok (.iadd, 1) := by decide +kernel
theorem dL_law_227 : decode cL_law 227 = .ok (.iaload, 1) := by decide +kernel
theorem dL_law_228 : decode cL_law 228 = .ok (.invokevirtual 84, 3) := by decide +kernel
theorem dL_law_231 : decode cL_law 231 = .ok (.istore 6, 2) := by decide +kernel
theorem dL_law_233 : decode cL_law 233 = .ok (.aload_n 2, 1) := by decide +kernel
theorem dL_law_234 : decode cL_law 234 = .ok (.invokevirtual 78, 3) := by decide +kernel
theorem dL_law_237 : decode cL_law 237 = .ok (.iload 5, 2) := by decide +kernel
theorem dL_law_239 : decode cL_law 239 = .ok (.if_icmp .eq 5, 3) := by decide +kernel
theorem dL_law_242 : decode cL_law 242 = .ok (.iconst 0, 1) := by decide +kernel
theorem dL_law_243 : decode cL_law 243 = .ok (.ireturn, 1) := by decide +kernel
theorem dL_law_244 : decode cL_law 244 = .ok (.iload 5, 2) := by decide +kernel
theorem dL_law_246 : decode cL_law 246 = .ok (.ifCond .ne 15, 3) := by decide +kernel
theorem dL_law_249 : decode cL_law 249 = .ok (.aload_n 3, 1) := by decide +kernel
theorem dL_law_250 : decode cL_law 250 = .ok (.iconst 0, 1) := by decide +kernel
theorem dL_law_251 : decode cL_law 251 = .ok (.laload, 1) := by decide +kernel
theorem dL_law_252 : decode cL_law 252 = .ok (.iload 6, 2) := by decide +kernel
theorem dL_law_254 : decode cL_law 254 = .ok (.i2l, 1) := by decide +kernel
theorem dL_law_255 : decode cL_law 255 = .ok (.lcmp, 1) := by decide +kernel
theorem dL_law_256 : decode cL_law 256 = .ok (.ifCond .eq 5, 3) := by decide +kernel
theorem dL_law_259 : decode cL_law 259 = .ok (.iconst 0, 1) := by decide +kernel
theorem dL_law_260 : decode cL_law 260 = .ok (.ireturn, 1) := by decide +kernel
theorem dL_law_261 : decode cL_law 261 = .ok (.goto 934, 3) := by decide +kernel
theorem dL_law_264 : decode cL_law 264 = .ok (.aload_n 1, 1) := by decide +kernel
theorem dL_law_265 : decode cL_law 265 = .ok (.aload_n 0, 1) := by decide +kernel
theorem dL_law_266 : decode cL_law 266 = .ok (.iload 4, 2) := by decide +kernel
theorem dL_law_268 : decode cL_law 268 = .ok (.iconst 1, 1) := by decide +kernel
theorem dL_law_269 : decode cL_law 269 = .ok (.iadd, 1) := by decide +kernel
theorem dL_law_270 : decode cL_law 270 = .ok (.iaload, 1) := by decide +kernel
theorem dL_law_271 : decode cL_law 271 = .ok (.aload_n 0, 1) := by decide +kernel
theorem dL_law_272 : decode cL_law 272 = .ok (.iload 4, 2) := by decide +kernel
theorem dL_law_274 : decode cL_law 274 = .ok (.iconst 2, 1) := by decide +kernel
theorem dL_law_275 : decode cL_law 275 = .ok (.iadd, 1) := by decide +kernel
theorem dL_law_276 : decode cL_law 276 = .ok (.iaload, 1) := by decide +kernel
theorem dL_law_277 : decode cL_law 277 = .ok (.aload_n 3, 1) := by decide +kernel
theorem dL_law_278 : decode cL_law 278 = .ok (.invokestatic 85, 3) := by decide +kernel
theorem dL_law_281 : decode cL_law 281 = .ok (.istore 5, 2) := by decide +kernel
theorem dL_law_283 : decode cL_law 283 = .ok (.aload_n 2, 1) := by decide +kernel
theorem dL_law_284 : decode cL_law 284 = .ok (.aload_n 0, 1) := by decide +kernel
theorem dL_law_285 : decode cL_law 285 = .ok (.iload 4, 2) := by decide +kernel
theorem dL_law_287 : decode cL_law 287 = .ok (.iconst 1, 1) := by decide +kernel
theorem dL_law_288 : decode cL_law 288 = .ok (.iadd, 1) := by decide +kernel
theorem dL_law_289 : decode cL_law 289 = .ok (.iaload, 1) := by decide +kernel
theorem dL_law_290 : decode cL_law 290 = .ok (.aload_n 0, 1) := by decide +kernel
theorem dL_law_291 : decode cL_law 291 = .ok (.iload 4, 2) := by decide +kernel
theorem dL_law_293 : decode cL_law 293 = .ok (.iconst 2, 1) := by decide +kernel
theorem dL_law_294 : decode cL_law 294 = .ok (.iadd, 1) := by decide +kernel
theorem dL_law_295 : decode cL_law 295 = .ok (.iaload, 1) := by decide +kernel
theorem dL_law_296 : decode cL_law 296 = .ok (.invokevirtual 88, 3) := by decide +kernel
theorem dL_law_299 : decode cL_law 299 = .ok (.istore 6, 2) := by decide +kernel
theorem dL_law_301 : decode cL_law 301 = .ok (.aload_n 2, 1) := by decide +kernel
theorem dL_law_302 : decode cL_law 302 = .ok (.invokevirtual 78, 3) := by decide +kernel
theorem dL_law_305 : decode cL_law 305 = .ok (.iload 5, 2) := by decide +kernel
theorem dL_law_307 : decode cL_law 307 = .ok (.if_icmp .eq 5, 3) := by decide +kernel
theorem dL_law_310 : decode cL_law 310 = .ok (.iconst 0, 1) := by decide +kernel
theorem dL_law_311 : decode cL_law 311 = .ok (.ireturn, 1) := by decide +kernel
theorem dL_law_312 : decode cL_law 312 = .ok (.iload 5, 2) := by decide +kernel
theorem dL_law_314 : decode cL_law 314 = .ok (.ifCond .ne 15, 3) := by decide +kernel
theorem dL_law_317 : decode cL_law 317 = .ok (.aload_n 3, 1) := by decide +kernel
theorem dL_law_318 : decode cL_law 318 = .ok (.iconst 0, 1) := by decide +kernel
theorem dL_law_319 : decode cL_law 319 = .ok (.laload, 1) := by decide +kernel
theorem dL_law_320 : decode cL_law 320 = .ok (.iload 6, 2) := by decide +kernel
theorem dL_law_322 : decode cL_law 322 = .ok (.i2l, 1) := by decide +kernel
theorem dL_law_323 : decode cL_law 323 = .ok (.lcmp, 1) := by decide +kernel
theorem dL_law_324 : decode cL_law 324 = .ok (.ifCond .eq 5, 3) := by decide +kernel
theorem dL_law_327 : decode cL_law 327 = .ok (.iconst 0, 1) := by decide +kernel
theorem dL_law_328 : decode cL_law 328 = .ok (.ireturn, 1) := by decide +kernel
theorem dL_law_329 : decode cL_law 329 = .ok (.goto 866, 3) := by decide +kernel
theorem dL_law_332 : decode cL_law 332 = .ok (.aload_n 1, 1) := by decide +kernel
theorem dL_law_333 : decode cL_law 333 = .ok (.aload_n 0, 1) := by decide +kernel
theorem dL_law_334 : decode cL_law 334 = .ok (.iload 4, 2) := by decide +kernel
theorem dL_law_336 : decode cL_law 336 = .ok (.iconst 1, 1) := by decide +kernel
theorem dL_law_337 : decode cL_law 337 = .ok (.iadd, 1) := by decide +kernel
theorem dL_law_338 : decode cL_law 338 = .ok (.iaload, 1) := by decide +kernel
theorem dL_law_339 : decode cL_law 339 = .ok (.aload_n 3, 1) := by decide +kernel
theorem dL_law_340 : decode cL_law 340 = .ok (.invokestatic 89, 3) := by decide +kernel
theorem dL_law_343 : decode cL_law 343 = .ok (.istore 5, 2) := by decide +kernel
theorem dL_law_345 : decode cL_law 345 = .ok (.aload_n 2, 1) := by decide +kernel
theorem dL_law_346 : decode cL_law 346 = .ok (.aload_n 0, 1) := by decide +kernel
theorem dL_law_347 : decode cL_law 347 = .ok (.iload 4, 2) := by decide +kernel
theorem dL_law_349 : decode cL_law 349 = .ok (.iconst 1, 1) := by decide +kernel
theorem dL_law_350 : decode cL_law 350 = .ok (.iadd, 1) := by decide +kernel
theorem dL_law_351 : decode cL_law 351 = .ok (.iaload, 1) := by decide +kernel
theorem dL_law_352 : decode cL_law 352 = .ok (.invokevirtual 91, 3) := by decide +kernel
theorem dL_law_355 : decode cL_law 355 = .ok (.istore 6, 2) := by decide +kernel
theorem dL_law_357 : decode cL_law 357 = .ok (.aload_n 2, 1) := by decide +kernel
theorem dL_law_358 : decode cL_law 358 = .ok (.invokevirtual 78, 3) := by decide +kernel
theorem dL_law_361 : decode cL_law 361 = .ok (.iload 5, 2) := by decide +kernel
theorem dL_law_363 : decode cL_law 363 = .ok (.if_icmp .eq 5, 3) := by decide +kernel
theorem dL_law_366 : decode cL_law 366 = .ok (.iconst 0, 1) := by decide +kernel
theorem dL_law_367 : decode cL_law 367 = .ok (.ireturn, 1) := by decide +kernel
theorem dL_law_368 : decode cL_law 368 = .ok (.iload 5, 2) := by decide +kernel
theorem dL_law_370 : decode cL_law 370 = .ok (.ifCond .ne 15, 3) := by decide +kernel
theorem dL_law_373 : decode cL_law 373 = .ok (.aload_n 3, 1) := by decide +kernel
theorem dL_law_374 : decode cL_law 374 = .ok (.iconst 0, 1) := by decide +kernel
theorem dL_law_375 : decode cL_law 375 = .ok (.laload, 1) := by decide +kernel
theorem dL_law_376 : decode cL_law 376 = .ok (.iload 6, 2) := by decide +kernel
theorem dL_law_378 : decode cL_law 378 = .ok (.i2l, 1) := by decide +kernel
theorem dL_law_379 : decode cL_law 379 = .ok (.lcmp, 1) := by decide +kernel
theorem dL_law_380 : decode cL_law 380 = .ok (.ifCond .eq 5, 3) := by decide +kernel
theorem dL_law_383 : decode cL_law 383 = .ok (.iconst 0, 1) := by decide +kernel
theorem dL_law_384 : decode cL_law 384 = .ok (.ireturn, 1) := by decide +kernel
theorem dL_law_385 : decode cL_law 385 = .ok (.goto 810, 3) := by decide +kernel
theorem dL_law_388 : decode cL_law 388 = .ok (.aload_n 1, 1) := by decide +kernel
theorem dL_law_389 : decode cL_law 389 = .ok (.aload_n 0, 1) := by decide +kernel
theorem dL_law_390 : decode cL_law 390 = .ok (.iload 4, 2) := by decide +kernel
theorem dL_law_392 : decode cL_law 392 = .ok (.iconst 1, 1) := by decide +kernel
theorem dL_law_393 : decode cL_law 393 = .ok (.iadd, 1) := by decide +kernel
theorem dL_law_394 : decode cL_law 394 = .ok (.iaload, 1) := by decide +kernel
theorem dL_law_395 : decode cL_law 395 = .ok (.aload_n 3, 1) := by decide +kernel
theorem dL_law_396 : decode cL_law 396 = .ok (.invokestatic 92, 3) := by decide +kernel
theorem dL_law_399 : decode cL_law 399 = .ok (.istore 5, 2) := by decide +kernel
theorem dL_law_401 : decode cL_law 401 = .ok (.aload_n 2, 1) := by decide +kernel
theorem dL_law_402 : decode cL_law 402 = .ok (.aload_n 0, 1) := by decide +kernel
theorem dL_law_403 : decode cL_law 403 = .ok (.iload 4, 2) := by decide +kernel
theorem dL_law_405 : decode cL_law 405 = .ok (.iconst 1, 1) := by decide +kernel
theorem dL_law_406 : decode cL_law 406 = .ok (.iadd, 1) := by decide +kernel
theorem dL_law_407 : decode cL_law 407 = .ok (.iaload, 1) := by decide +kernel
theorem dL_law_408 : decode cL_law 408 = .ok (.invokevirtual 94, 3) := by decide +kernel
theorem dL_law_411 : decode cL_law 411 = .ok (.istore 6, 2) := by decide +kernel
theorem dL_law_413 : decode cL_law 413 = .ok (.aload_n 2, 1) := by decide +kernel
theorem dL_law_414 : decode cL_law 414 = .ok (.invokevirtual 78, 3) := by decide +kernel
theorem dL_law_417 : decode cL_law 417 = .ok (.iload 5, 2) := by decide +kernel
theorem dL_law_419 : decode cL_law 419 = .ok (.if_icmp .eq 5, 3) := by decide +kernel
theorem dL_law_422 : decode cL_law 422 = .ok (.iconst 0, 1) := by decide +kernel
theorem dL_law_423 : decode cL_law 423 = .ok (.ireturn, 1) := by decide +kernel
theorem dL_law_424 : decode cL_law 424 = .ok (.iload 5, 2) := by decide +kernel
theorem dL_law_426 : decode cL_law 426 = .ok (.ifCond .ne 15, 3) := by decide +kernel
theorem dL_law_429 : decode cL_law 429 = .ok (.aload_n 3, 1) := by decide +kernel
theorem dL_law_430 : decode cL_law 430 = .ok (.iconst 0, 1) := by decide +kernel
theorem dL_law_431 : decode cL_law 431 = .ok (.laload, 1) := by decide +kernel
theorem dL_law_432 : decode cL_law 432 = .ok (.iload 6, 2) := by decide +kernel
theorem dL_law_434 : decode cL_law 434 = .ok (.i2l, 1) := by decide +kernel
theorem dL_law_435 : decode cL_law 435 = .ok (.lcmp, 1) := by decide +kernel
theorem dL_law_436 : decode cL_law 436 = .ok (.ifCond .eq 5, 3) := by decide +kernel
theorem dL_law_439 : decode cL_law 439 = .ok (.iconst 0, 1) := by decide +kernel
theorem dL_law_440 : decode cL_law 440 = .ok (.ireturn, 1) := by decide +kernel
theorem dL_law_441 : decode cL_law 441 = .ok (.goto 754, 3) := by decide +kernel
theorem dL_law_444 : decode cL_law 444 = .ok (.aload_n 1, 1) := by decide +kernel
theorem dL_law_445 : decode cL_law 445 = .ok (.aload_n 0, 1) := by decide +kernel
theorem dL_law_446 : decode cL_law 446 = .ok (.iload 4, 2) := by decide +kernel
theorem dL_law_448 : decode cL_law 448 = .ok (.iconst 1, 1) := by decide +kernel
theorem dL_law_449 : decode cL_law 449 = .ok (.iadd, 1) := by decide +kernel
theorem dL_law_450 : decode cL_law 450 = .ok (.iaload, 1) := by decide +kernel
theorem dL_law_451 : decode cL_law 451 = .ok (.aload_n 0, 1) := by decide +kernel
theorem dL_law_452 : decode cL_law 452 = .ok (.iload 4, 2) := by decide +kernel
theorem dL_law_454 : decode cL_law 454 = .ok (.iconst 2, 1) := by decide +kernel
theorem dL_law_455 : decode cL_law 455 = .ok (.iadd, 1) := by decide +kernel
theorem dL_law_456 : decode cL_law 456 = .ok (.iaload, 1) := by decide +kernel
theorem dL_law_457 : decode cL_law 457 = .ok (.aload_n 3, 1) := by decide +kernel
theorem dL_law_458 : decode cL_law 458 = .ok (.invokestatic 95, 3) := by decide +kernel
theorem dL_law_461 : decode cL_law 461 = .ok (.istore 5, 2) := by decide +kernel
theorem dL_law_463 : decode cL_law 463 = .ok (.aload_n 2, 1) := by decide +kernel
theorem dL_law_464 : decode cL_law 464 = .ok (.aload_n 0, 1) := by decide +kernel
theorem dL_law_465 : decode cL_law 465 = .ok (.iload 4, 2) := by decide +kernel
theorem dL_law_467 : decode cL_law 467 = .ok (.iconst 1, 1) := by decide +kernel
theorem dL_law_468 : decode cL_law 468 = .ok (.iadd, 1) := by decide +kernel
theorem dL_law_469 : decode cL_law 469 = .ok (.iaload, 1) := by decide +kernel
theorem dL_law_470 : decode cL_law 470 = .ok (.aload_n 0, 1) := by decide +kernel
theorem dL_law_471 : decode cL_law 471 = .ok (.iload 4, 2) := by decide +kernel
theorem dL_law_473 : decode cL_law 473 = .ok (.iconst 2, 1) := by decide +kernel
theorem dL_law_474 : decode cL_law 474 = .ok (.iadd, 1) := by decide +kernel
theorem dL_law_475 : decode cL_law 475 = .ok (.iaload, 1) := by decide +kernel
theorem dL_law_476 : decode cL_law 476 = .ok (.invokevirtual 97, 3) := by decide +kernel
theorem dL_law_479 : decode cL_law 479 = .ok (.istore 6, 2) := by decide +kernel
theorem dL_law_481 : decode cL_law 481 = .ok (.aload_n 2, 1) := by decide +kernel
theorem dL_law_482 : decode cL_law 482 = .ok (.invokevirtual 78, 3) := by decide +kernel
theorem dL_law_485 : decode cL_law 485 = .ok (.iload 5, 2) := by decide +kernel
theorem dL_law_487 : decode cL_law 487 = .ok (.if_icmp .eq 5, 3) := by decide +kernel
theorem dL_law_490 : decode cL_law 490 = .ok (.iconst 0, 1) := by decide +kernel
theorem dL_law_491 : decode cL_law 491 = .ok (.ireturn, 1) := by decide +kernel
theorem dL_law_492 : decode cL_law 492 = .ok (.iload 5, 2) := by decide +kernel
theorem dL_law_494 : decode cL_law 494 = .ok (.ifCond .ne 15, 3) := by decide +kernel
theorem dL_law_497 : decode cL_law 497 = .ok (.aload_n 3, 1) := by decide +kernel
theorem dL_law_498 : decode cL_law 498 = .ok (.iconst 0, 1) := by decide +kernel
theorem dL_law_499 : decode cL_law 499 = .ok (.laload, 1) := by decide +kernel
theorem dL_law_500 : decode cL_law 500 = .ok (.iload 6, 2) := by decide +kernel
theorem dL_law_502 : decode cL_law 502 = .ok (.i2l, 1) := by decide +kernel
theorem dL_law_503 : decode cL_law 503 = .ok (.lcmp, 1) := by decide +kernel
theorem dL_law_504 : decode cL_law 504 = .ok (.ifCond .eq 5, 3) := by decide +kernel
theorem dL_law_507 : decode cL_law 507 = .ok (.iconst 0, 1) := by decide +kernel
theorem dL_law_508 : decode cL_law 508 = .ok (.ireturn, 1) := by decide +kernel
theorem dL_law_509 : decode cL_law 509 = .ok (.goto 686, 3) := by decide +kernel
theorem dL_law_512 : decode cL_law 512 = .ok (.aload_n 1, 1) := by decide +kernel
theorem dL_law_513 : decode cL_law 513 = .ok (.aload_n 0, 1) := by decide +kernel
theorem dL_law_514 : decode cL_law 514 = .ok (.iload 4, 2) := by decide +kernel
theorem dL_law_516 : decode cL_law 516 = .ok (.iconst 1, 1) := by decide +kernel
theorem dL_law_517 : decode cL_law 517 = .ok (.iadd, 1) := by decide +kernel
theorem dL_law_518 : decode cL_law 518 = .ok (.iaload, 1) := by decide +kernel
theorem dL_law_519 : decode cL_law 519 = .ok (.aload_n 3, 1) := by decide +kernel
theorem dL_law_520 : decode cL_law 520 = .ok (.invokestatic 98, 3) := by decide +kernel
theorem dL_law_523 : decode cL_law 523 = .ok (.istore 5, 2) := by decide +kernel
theorem dL_law_525 : decode cL_law 525 = .ok (.aload_n 2, 1) := by decide +kernel
theorem dL_law_526 : decode cL_law 526 = .ok (.aload_n 0, 1) := by decide +kernel
theorem dL_law_527 : decode cL_law 527 = .ok (.iload 4, 2) := by decide +kernel
theorem dL_law_529 : decode cL_law 529 = .ok (.iconst 1, 1) := by decide +kernel
theorem dL_law_530 : decode cL_law 530 = .ok (.iadd, 1) := by decide +kernel
theorem dL_law_531 : decode cL_law 531 = .ok (.iaload, 1) := by decide +kernel
theorem dL_law_532 : decode cL_law 532 = .ok (.invokevirtual 100, 3) := by decide +kernel
theorem dL_law_535 : decode cL_law 535 = .ok (.istore 6, 2) := by decide +kernel
theorem dL_law_537 : decode cL_law 537 = .ok (.aload_n 2, 1) := by decide +kernel
theorem dL_law_538 : decode cL_law 538 = .ok (.invokevirtual 78, 3) := by decide +kernel
theorem dL_law_541 : decode cL_law 541 = .ok (.iload 5, 2) := by decide +kernel
theorem dL_law_543 : decode cL_law 543 = .ok (.if_icmp .eq 5, 3) := by decide +kernel
theorem dL_law_546 : decode cL_law 546 = .ok (.iconst 0, 1) := by decide +kernel
theorem dL_law_547 : decode cL_law 547 = .ok (.ireturn, 1) := by decide +kernel
theorem dL_law_548 : decode cL_law 548 = .ok (.iload 5, 2) := by decide +kernel
theorem dL_law_550 : decode cL_law 550 = .ok (.ifCond .ne 15, 3) := by decide +kernel
theorem dL_law_553 : decode cL_law 553 = .ok (.aload_n 3, 1) := by decide +kernel
theorem dL_law_554 : decode cL_law 554 = .ok (.iconst 0, 1) := by decide +kernel
theorem dL_law_555 : decode cL_law 555 = .ok (.laload, 1) := by decide +kernel
theorem dL_law_556 : decode cL_law 556 = .ok (.iload 6, 2) := by decide +kernel
theorem dL_law_558 : decode cL_law 558 = .ok (.i2l, 1) := by decide +kernel
theorem dL_law_559 : decode cL_law 559 = .ok (.lcmp, 1) := by decide +kernel
theorem dL_law_560 : decode cL_law 560 = .ok (.ifCond .eq 5, 3) := by decide +kernel
theorem dL_law_563 : decode cL_law 563 = .ok (.iconst 0, 1) := by decide +kernel
theorem dL_law_564 : decode cL_law 564 = .ok (.ireturn, 1) := by decide +kernel
theorem dL_law_565 : decode cL_law 565 = .ok (.goto 630, 3) := by decide +kernel
theorem dL_law_568 : decode cL_law 568 = .ok (.aload_n 1, 1) := by decide +kernel
theorem dL_law_569 : decode cL_law 569 = .ok (.aload_n 0, 1) := by decide +kernel
theorem dL_law_570 : decode cL_law 570 = .ok (.iload 4, 2) := by decide +kernel
theorem dL_law_572 : decode cL_law 572 = .ok (.iconst 1, 1) := by decide +kernel
theorem dL_law_573 : decode cL_law 573 = .ok (.iadd, 1) := by decide +kernel
theorem dL_law_574 : decode cL_law 574 = .ok (.iaload, 1) := by decide +kernel
theorem dL_law_575 : decode cL_law 575 = .ok (.aload_n 3, 1) := by decide +kernel
theorem dL_law_576 : decode cL_law 576 = .ok (.invokestatic 101, 3) := by decide +kernel
theorem dL_law_579 : decode cL_law 579 = .ok (.istore 5, 2) := by decide +kernel
theorem dL_law_581 : decode cL_law 581 = .ok (.aload_n 2, 1) := by decide +kernel
theorem dL_law_582 : decode cL_law 582 = .ok (.aload_n 0, 1) := by decide +kernel
theorem dL_law_583 : decode cL_law 583 = .ok (.iload 4, 2) := by decide +kernel
theorem dL_law_585 : decode cL_law 585 = .ok (.iconst 1, 1) := by decide +kernel
theorem dL_law_586 : decode cL_law 586 = .ok (.iadd, 1) := by decide +kernel
theorem dL_law_587 : decode cL_law 587 = .ok (.iaload, 1) := by decide +kernel
theorem dL_law_588 : decode cL_law 588 = .ok (.invokevirtual 103, 3) := by decide +kernel
theorem dL_law_591 : decode cL_law 591 = .ok (.istore 6, 2) := by decide +kernel
theorem dL_law_593 : decode cL_law 593 = .ok (.aload_n 2, 1) := by decide +kernel
theorem dL_law_594 : decode cL_law 594 = .ok (.invokevirtual 78, 3) := by decide +kernel
theorem dL_law_597 : decode cL_law 597 = .ok (.iload 5, 2) := by decide +kernel
theorem dL_law_599 : decode cL_law 599 = .ok (.if_icmp .eq 5, 3) := by decide +kernel
theorem dL_law_602 : decode cL_law 602 = .ok (.iconst 0, 1) := by decide +kernel
theorem dL_law_603 : decode cL_law 603 = .ok (.ireturn, 1) := by decide +kernel
theorem dL_law_604 : decode cL_law 604 = .ok (.iload 5, 2) := by decide +kernel
theorem dL_law_606 : decode cL_law 606 = .ok (.ifCond .ne 22, 3) := by decide +kernel
theorem dL_law_609 : decode cL_law 609 = .ok (.aload_n 3, 1) := by decide +kernel
theorem dL_law_610 : decode cL_law 610 = .ok (.iconst 0, 1) := by decide +kernel
theorem dL_law_611 : decode cL_law 611 = .ok (.laload, 1) := by decide +kernel
theorem dL_law_612 : decode cL_law 612 = .ok (.iload 6, 2) := by decide +kernel
theorem dL_law_614 : decode cL_law 614 = .ok (.ifCond .eq 7, 3) := by decide +kernel
theorem dL_law_617 : decode cL_law 617 = .ok (.lconst 1, 1) := by decide +kernel
theorem dL_law_618 : decode cL_law 618 = .ok (.goto 4, 3) := by decide +kernel
theorem dL_law_621 : decode cL_law 621 = .ok (.lconst 0, 1) := by decide +kernel
theorem dL_law_622 : decode cL_law 622 = .ok (.lcmp, 1) := by decide +kernel
theorem dL_law_623 : decode cL_law 623 = .ok (.ifCond .eq 5, 3) := by decide +kernel
theorem dL_law_626 : decode cL_law 626 = .ok (.iconst 0, 1) := by decide +kernel
theorem dL_law_627 : decode cL_law 627 = .ok (.ireturn, 1) := by decide +kernel
theorem dL_law_628 : decode cL_law 628 = .ok (.goto 567, 3) := by decide +kernel
theorem dL_law_631 : decode cL_law 631 = .ok (.aload_n 1, 1) := by decide +kernel
theorem dL_law_632 : decode cL_law 632 = .ok (.aload_n 0, 1) := by decide +kernel
theorem dL_law_633 : decode cL_law 633 = .ok (.iload 4, 2) := by decide +kernel
theorem dL_law_635 : decode cL_law 635 = .ok (.iconst 1, 1) := by decide +kernel
theorem dL_law_636 : decode cL_law 636 = .ok (.iadd, 1) := by decide +kernel
theorem dL_law_637 : decode cL_law 637 = .ok (.iaload, 1) := by decide +kernel
theorem dL_law_638 : decode cL_law 638 = .ok (.aload_n 0, 1) := by decide +kernel
theorem dL_law_639 : decode cL_law 639 = .ok (.iload 4, 2) := by decide +kernel
theorem dL_law_641 : decode cL_law 641 = .ok (.iconst 2, 1) := by decide +kernel
theorem dL_law_642 : decode cL_law 642 = .ok (.iadd, 1) := by decide +kernel
theorem dL_law_643 : decode cL_law 643 = .ok (.iaload, 1) := by decide +kernel
theorem dL_law_644 : decode cL_law 644 = .ok (.aload_n 3, 1) := by decide +kernel
theorem dL_law_645 : decode cL_law 645 = .ok (.invokestatic 104, 3) := by decide +kernel
theorem dL_law_648 : decode cL_law 648 = .ok (.istore 5, 2) := by decide +kernel
theorem dL_law_650 : decode cL_law 650 = .ok (.aload_n 2, 1) := by decide +kernel
theorem dL_law_651 : decode cL_law 651 = .ok (.aload_n 0, 1) := by decide +kernel
theorem dL_law_652 : decode cL_law 652 = .ok (.iload 4, 2) := by decide +kernel
theorem dL_law_654 : decode cL_law 654 = .ok (.iconst 1, 1) := by decide +kernel
theorem dL_law_655 : decode cL_law 655 = .ok (.iadd, 1) := by decide +kernel
theorem dL_law_656 : decode cL_law 656 = .ok (.iaload, 1) := by decide +kernel
theorem dL_law_657 : decode cL_law 657 = .ok (.aload_n 0, 1) := by decide +kernel
theorem dL_law_658 : decode cL_law 658 = .ok (.iload 4, 2) := by decide +kernel
theorem dL_law_660 : decode cL_law 660 = .ok (.iconst 2, 1) := by decide +kernel
theorem dL_law_661 : decode cL_law 661 = .ok (.iadd, 1) := by decide +kernel
theorem dL_law_662 : decode cL_law 662 = .ok (.iaload, 1) := by decide +kernel
theorem dL_law_663 : decode cL_law 663 = .ok (.invokevirtual 106, 3) := by decide +kernel
theorem dL_law_666 : decode cL_law 666 = .ok (.istore 6, 2) := by decide +kernel
theorem dL_law_668 : decode cL_law 668 = .ok (.aload_n 2, 1) := by decide +kernel
theorem dL_law_669 : decode cL_law 669 = .ok (.invokevirtual 78, 3) := by decide +kernel
theorem dL_law_672 : decode cL_law 672 = .ok (.iload 5, 2) := by decide +kernel
theorem dL_law_674 : decode cL_law 674 = .ok (.if_icmp .eq 5, 3) := by decide +kernel
theorem dL_law_677 : decode cL_law 677 = .ok (.iconst 0, 1) := by decide +kernel
theorem dL_law_678 : decode cL_law 678 = .ok (.ireturn, 1) := by decide +kernel
theorem dL_law_679 : decode cL_law 679 = .ok (.iload 5, 2) := by decide +kernel
theorem dL_law_681 : decode cL_law 681 = .ok (.ifCond .ne 15, 3) := by decide +kernel
theorem dL_law_684 : decode cL_law 684 = .ok (.aload_n 3, 1) := by decide +kernel
theorem dL_law_685 : decode cL_law 685 = .ok (.iconst 0, 1) := by decide +kernel
theorem dL_law_686 : decode cL_law 686 = .ok (.laload, 1) := by decide +kernel
theorem dL_law_687 : decode cL_law 687 = .ok (.iload 6, 2) := by decide +kernel
theorem dL_law_689 : decode cL_law 689 = .ok (.i2l, 1) := by decide +kernel
theorem dL_law_690 : decode cL_law 690 = .ok (.lcmp, 1) := by decide +kernel
theorem dL_law_691 : decode cL_law 691 = .ok (.ifCond .eq 5, 3) := by decide +kernel
theorem dL_law_694 : decode cL_law 694 = .ok (.iconst 0, 1) := by decide +kernel
theorem dL_law_695 : decode cL_law 695 = .ok (.ireturn, 1) := by decide +kernel
theorem dL_law_696 : decode cL_law 696 = .ok (.goto 499, 3) := by decide +kernel
theorem dL_law_699 : decode cL_law 699 = .ok (.aload_n 1, 1) := by decide +kernel
theorem dL_law_700 : decode cL_law 700 = .ok (.aload_n 3, 1) := by decide +kernel
theorem dL_law_701 : decode cL_law 701 = .ok (.invokestatic 107, 3) := by decide +kernel
theorem dL_law_704 : decode cL_law 704 = .ok (.istore 5, 2) := by decide +kernel
theorem dL_law_706 : decode cL_law 706 = .ok (.aload_n 2, 1) := by decide +kernel
theorem dL_law_707 : decode cL_law 707 = .ok (.invokevirtual 110, 3) := by decide +kernel
theorem dL_law_710 : decode cL_law 710 = .ok (.istore 6, 2) := by decide +kernel
theorem dL_law_712 : decode cL_law 712 = .ok (.aload_n 2, 1) := by decide +kernel
theorem dL_law_713 : decode cL_law 713 = .ok (.invokevirtual 78, 3) := by decide +kernel
theorem dL_law_716 : decode cL_law 716 = .ok (.iload 5, 2) := by decide +kernel
theorem dL_law_718 : decode cL_law 718 = .ok (.if_icmp .eq 5, 3) := by decide +kernel
theorem dL_law_721 : decode cL_law 721 = .ok (.iconst 0, 1) := by decide +kernel
theorem dL_law_722 : decode cL_law 722 = .ok (.ireturn, 1) := by decide +kernel
theorem dL_law_723 : decode cL_law 723 = .ok (.iload 5, 2) := by decide +kernel
theorem dL_law_725 : decode cL_law 725 = .ok (.ifCond .ne 15, 3) := by decide +kernel
theorem dL_law_728 : decode cL_law 728 = .ok (.aload_n 3, 1) := by decide +kernel
theorem dL_law_729 : decode cL_law 729 = .ok (.iconst 0, 1) := by decide +kernel
theorem dL_law_730 : decode cL_law 730 = .ok (.laload, 1) := by decide +kernel
theorem dL_law_731 : decode cL_law 731 = .ok (.iload 6, 2) := by decide +kernel
theorem dL_law_733 : decode cL_law 733 = .ok (.i2l, 1) := by decide +kernel
theorem dL_law_734 : decode cL_law 734 = .ok (.lcmp, 1) := by decide +kernel
theorem dL_law_735 : decode cL_law 735 = .ok (.ifCond .eq 5, 3) := by decide +kernel
theorem dL_law_738 : decode cL_law 738 = .ok (.iconst 0, 1) := by decide +kernel
theorem dL_law_739 : decode cL_law 739 = .ok (.ireturn, 1) := by decide +kernel
theorem dL_law_740 : decode cL_law 740 = .ok (.goto 455, 3) := by decide +kernel
theorem dL_law_743 : decode cL_law 743 = .ok (.aload_n 1, 1) := by decide +kernel
theorem dL_law_744 : decode cL_law 744 = .ok (.aload_n 0, 1) := by decide +kernel
theorem dL_law_745 : decode cL_law 745 = .ok (.iload 4, 2) := by decide +kernel
theorem dL_law_747 : decode cL_law 747 = .ok (.iconst 1, 1) := by decide +kernel
theorem dL_law_748 : decode cL_law 748 = .ok (.iadd, 1) := by decide +kernel
theorem dL_law_749 : decode cL_law 749 = .ok (.iaload, 1) := by decide +kernel
theorem dL_law_750 : decode cL_law 750 = .ok (.aload_n 0, 1) := by decide +kernel
theorem dL_law_751 : decode cL_law 751 = .ok (.iload 4, 2) := by decide +kernel
theorem dL_law_753 : decode cL_law 753 = .ok (.iconst 2, 1) := by decide +kernel
theorem dL_law_754 : decode cL_law 754 = .ok (.iadd, 1) := by decide +kernel
theorem dL_law_755 : decode cL_law 755 = .ok (.iaload, 1) := by decide +kernel
theorem dL_law_756 : decode cL_law 756 = .ok (.aload_n 3, 1) := by decide +kernel
theorem dL_law_757 : decode cL_law 757 = .ok (.invokestatic 111, 3) := by decide +kernel
theorem dL_law_760 : decode cL_law 760 = .ok (.istore 5, 2) := by decide +kernel
theorem dL_law_762 : decode cL_law 762 = .ok (.aload_n 2, 1) := by decide +kernel
theorem dL_law_763 : decode cL_law 763 = .ok (.aload_n 0, 1) := by decide +kernel
theorem dL_law_764 : decode cL_law 764 = .ok (.iload 4, 2) := by decide +kernel
theorem dL_law_766 : decode cL_law 766 = .ok (.iconst 1, 1) := by decide +kernel
theorem dL_law_767 : decode cL_law 767 = .ok (.iadd, 1) := by decide +kernel
theorem dL_law_768 : decode cL_law 768 = .ok (.iaload, 1) := by decide +kernel
theorem dL_law_769 : decode cL_law 769 = .ok (.aload_n 0, 1) := by decide +kernel
theorem dL_law_770 : decode cL_law 770 = .ok (.iload 4, 2) := by decide +kernel
theorem dL_law_772 : decode cL_law 772 = .ok (.iconst 2, 1) := by decide +kernel
theorem dL_law_773 : decode cL_law 773 = .ok (.iadd, 1) := by decide +kernel
theorem dL_law_774 : decode cL_law 774 = .ok (.iaload, 1) := by decide +kernel
theorem dL_law_775 : decode cL_law 775 = .ok (.invokevirtual 113, 3) := by decide +kernel
theorem dL_law_778 : decode cL_law 778 = .ok (.istore 6, 2) := by decide +kernel
theorem dL_law_780 : decode cL_law 780 = .ok (.aload_n 2, 1) := by decide +kernel
theorem dL_law_781 : decode cL_law 781 = .ok (.invokevirtual 78, 3) := by decide +kernel
theorem dL_law_784 : decode cL_law 784 = .ok (.iload 5, 2) := by decide +kernel
theorem dL_law_786 : decode cL_law 786 = .ok (.if_icmp .eq 5, 3) := by decide +kernel
theorem dL_law_789 : decode cL_law 789 = .ok (.iconst 0, 1) := by decide +kernel
theorem dL_law_790 : decode cL_law 790 = .ok (.ireturn, 1) := by decide +kernel
theorem dL_law_791 : decode cL_law 791 = .ok (.iload 5, 2) := by decide +kernel
theorem dL_law_793 : decode cL_law 793 = .ok (.ifCond .ne 15, 3) := by decide +kernel
theorem dL_law_796 : decode cL_law 796 = .ok (.aload_n 3, 1) := by decide +kernel
theorem dL_law_797 : decode cL_law 797 = .ok (.iconst 0, 1) := by decide +kernel
theorem dL_law_798 : decode cL_law 798 = .ok (.laload, 1) := by decide +kernel
theorem dL_law_799 : decode cL_law 799 = .ok (.iload 6, 2) := by decide +kernel
theorem dL_law_801 : decode cL_law 801 = .ok (.i2l, 1) := by decide +kernel
theorem dL_law_802 : decode cL_law 802 = .ok (.lcmp, 1) := by decide +kernel
theorem dL_law_803 : decode cL_law 803 = .ok (.ifCond .eq 5, 3) := by decide +kernel
theorem dL_law_806 : decode cL_law 806 = .ok (.iconst 0, 1) := by decide +kernel
theorem dL_law_807 : decode cL_law 807 = .ok (.ireturn, 1) := by decide +kernel
theorem dL_law_808 : decode cL_law 808 = .ok (.goto 387, 3) := by decide +kernel
theorem dL_law_811 : decode cL_law 811 = .ok (.aload_n 1, 1) := by decide +kernel
theorem dL_law_812 : decode cL_law 812 = .ok (.aload_n 0, 1) := by decide +kernel
theorem dL_law_813 : decode cL_law 813 = .ok (.iload 4, 2) := by decide +kernel
theorem dL_law_815 : decode cL_law 815 = .ok (.iconst 1, 1) := by decide +kernel
theorem dL_law_816 : decode cL_law 816 = .ok (.iadd, 1) := by decide +kernel
theorem dL_law_817 : decode cL_law 817 = .ok (.iaload, 1) := by decide +kernel
theorem dL_law_818 : decode cL_law 818 = .ok (.aload_n 0, 1) := by decide +kernel
theorem dL_law_819 : decode cL_law 819 = .ok (.iload 4, 2) := by decide +kernel
theorem dL_law_821 : decode cL_law 821 = .ok (.iconst 2, 1) := by decide +kernel
theorem dL_law_822 : decode cL_law 822 = .ok (.iadd, 1) := by decide +kernel
theorem dL_law_823 : decode cL_law 823 = .ok (.iaload, 1) := by decide +kernel
theorem dL_law_824 : decode cL_law 824 = .ok (.aload_n 3, 1) := by decide +kernel
theorem dL_law_825 : decode cL_law 825 = .ok (.invokestatic 114, 3) := by decide +kernel
theorem dL_law_828 : decode cL_law 828 = .ok (.istore 5, 2) := by decide +kernel
theorem dL_law_830 : decode cL_law 830 = .ok (.aload_n 2, 1) := by decide +kernel
theorem dL_law_831 : decode cL_law 831 = .ok (.aload_n 0, 1) := by decide +kernel
theorem dL_law_832 : decode cL_law 832 = .ok (.iload 4, 2) := by decide +kernel
theorem dL_law_834 : decode cL_law 834 = .ok (.iconst 1, 1) := by decide +kernel
theorem dL_law_835 : decode cL_law 835 = .ok (.iadd, 1) := by decide +kernel
theorem dL_law_836 : decode cL_law 836 = .ok (.iaload, 1) := by decide +kernel
theorem dL_law_837 : decode cL_law 837 = .ok (.aload_n 0, 1) := by decide +kernel
theorem dL_law_838 : decode cL_law 838 = .ok (.iload 4, 2) := by decide +kernel
theorem dL_law_840 : decode cL_law 840 = .ok (.iconst 2, 1) := by decide +kernel
theorem dL_law_841 : decode cL_law 841 = .ok (.iadd, 1) := by decide +kernel
theorem dL_law_842 : decode cL_law 842 = .ok (.iaload, 1) := by decide +kernel
theorem dL_law_843 : decode cL_law 843 = .ok (.invokevirtual 116, 3) := by decide +kernel
theorem dL_law_846 : decode cL_law 846 = .ok (.istore 6, 2) := by decide +kernel
theorem dL_law_848 : decode cL_law 848 = .ok (.aload_n 2, 1) := by decide +kernel
theorem dL_law_849 : decode cL_law 849 = .ok (.invokevirtual 78, 3) := by decide +kernel
theorem dL_law_852 : decode cL_law 852 = .ok (.iload 5, 2) := by decide +kernel
theorem dL_law_854 : decode cL_law 854 = .ok (.if_icmp .eq 5, 3) := by decide +kernel
theorem dL_law_857 : decode cL_law 857 = .ok (.iconst 0, 1) := by decide +kernel
theorem dL_law_858 : decode cL_law 858 = .ok (.ireturn, 1) := by decide +kernel
theorem dL_law_859 : decode cL_law 859 = .ok (.iload 5, 2) := by decide +kernel
theorem dL_law_861 : decode cL_law 861 = .ok (.ifCond .ne 15, 3) := by decide +kernel
theorem dL_law_864 : decode cL_law 864 = .ok (.aload_n 3, 1) := by decide +kernel
theorem dL_law_865 : decode cL_law 865 = .ok (.iconst 0, 1) := by decide +kernel
theorem dL_law_866 : decode cL_law 866 = .ok (.laload, 1) := by decide +kernel
theorem dL_law_867 : decode cL_law 867 = .ok (.iload 6, 2) := by decide +kernel
theorem dL_law_869 : decode cL_law 869 = .ok (.i2l, 1) := by decide +kernel
theorem dL_law_870 : decode cL_law 870 = .ok (.lcmp, 1) := by decide +kernel
theorem dL_law_871 : decode cL_law 871 = .ok (.ifCond .eq 5, 3) := by decide +kernel
theorem dL_law_874 : decode cL_law 874 = .ok (.iconst 0, 1) := by decide +kernel
theorem dL_law_875 : decode cL_law 875 = .ok (.ireturn, 1) := by decide +kernel
theorem dL_law_876 : decode cL_law 876 = .ok (.goto 319, 3) := by decide +kernel
theorem dL_law_879 : decode cL_law 879 = .ok (.aload_n 1, 1) := by decide +kernel
theorem dL_law_880 : decode cL_law 880 = .ok (.aload_n 0, 1) := by decide +kernel
theorem dL_law_881 : decode cL_law 881 = .ok (.iload 4, 2) := by decide +kernel
theorem dL_law_883 : decode cL_law 883 = .ok (.iconst 1, 1) := by decide +kernel
theorem dL_law_884 : decode cL_law 884 = .ok (.iadd, 1) := by decide +kernel
theorem dL_law_885 : decode cL_law 885 = .ok (.iaload, 1) := by decide +kernel
theorem dL_law_886 : decode cL_law 886 = .ok (.aload_n 0, 1) := by decide +kernel
theorem dL_law_887 : decode cL_law 887 = .ok (.iload 4, 2) := by decide +kernel
theorem dL_law_889 : decode cL_law 889 = .ok (.iconst 2, 1) := by decide +kernel
theorem dL_law_890 : decode cL_law 890 = .ok (.iadd, 1) := by decide +kernel
theorem dL_law_891 : decode cL_law 891 = .ok (.iaload, 1) := by decide +kernel
theorem dL_law_892 : decode cL_law 892 = .ok (.aload_n 3, 1) := by decide +kernel
theorem dL_law_893 : decode cL_law 893 = .ok (.invokestatic 117, 3) := by decide +kernel
theorem dL_law_896 : decode cL_law 896 = .ok (.istore 5, 2) := by decide +kernel
theorem dL_law_898 : decode cL_law 898 = .ok (.aload_n 2, 1) := by decide +kernel
theorem dL_law_899 : decode cL_law 899 = .ok (.aload_n 0, 1) := by decide +kernel
theorem dL_law_900 : decode cL_law 900 = .ok (.iload 4, 2) := by decide +kernel
theorem dL_law_902 : decode cL_law 902 = .ok (.iconst 1, 1) := by decide +kernel
theorem dL_law_903 : decode cL_law 903 = .ok (.iadd, 1) := by decide +kernel
theorem dL_law_904 : decode cL_law 904 = .ok (.iaload, 1) := by decide +kernel
theorem dL_law_905 : decode cL_law 905 = .ok (.aload_n 0, 1) := by decide +kernel
theorem dL_law_906 : decode cL_law 906 = .ok (.iload 4, 2) := by decide +kernel
theorem dL_law_908 : decode cL_law 908 = .ok (.iconst 2, 1) := by decide +kernel
theorem dL_law_909 : decode cL_law 909 = .ok (.iadd, 1) := by decide +kernel
theorem dL_law_910 : decode cL_law 910 = .ok (.iaload, 1) := by decide +kernel
theorem dL_law_911 : decode cL_law 911 = .ok (.invokevirtual 119, 3) := by decide +kernel
theorem dL_law_914 : decode cL_law 914 = .ok (.istore 6, 2) := by decide +kernel
theorem dL_law_916 : decode cL_law 916 = .ok (.aload_n 2, 1) := by decide +kernel
theorem dL_law_917 : decode cL_law 917 = .ok (.invokevirtual 78, 3) := by decide +kernel
theorem dL_law_920 : decode cL_law 920 = .ok (.iload 5, 2) := by decide +kernel
theorem dL_law_922 : decode cL_law 922 = .ok (.if_icmp .eq 5, 3) := by decide +kernel
theorem dL_law_925 : decode cL_law 925 = .ok (.iconst 0, 1) := by decide +kernel
theorem dL_law_926 : decode cL_law 926 = .ok (.ireturn, 1) := by decide +kernel
theorem dL_law_927 : decode cL_law 927 = .ok (.iload 5, 2) := by decide +kernel
theorem dL_law_929 : decode cL_law 929 = .ok (.ifCond .ne 15, 3) := by decide +kernel
theorem dL_law_932 : decode cL_law 932 = .ok (.aload_n 3, 1) := by decide +kernel
theorem dL_law_933 : decode cL_law 933 = .ok (.iconst 0, 1) := by decide +kernel
theorem dL_law_934 : decode cL_law 934 = .ok (.laload, 1) := by decide +kernel
theorem dL_law_935 : decode cL_law 935 = .ok (.iload 6, 2) := by decide +kernel
theorem dL_law_937 : decode cL_law 937 = .ok (.i2l, 1) := by decide +kernel
theorem dL_law_938 : decode cL_law 938 = .ok (.lcmp, 1) := by decide +kernel
theorem dL_law_939 : decode cL_law 939 = .ok (.ifCond .eq 5, 3) := by decide +kernel
theorem dL_law_942 : decode cL_law 942 = .ok (.iconst 0, 1) := by decide +kernel
theorem dL_law_943 : decode cL_law 943 = .ok (.ireturn, 1) := by decide +kernel
theorem dL_law_944 : decode cL_law 944 = .ok (.goto 251, 3) := by decide +kernel
theorem dL_law_947 : decode cL_law 947 = .ok (.aload_n 1, 1) := by decide +kernel
theorem dL_law_948 : decode cL_law 948 = .ok (.aload_n 0, 1) := by decide +kernel
theorem dL_law_949 : decode cL_law 949 = .ok (.iload 4, 2) := by decide +kernel
theorem dL_law_951 : decode cL_law 951 = .ok (.iconst 1, 1) := by decide +kernel
theorem dL_law_952 : decode cL_law 952 = .ok (.iadd, 1) := by decide +kernel
theorem dL_law_953 : decode cL_law 953 = .ok (.iaload, 1) := by decide +kernel
theorem dL_law_954 : decode cL_law 954 = .ok (.aload_n 3, 1) := by decide +kernel
theorem dL_law_955 : decode cL_law 955 = .ok (.invokestatic 120, 3) := by decide +kernel
theorem dL_law_958 : decode cL_law 958 = .ok (.istore 5, 2) := by decide +kernel
theorem dL_law_960 : decode cL_law 960 = .ok (.aload_n 2, 1) := by decide +kernel
theorem dL_law_961 : decode cL_law 961 = .ok (.aload_n 0, 1) := by decide +kernel
theorem dL_law_962 : decode cL_law 962 = .ok (.iload 4, 2) := by decide +kernel
theorem dL_law_964 : decode cL_law 964 = .ok (.iconst 1, 1) := by decide +kernel
theorem dL_law_965 : decode cL_law 965 = .ok (.iadd, 1) := by decide +kernel
theorem dL_law_966 : decode cL_law 966 = .ok (.iaload, 1) := by decide +kernel
theorem dL_law_967 : decode cL_law 967 = .ok (.invokevirtual 122, 3) := by decide +kernel
theorem dL_law_970 : decode cL_law 970 = .ok (.istore 6, 2) := by decide +kernel
theorem dL_law_972 : decode cL_law 972 = .ok (.aload_n 2, 1) := by decide +kernel
theorem dL_law_973 : decode cL_law 973 = .ok (.invokevirtual 78, 3) := by decide +kernel
theorem dL_law_976 : decode cL_law 976 = .ok (.iload 5, 2) := by decide +kernel
theorem dL_law_978 : decode cL_law 978 = .ok (.if_icmp .eq 5, 3) := by decide +kernel
theorem dL_law_981 : decode cL_law 981 = .ok (.iconst 0, 1) := by decide +kernel
theorem dL_law_982 : decode cL_law 982 = .ok (.ireturn, 1) := by decide +kernel
theorem dL_law_983 : decode cL_law 983 = .ok (.iload 5, 2) := by decide +kernel
theorem dL_law_985 : decode cL_law 985 = .ok (.ifCond .ne 15, 3) := by decide +kernel
theorem dL_law_988 : decode cL_law 988 = .ok (.aload_n 3, 1) := by decide +kernel
theorem dL_law_989 : decode cL_law 989 = .ok (.iconst 0, 1) := by decide +kernel
theorem dL_law_990 : decode cL_law 990 = .ok (.laload, 1) := by decide +kernel
theorem dL_law_991 : decode cL_law 991 = .ok (.iload 6, 2) := by decide +kernel
theorem dL_law_993 : decode cL_law 993 = .ok (.i2l, 1) := by decide +kernel
theorem dL_law_994 : decode cL_law 994 = .ok (.lcmp, 1) := by decide +kernel
theorem dL_law_995 : decode cL_law 995 = .ok (.ifCond .eq 5, 3) := by decide +kernel
theorem dL_law_998 : decode cL_law 998 = .ok (.iconst 0, 1) := by decide +kernel
theorem dL_law_999 : decode cL_law 999 = .ok (.ireturn, 1) := by decide +kernel
theorem dL_law_1000 : decode cL_law 1000 = .ok (.goto 195, 3) := by decide +kernel
theorem dL_law_1003 : decode cL_law 1003 = .ok (.aload_n 1, 1) := by decide +kernel
theorem dL_law_1004 : decode cL_law 1004 = .ok (.aload_n 0, 1) := by decide +kernel
theorem dL_law_1005 : decode cL_law 1005 = .ok (.iload 4, 2) := by decide +kernel
theorem dL_law_1007 : decode cL_law 1007 = .ok (.iconst 1, 1) := by decide +kernel
theorem dL_law_1008 : decode cL_law 1008 = .ok (.iadd, 1) := by decide +kernel
theorem dL_law_1009 : decode cL_law 1009 = .ok (.iaload, 1) := by decide +kernel
theorem dL_law_1010 : decode cL_law 1010 = .ok (.aload_n 3, 1) := by decide +kernel
theorem dL_law_1011 : decode cL_law 1011 = .ok (.invokestatic 123, 3) := by decide +kernel
theorem dL_law_1014 : decode cL_law 1014 = .ok (.istore 5, 2) := by decide +kernel
theorem dL_law_1016 : decode cL_law 1016 = .ok (.aload_n 2, 1) := by decide +kernel
theorem dL_law_1017 : decode cL_law 1017 = .ok (.aload_n 0, 1) := by decide +kernel
theorem dL_law_1018 : decode cL_law 1018 = .ok (.iload 4, 2) := by decide +kernel
theorem dL_law_1020 : decode cL_law 1020 = .ok (.iconst 1, 1) := by decide +kernel
theorem dL_law_1021 : decode cL_law 1021 = .ok (.iadd, 1) := by decide +kernel
theorem dL_law_1022 : decode cL_law 1022 = .ok (.iaload, 1) := by decide +kernel
theorem dL_law_1023 : decode cL_law 1023 = .ok (.invokevirtual 125, 3) := by decide +kernel
theorem dL_law_1026 : decode cL_law 1026 = .ok (.istore 6, 2) := by decide +kernel
theorem dL_law_1028 : decode cL_law 1028 = .ok (.aload_n 2, 1) := by decide +kernel
theorem dL_law_1029 : decode cL_law 1029 = .ok (.invokevirtual 78, 3) := by decide +kernel
theorem dL_law_1032 : decode cL_law 1032 = .ok (.iload 5, 2) := by decide +kernel
theorem dL_law_1034 : decode cL_law 1034 = .ok (.if_icmp .eq 5, 3) := by decide +kernel
theorem dL_law_1037 : decode cL_law 1037 = .ok (.iconst 0, 1) := by decide +kernel
theorem dL_law_1038 : decode cL_law 1038 = .ok (.ireturn, 1) := by decide +kernel
theorem dL_law_1039 : decode cL_law 1039 = .ok (.iload 5, 2) := by decide +kernel
theorem dL_law_1041 : decode cL_law 1041 = .ok (.ifCond .ne 15, 3) := by decide +kernel
theorem dL_law_1044 : decode cL_law 1044 = .ok (.aload_n 3, 1) := by decide +kernel
theorem dL_law_1045 : decode cL_law 1045 = .ok (.iconst 0, 1) := by decide +kernel
theorem dL_law_1046 : decode cL_law 1046 = .ok (.laload, 1) := by decide +kernel
theorem dL_law_1047 : decode cL_law 1047 = .ok (.iload 6, 2) := by decide +kernel
theorem dL_law_1049 : decode cL_law 1049 = .ok (.i2l, 1) := by decide +kernel
theorem dL_law_1050 : decode cL_law 1050 = .ok (.lcmp, 1) := by decide +kernel
theorem dL_law_1051 : decode cL_law 1051 = .ok (.ifCond .eq 5, 3) := by decide +kernel
theorem dL_law_1054 : decode cL_law 1054 = .ok (.iconst 0, 1) := by decide +kernel
theorem dL_law_1055 : decode cL_law 1055 = .ok (.ireturn, 1) := by decide +kernel
theorem dL_law_1056 : decode cL_law 1056 = .ok (.goto 139, 3) := by decide +kernel
theorem dL_law_1059 : decode cL_law 1059 = .ok (.aload_n 1, 1) := by decide +kernel
theorem dL_law_1060 : decode cL_law 1060 = .ok (.invokevirtual 126, 3) := by decide +kernel
theorem dL_law_1063 : decode cL_law 1063 = .ok (.aload_n 2, 1) := by decide +kernel
theorem dL_law_1064 : decode cL_law 1064 = .ok (.invokevirtual 129, 3) := by decide +kernel
theorem dL_law_1067 : decode cL_law 1067 = .ok (.if_icmp .eq 128, 3) := by decide +kernel
theorem dL_law_1070 : decode cL_law 1070 = .ok (.iconst 0, 1) := by decide +kernel
theorem dL_law_1071 : decode cL_law 1071 = .ok (.ireturn, 1) := by decide +kernel
theorem dL_law_1072 : decode cL_law 1072 = .ok (.aload_n 1, 1) := by decide +kernel
theorem dL_law_1073 : decode cL_law 1073 = .ok (.aload_n 0, 1) := by decide +kernel
theorem dL_law_1074 : decode cL_law 1074 = .ok (.iload 4, 2) := by decide +kernel
theorem dL_law_1076 : decode cL_law 1076 = .ok (.iconst 1, 1) := by decide +kernel
theorem dL_law_1077 : decode cL_law 1077 = .ok (.iadd, 1) := by decide +kernel
theorem dL_law_1078 : decode cL_law 1078 = .ok (.iaload, 1) := by decide +kernel
theorem dL_law_1079 : decode cL_law 1079 = .ok (.aload_n 0, 1) := by decide +kernel
theorem dL_law_1080 : decode cL_law 1080 = .ok (.iload 4, 2) := by decide +kernel
theorem dL_law_1082 : decode cL_law 1082 = .ok (.iconst 2, 1) := by decide +kernel
theorem dL_law_1083 : decode cL_law 1083 = .ok (.iadd, 1) := by decide +kernel
theorem dL_law_1084 : decode cL_law 1084 = .ok (.iaload, 1) := by decide +kernel
theorem dL_law_1085 : decode cL_law 1085 = .ok (.aload_n 3, 1) := by decide +kernel
theorem dL_law_1086 : decode cL_law 1086 = .ok (.invokestatic 130, 3) := by decide +kernel
theorem dL_law_1089 : decode cL_law 1089 = .ok (.istore 5, 2) := by decide +kernel
theorem dL_law_1091 : decode cL_law 1091 = .ok (.aload_n 2, 1) := by decide +kernel
theorem dL_law_1092 : decode cL_law 1092 = .ok (.aload_n 0, 1) := by decide +kernel
theorem dL_law_1093 : decode cL_law 1093 = .ok (.iload 4, 2) := by decide +kernel
theorem dL_law_1095 : decode cL_law 1095 = .ok (.iconst 1, 1) := by decide +kernel
theorem dL_law_1096 : decode cL_law 1096 = .ok (.iadd, 1) := by decide +kernel
theorem dL_law_1097 : decode cL_law 1097 = .ok (.iaload, 1) := by decide +kernel
theorem dL_law_1098 : decode cL_law 1098 = .ok (.aload_n 0, 1) := by decide +kernel
theorem dL_law_1099 : decode cL_law 1099 = .ok (.iload 4, 2) := by decide +kernel
theorem dL_law_1101 : decode cL_law 1101 = .ok (.iconst 2, 1) := by decide +kernel
theorem dL_law_1102 : decode cL_law 1102 = .ok (.iadd, 1) := by decide +kernel
theorem dL_law_1103 : decode cL_law 1103 = .ok (.iaload, 1) := by decide +kernel
theorem dL_law_1104 : decode cL_law 1104 = .ok (.invokevirtual 132, 3) := by decide +kernel
theorem dL_law_1107 : decode cL_law 1107 = .ok (.istore 6, 2) := by decide +kernel
theorem dL_law_1109 : decode cL_law 1109 = .ok (.aload_n 2, 1) := by decide +kernel
theorem dL_law_1110 : decode cL_law 1110 = .ok (.invokevirtual 78, 3) := by decide +kernel
theorem dL_law_1113 : decode cL_law 1113 = .ok (.iload 5, 2) := by decide +kernel
theorem dL_law_1115 : decode cL_law 1115 = .ok (.if_icmp .eq 5, 3) := by decide +kernel
theorem dL_law_1118 : decode cL_law 1118 = .ok (.iconst 0, 1) := by decide +kernel
theorem dL_law_1119 : decode cL_law 1119 = .ok (.ireturn, 1) := by decide +kernel
theorem dL_law_1120 : decode cL_law 1120 = .ok (.iload 5, 2) := by decide +kernel
theorem dL_law_1122 : decode cL_law 1122 = .ok (.ifCond .ne 15, 3) := by decide +kernel
theorem dL_law_1125 : decode cL_law 1125 = .ok (.aload_n 3, 1) := by decide +kernel
theorem dL_law_1126 : decode cL_law 1126 = .ok (.iconst 0, 1) := by decide +kernel
theorem dL_law_1127 : decode cL_law 1127 = .ok (.laload, 1) := by decide +kernel
theorem dL_law_1128 : decode cL_law 1128 = .ok (.iload 6, 2) := by decide +kernel
theorem dL_law_1130 : decode cL_law 1130 = .ok (.i2l, 1) := by decide +kernel
theorem dL_law_1131 : decode cL_law 1131 = .ok (.lcmp, 1) := by decide +kernel
theorem dL_law_1132 : decode cL_law 1132 = .ok (.ifCond .eq 5, 3) := by decide +kernel
theorem dL_law_1135 : decode cL_law 1135 = .ok (.iconst 0, 1) := by decide +kernel
theorem dL_law_1136 : decode cL_law 1136 = .ok (.ireturn, 1) := by decide +kernel
theorem dL_law_1137 : decode cL_law 1137 = .ok (.goto 58, 3) := by decide +kernel
theorem dL_law_1140 : decode cL_law 1140 = .ok (.aload_n 1, 1) := by decide +kernel
theorem dL_law_1141 : decode cL_law 1141 = .ok (.invokevirtual 133, 3) := by decide +kernel
theorem dL_law_1144 : decode cL_law 1144 = .ok (.dstore 5, 2) := by decide +kernel
theorem dL_law_1146 : decode cL_law 1146 = .ok (.aload_n 2, 1) := by decide +kernel
theorem dL_law_1147 : decode cL_law 1147 = .ok (.invokevirtual 137, 3) := by decide +kernel
theorem dL_law_1150 : decode cL_law 1150 = .ok (.dstore 7, 2) := by decide +kernel
theorem dL_law_1152 : decode cL_law 1152 = .ok (.dload 5, 2) := by decide +kernel
theorem dL_law_1154 : decode cL_law 1154 = .ok (.dload 7, 2) := by decide +kernel
theorem dL_law_1156 : decode cL_law 1156 = .ok (.dcmp .l, 1) := by decide +kernel
theorem dL_law_1157 : decode cL_law 1157 = .ok (.ifCond .eq 21, 3) := by decide +kernel
theorem dL_law_1160 : decode cL_law 1160 = .ok (.dload 5, 2) := by decide +kernel
theorem dL_law_1162 : decode cL_law 1162 = .ok (.dload 5, 2) := by decide +kernel
theorem dL_law_1164 : decode cL_law 1164 = .ok (.dcmp .l, 1) := by decide +kernel
theorem dL_law_1165 : decode cL_law 1165 = .ok (.ifCond .eq 11, 3) := by decide +kernel
theorem dL_law_1168 : decode cL_law 1168 = .ok (.dload 7, 2) := by decide +kernel
theorem dL_law_1170 : decode cL_law 1170 = .ok (.dload 7, 2) := by decide +kernel
theorem dL_law_1172 : decode cL_law 1172 = .ok (.dcmp .l, 1) := by decide +kernel
theorem dL_law_1173 : decode cL_law 1173 = .ok (.ifCond .ne 5, 3) := by decide +kernel
theorem dL_law_1176 : decode cL_law 1176 = .ok (.iconst 0, 1) := by decide +kernel
theorem dL_law_1177 : decode cL_law 1177 = .ok (.ireturn, 1) := by decide +kernel
theorem dL_law_1178 : decode cL_law 1178 = .ok (.goto 17, 3) := by decide +kernel
theorem dL_law_1181 : decode cL_law 1181 = .ok (.aload_n 1, 1) := by decide +kernel
theorem dL_law_1182 : decode cL_law 1182 = .ok (.invokevirtual 138, 3) := by decide +kernel
theorem dL_law_1185 : decode cL_law 1185 = .ok (.aload_n 2, 1) := by decide +kernel
theorem dL_law_1186 : decode cL_law 1186 = .ok (.invokevirtual 142, 3) := by decide +kernel
theorem dL_law_1189 : decode cL_law 1189 = .ok (.lcmp, 1) := by decide +kernel
theorem dL_law_1190 : decode cL_law 1190 = .ok (.ifCond .eq 5, 3) := by decide +kernel
theorem dL_law_1193 : decode cL_law 1193 = .ok (.iconst 0, 1) := by decide +kernel
theorem dL_law_1194 : decode cL_law 1194 = .ok (.ireturn, 1) := by decide +kernel
theorem dL_law_1195 : decode cL_law 1195 = .ok (.iinc 4 4, 3) := by decide +kernel
theorem dL_law_1198 : decode cL_law 1198 = .ok (.goto (-1175), 3) := by decide +kernel
theorem dL_law_1201 : decode cL_law 1201 = .ok (.iconst 1, 1) := by decide +kernel
theorem dL_law_1202 : decode cL_law 1202 = .ok (.ireturn, 1) := by decide +kernel
abbrev vwCl : List vw_C := [(RX0, TX0, 11), (RX1, TX1, 8), (RX2, TX2, 17)]
/-! ===== END printed: names ===== -/
