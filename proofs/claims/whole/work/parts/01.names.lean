/-! ===== BEGIN words of one list among another's, by their places ===== -/
theorem goodIn_r {big : List Cond} (ws : List Cond) (ps : List Nat) (hp : ws = ps.filterMap (fun i => big[i]?)) (h : ws.all goodWord = true) : GoodIn big ws := by
  intro w hw
  have h1 := List.all_eq_true.mp h w hw
  rw [hp] at hw
  obtain ⟨i, -, hi⟩ := List.mem_filterMap.mp hw
  have hm : w ∈ big := by first | exact List.mem_of_getElem? hi | exact List.getElem?_mem hi
  exact ⟨hm, good_of_word h1⟩
theorem goodIn_app {big a b : List Cond} (ha : GoodIn big a) (hb : GoodIn big b) : GoodIn big (a ++ b) := fun w h => (List.mem_append.mp h).elim (ha w) (hb w)
theorem goodIn_ca {big a b : List Cond} {c : Cond} (ha : GoodIn big (c :: a)) (hb : GoodIn big b) : GoodIn big (c :: (a ++ b)) := fun w h => (List.mem_cons.mp h).elim (fun e => ha w (List.mem_cons.mpr (Or.inl e))) (fun h => (List.mem_append.mp h).elim (fun h => ha w (List.mem_cons.mpr (Or.inr h))) (hb w))
theorem goodIn_sub {big ws : List Cond} (hm : ∀ w ∈ ws, w ∈ big) (h : ws.all goodWord = true) : GoodIn big ws := fun w hw => ⟨hm w hw, good_of_word (List.all_eq_true.mp h w hw)⟩
/-! ===== END ===== -/

/-! ===== BEGIN exceptions that leave a method, and their catching by the caller (launches without stack traces) ===== -/
section VXA
/-! The laws vx_back, vx_callV, vx_callS, vx_callSW, vx_throw0, vx_throwS follow proofs of the library, with one case more: JvmDerived/Free/Laws.lean (Back.of_free), Shelf42/LK1.lean (callV, callS), Shelf/KitTraced.lean (throwNew0V, throwNewS). -/
/-- where a method has thrown q: the class by its name, the cell, what was written, the world -/
def vx_T (XC : String → State → State → Prop) (st : State) (q : Addr) (t : State) (mc ms : Nat) (free : Addr → Prop) : Prop :=
  ∃ (E : String) (ce : Cell) (L : List Loc), XC E st t ∧ t.heap[q]? = some ce ∧ ce.vm = .none ∧ st.vm.findClass E = some ce.cls ∧ st.WarmedH t.vm ∧ st.sameButNew ({ t with vm := st.vm } : State) L mc ms ∧ ∀ z ∈ L, free z.base
def vx_Q (Qc : Array Value → State → Outcome → State → Prop) (XC : String → State → State → Prop) (mc ms : Nat) (free : Addr → Prop) : Array Value → State → Outcome → State → Prop := fun a st o t =>
  (Qc a st o t ∧ ∃ L, FrameEnd st o t L mc ms ∧ ∀ q ∈ L, free q.base) ∨ ∃ q, o = .threw q ∧ vx_T XC st q t mc ms free
/-- a callee that returns or throws -/
def vx_Met (l : Launch) (y : MethodName) (ws : List Cond) (rm : Room) (Pc : Array Value → State → Prop) (Qc : Array Value → State → Outcome → State → Prop) (XC : String → State → State → Prop) (mc ms : Nat) (free : Addr → Prop) : Prop :=
  MetFree l y (headSpec ws rm) Pc (fun _ _ _ _ _ => True) (vx_Q Qc XC mc ms free)
def vx_Post (XC : String → State → State → Prop) (mc ms : Nat) (free : Addr → Prop) : Pt → Array Value → Addr → Pt → Prop := fun A a q B =>
  ∃ (g : JFrame) (mk : MethodId) (t : State) (L : List Loc) (E : String) (ce : Cell), B.U.heap = t.heap ∧ B.U.vm = t.vm ∧ XC E (A.U.calling g mk a) t ∧ t.heap[q]? = some ce ∧ ce.vm = .none ∧ A.U.vm.findClass E = some ce.cls ∧ B.locs = A.locs ++ L ∧ (∀ z ∈ L, free z.base) ∧ B.cells = A.cells + mc ∧ B.slots = A.slots + ms
def vx_Back (l : Launch) (R : Room) (p : Program) (e : Env) (below : List Frame) (s : State) (sargs : Array Value) (y : MethodName) (len W9 : Nat)
    (Pre : Pt → Array Value → Prop) (Post : Pt → Array Value → Option Value → Pt → Prop) (PostX : Pt → Array Value → Addr → Pt → Prop) : Prop :=
  ∀ (m : MethodId) (meth : Method) (c : Code) (A : Pt) (g : JFrame) (ig : Instr) (mk : MethodId) (a : Array Value),
    Stand p l e R s m sargs below meth c A.U A.locs A.cells A.slots → g.method = m → g.locals.size = c.maxLocals → decode c.code g.pc = .ok (ig, len) →
    2 * g.monitorRoom + (g.stack.map fun v => v.category).sum ≤ W9 → A.U.methodNamed? y = some mk → Pre A a →
    (∃ (v : Option Value) (B : Pt), Stand p l e R s m sargs below meth c B.U B.locs B.cells B.slots ∧ Post A a v B ∧
      Steps p.tables e below (doInvoke e (A.U.setTop g) [] mk a).1 (B.U.setTop { g with pc := g.pc + len, stack := v.toList ++ g.stack })) ∨
    (∃ (q : Addr) (B : Pt), Stand p l e R s m sargs below meth c B.U B.locs B.cells B.slots ∧ PostX A a q B ∧
      Steps p.tables e below (doInvoke e (A.U.setTop g) [] mk a).1 ((B.U.setTop g).pushFrame (.throwing q)))
section Payer
variable {l : Launch} {R : Room} {p : Program} {e : Env} {below : List Frame} {s : State} {sargs : Array Value} {y : MethodName} {len W9 : Nat}
theorem vx_back {ws : List Cond} {rm : Room} {Pc : Array Value → State → Prop} {Qc : Array Value → State → Outcome → State → Prop} {XC : String → State → State → Prop} {mc ms : Nat} {free : Addr → Prop} {bytes : ByteArray} {maxL : Nat} {ret : Option FieldType}
    (hM : vx_Met l y ws rm Pc Qc XC mc ms free) (hblind : FrameBlind Pc) (hrc : rm.cells = mc) (hrs : rm.slots = ms)
    (hframes : rm.frames + 1 ≤ R.frames) (hlocals : W9 + (maxL + 11) + rm.locals ≤ R.locals)
    (hws : ∀ w ∈ ws, ∀ a' U, s.WarmedH U.vm → w.before a' U = true) (hcode : Cond.code y bytes maxL ret ∈ ws) (hinit : ∀ a' U, s.WarmedH U.vm → (Cond.initialized y.cls).before a' U = true) :
    vx_Back l R p e below s sargs y len W9 (PreOf R mc ms Pc) (PostOf Qc mc ms free) (vx_Post XC mc ms free) := by
  intro m meth c A g ig mk a X hg hsize hdg hW hn hp
  have h1 : (headSpec ws rm).pre.before a A.U = true := atoms_intro fun w hw => hws w hw _ _ X.warmed
  have h2 : (Cond.code y bytes maxL ret).before a A.U = true := hws _ hcode _ _ X.warmed
  have h3 : (Cond.initialized y.cls).before a A.U = true := hinit _ _ X.warmed
  have h4 : A.cells + (headSpec ws rm).room.cells ≤ R.cells := by rw [show (headSpec ws rm).room.cells = mc from hrc]; exact hp.1
  have h5 : A.slots + (headSpec ws rm).room.slots ≤ R.slots := by rw [show (headSpec ws rm).room.slots = ms from hrs]; exact hp.2.1
  have hPc : Pc a (A.U.calling g mk a) := hblind _ _ _ _ hp.2.2
  obtain ⟨U, Ls, c0, s0⟩ := A
  dsimp only [Pt.U, Pt.locs, Pt.cells, Pt.slots] at h1 h2 h3 h4 h5 X hn hPc ⊢
  obtain ⟨methY, cY, hmY, hcY, -, hlY, -, -, -, -⟩ := Cond.code_spec hn h2
  obtain ⟨kY, hkY, -⟩ := className_of_methodNamed hn
  have hinitY : kY.init = .initialized := Cond.initialized_spec (findClass_of_methodNamed hn) hkY h3
  have h : At U g.method c below := by rw [hg]; exact X.here
  have hlocals9 : W9 + (maxL + 11) + (headSpec ws rm).room.locals ≤ R.locals := hlocals
  have happ : (headSpec ws rm).appliesLoose y e.platform (U.calling g mk a) = true :=
    Spec.appliesLoose_calling (g := g) h hdg hn hkY hinitY
      (X.room_calling (g := g) (R' := (headSpec ws rm).room) hsize hmY hcY hframes (by rw [hlY]; omega) h4 h5) h1
  obtain ⟨mid, hmid⟩ := h.above
  have hfr : (U.setTop g).frames = (.java g :: mid) ++ below := by rw [State.frames_setTop' g h.top, hmid]; rfl
  obtain ⟨o, s₂, hsteps, -, hend, hq⟩ := Steps.callFree hM p X.admits X.cas X.clock (acts := []) hfr happ hPc trivial
  have hq' : vx_Q Qc XC mc ms free a (U.calling g mk a) o s₂ := hq
  rw [State.frames_setTop' g h.top] at hend
  obtain ⟨g₀, hg0⟩ := Option.isSome_iff_exists.mp h.top
  obtain ⟨r, hr⟩ := State.topJava?_eq_some.mp hg0
  have hr' : (({ U with heap := s₂.heap, slotsUsed := s₂.slotsUsed } : State).setVm s₂.vm).frames = .java g₀ :: r := hr
  rcases hq' with ⟨hqc, L, hfe, hL⟩ | ⟨q, rfl, E, ce, L, hx, hce, hcv, hcl, hW₂, hsm, hL⟩
  · obtain ⟨⟨v, rfl⟩, hW₂, e2, q2, q3, q4, q5, q6⟩ := id hfe
    have e3 : s₂ = ({ (U.calling g mk a).setFrames s₂.frames with heap := s₂.heap, slotsUsed := s₂.slotsUsed } : State).setVm s₂.vm := by
      have : s₂ = ({ s₂ with vm := (U.calling g mk a).vm } : State).setVm s₂.vm := rfl
      rw [e2] at this
      exact this
    obtain ⟨c₂, i₂, len₂, hc₂, hd₂, hf₂⟩ := hend
    have hW' : U.WarmedH s₂.vm := hW₂
    have hcc : c₂ = c := by
      have h1 : s₂.code? g.method = U.code? g.method := by
        rw [State.code?_eq, State.code?_eq, hW'.alike.method?]
      exact Option.some.inj (hc₂.symm.trans (h1.trans h.code))
    subst hcc
    have hlen : len₂ = len := by rw [hdg] at hd₂; cases hd₂; rfl
    subst hlen
    have hs₂ : s₂ = (({ U with heap := s₂.heap, slotsUsed := s₂.slotsUsed } : State).setVm s₂.vm).setTop { g with pc := g.pc + len₂, stack := v.toList ++ g.stack } := by
      refine e3.trans ?_
      rw [hf₂, State.calling_eq h.top, State.setFrames_setFrames, State.setTop_of_frames _ hr', hr]
      rfl
    have hsame : U.sameButNew ({ U with heap := s₂.heap, slotsUsed := s₂.slotsUsed } : State) L mc ms := by
      refine ⟨?_, q2, q3, q4, q5, q6⟩
      obtain ⟨t, ht, -⟩ := State.frames_cons hr
      show ({ U with heap := s₂.heap, slotsUsed := s₂.slotsUsed } : State) = { U.setFrames U.frames with heap := s₂.heap, slotsUsed := s₂.slotsUsed }
      rw [State.setFrames_self ht]
    subst hg
    refine Or.inl ⟨v, ⟨(({ U with heap := s₂.heap, slotsUsed := s₂.slotsUsed } : State).setVm s₂.vm), Ls ++ L, c0 + mc, s0 + ms⟩,
      ⟨X.admits, X.cas, X.clock, X.frames, X.room, X.hears, X.method, X.code, (X.here.setHeapUsed s₂.heap s₂.slotsUsed).setVm hW'.alike, X.tail, State.WarmedH.trans X.warmed hW', X.limits, X.bytes, X.same.trans (hsame.setVm s.vm)⟩,
      ⟨g, mk, s₂, L, rfl, rfl, hqc, rfl, hL, rfl, rfl⟩, ?_⟩
    show Steps p.tables e below _ ((({ U with heap := s₂.heap, slotsUsed := s₂.slotsUsed } : State).setVm s₂.vm).setTop { g with pc := g.pc + len₂, stack := v.toList ++ g.stack })
    rw [← hs₂]
    exact hsteps
  · obtain ⟨e2, q2, q3, q4, q5, q6⟩ := id hsm
    have e3 : s₂ = ({ (U.calling g mk a).setFrames s₂.frames with heap := s₂.heap, slotsUsed := s₂.slotsUsed } : State).setVm s₂.vm := by
      have : s₂ = ({ s₂ with vm := (U.calling g mk a).vm } : State).setVm s₂.vm := rfl
      rw [e2] at this
      exact this
    have hf₂ : s₂.frames = .throwing q :: .java g :: U.frames.tail := hend
    have hW' : U.WarmedH s₂.vm := hW₂
    have hs₂ : s₂ = ((({ U with heap := s₂.heap, slotsUsed := s₂.slotsUsed } : State).setVm s₂.vm).setTop g).pushFrame (.throwing q) := by
      refine e3.trans ?_
      rw [hf₂, State.calling_eq h.top, State.setFrames_setFrames, State.pushFrame, State.frames_setTop _ hr', State.setTop_of_frames _ hr', State.setFrames_setFrames, hr]
      rfl
    have hsame : U.sameButNew ({ U with heap := s₂.heap, slotsUsed := s₂.slotsUsed } : State) L mc ms := by
      refine ⟨?_, q2, q3, q4, q5, q6⟩
      obtain ⟨t, ht, -⟩ := State.frames_cons hr
      show ({ U with heap := s₂.heap, slotsUsed := s₂.slotsUsed } : State) = { U.setFrames U.frames with heap := s₂.heap, slotsUsed := s₂.slotsUsed }
      rw [State.setFrames_self ht]
    subst hg
    refine Or.inr ⟨q, ⟨(({ U with heap := s₂.heap, slotsUsed := s₂.slotsUsed } : State).setVm s₂.vm), Ls ++ L, c0 + mc, s0 + ms⟩,
      ⟨X.admits, X.cas, X.clock, X.frames, X.room, X.hears, X.method, X.code, (X.here.setHeapUsed s₂.heap s₂.slotsUsed).setVm hW'.alike, X.tail, State.WarmedH.trans X.warmed hW', X.limits, X.bytes, X.same.trans (hsame.setVm s.vm)⟩,
      ⟨g, mk, s₂, L, E, ce, rfl, rfl, hx, hce, hcv, hcl, rfl, hL, rfl, rfl⟩, ?_⟩
    show Steps p.tables e below _ (((({ U with heap := s₂.heap, slotsUsed := s₂.slotsUsed } : State).setVm s₂.vm).setTop g).pushFrame (.throwing q))
    rw [← hs₂]
    exact hsteps
end Payer
section Calls
variable {p : Program} {l : Launch} {e : Env} {R : Room} {s : State} {m : MethodId} {args : Array Value} {below : List Frame} {meth : Method} {c : Code} {T : State} {locs : List Loc} {cells slots : Nat}
theorem vx_callV (X : Stand p l e R s m args below meth c T locs cells slots) (hexec : p.tables.exec = Jvm.exec) {own C : String} {index : Nat} {y : MethodName} {bytes : ByteArray} {maxL : Nat} {ret : Option FieldType}
    (hown : s.vm.findClass own = some m.cls) (hlink : (Cond.methodLink own index y).before args s = true) (hinst : (Cond.instanceMethod y).before args s = true) (hsel : (Cond.selects C y y).before args s = true)
    (hcode : (Cond.code y bytes maxL ret).before args s = true) (hy : y.cls ≠ "java/lang/invoke/MethodHandle" ∧ y.cls ≠ "java/lang/invoke/VarHandle")
    {W9 : Nat} {Pre : Pt → Array Value → Prop} {Post : Pt → Array Value → Option Value → Pt → Prop} {PostX : Pt → Array Value → Addr → Pt → Prop} (hK : vx_Back l R p e below s args y 3 W9 Pre Post PostX)
    {b : Addr} {cellB : Cell} (hcell : T.heap[b]? = some cellB) (hobj : cellB.vm.isStatics = false) (hcls : s.vm.findClass C = some cellB.cls)
    {g : JFrame} (hg : g.method = m) (hsize : g.locals.size = c.maxLocals) {argsL rest : List Value} (hlen : ∀ sig, parseMethodDescriptor y.desc = some sig → argsL.length = sig.parameters.length)
    (hstack : g.stack = argsL.reverse ++ .ref b :: rest) (hW : 2 * g.monitorRoom + (rest.map fun v => v.category).sum ≤ W9) (hdg : decode c.code g.pc = .ok (.invokevirtual index, 3))
    (hpre : ∀ vm₁, s.WarmedH vm₁ → Pre ⟨T.setVm vm₁, locs, cells, slots⟩ (Value.ref b :: argsL).toArray) :
    (∃ (v : Option Value) (vm₁ : Vm) (B : Pt), s.WarmedH vm₁ ∧ Stand p l e R s m args below meth c B.U B.locs B.cells B.slots ∧ Post ⟨T.setVm vm₁, locs, cells, slots⟩ (Value.ref b :: argsL).toArray v B ∧
      ∀ target, Steps p.tables e below (B.U.setTop { g with pc := g.pc + 3, stack := v.toList ++ rest }) target → Steps p.tables e below (T.setTop g) target) ∨
    (∃ (q : Addr) (vm₁ : Vm) (B : Pt), s.WarmedH vm₁ ∧ Stand p l e R s m args below meth c B.U B.locs B.cells B.slots ∧ PostX ⟨T.setVm vm₁, locs, cells, slots⟩ (Value.ref b :: argsL).toArray q B ∧
      Steps p.tables e below (T.setTop g) ((B.U.setTop { g with stack := rest }).pushFrame (.throwing q))) := by
  obtain ⟨mk, methM, hnamed, hmethM, hstM, habM⟩ := Cond.instanceMethod_spec hinst
  obtain ⟨methM', cM, hmethM', -, -, -, -, -, -, hsigM⟩ := Cond.code_spec hnamed hcode
  cases hmethM.symm.trans hmethM'
  obtain ⟨c2, r2, m2, q1, q2, q3, q4, kP, hkP, hkPi⟩ := Cond.selects_spec hsel
  cases hcls.symm.trans q1
  cases (State.methodFound?_of_named hnamed hy).symm.trans q2
  cases hnamed.symm.trans q3
  have hselP : selectMethod e.platform s.vm cellB.cls mk = .method mk := by rw [Launch.admits_selectMethod X.admits]; exact q4
  obtain ⟨vm₁, X₁, hstep₁⟩ := X.invokevirtual hexec hown hlink hnamed hmethM hstM hkP hkPi hy (a := b) (cell := cellB) hcell
    (fun z h => by rw [h] at hobj; cases hobj) hselP hmethM habM hkP hkPi (g := g) hg (argsL := argsL) (rest := rest) (hlen _ hsigM) hstack hdg
  rcases hK m meth c ⟨T.setVm vm₁, locs, cells, slots⟩ { g with stack := rest } (.invokevirtual index) mk (Value.ref b :: argsL).toArray X₁ hg hsize hdg hW (X₁.named hnamed) (hpre vm₁ X₁.warmed) with ⟨v, B, X', hpost, hsteps⟩ | ⟨q, B, X', hpost, hsteps⟩
  · exact Or.inl ⟨v, vm₁, B, X₁.warmed, X', hpost, fun target h => hstep₁ _ fun acts => by rw [doInvoke_state]; exact hsteps.trans h⟩
  · exact Or.inr ⟨q, vm₁, B, X₁.warmed, X', hpost, hstep₁ _ fun acts => by rw [doInvoke_state]; exact hsteps⟩
theorem vx_callS (X : Stand p l e R s m args below meth c T locs cells slots) (hexec : p.tables.exec = Jvm.exec) {own : String} {index : Nat} {y : MethodName} {bytes : ByteArray} {maxL : Nat} {ret : Option FieldType}
    (hown : s.vm.findClass own = some m.cls) (hlink : (Cond.methodLink own index y).before args s = true) (hstat : (Cond.static y).before args s = true) (hinit : (Cond.initialized y.cls).before args s = true)
    (hcode : (Cond.code y bytes maxL ret).before args s = true) (hy : y.cls ≠ "java/lang/invoke/MethodHandle" ∧ y.cls ≠ "java/lang/invoke/VarHandle")
    {W9 : Nat} {Pre : Pt → Array Value → Prop} {Post : Pt → Array Value → Option Value → Pt → Prop} {PostX : Pt → Array Value → Addr → Pt → Prop} (hK : vx_Back l R p e below s args y 3 W9 Pre Post PostX)
    {g : JFrame} (hg : g.method = m) (hsize : g.locals.size = c.maxLocals) {argsL rest : List Value} (hlen : ∀ sig, parseMethodDescriptor y.desc = some sig → argsL.length = sig.parameters.length)
    (hstack : g.stack = argsL.reverse ++ rest) (hW : 2 * g.monitorRoom + (rest.map fun v => v.category).sum ≤ W9) (hdg : decode c.code g.pc = .ok (.invokestatic index, 3))
    (hpre : ∀ vm₁, s.WarmedH vm₁ → Pre ⟨T.setVm vm₁, locs, cells, slots⟩ argsL.toArray) :
    (∃ (v : Option Value) (vm₁ : Vm) (B : Pt), s.WarmedH vm₁ ∧ Stand p l e R s m args below meth c B.U B.locs B.cells B.slots ∧ Post ⟨T.setVm vm₁, locs, cells, slots⟩ argsL.toArray v B ∧
      ∀ target, Steps p.tables e below (B.U.setTop { g with pc := g.pc + 3, stack := v.toList ++ rest }) target → Steps p.tables e below (T.setTop g) target) ∨
    (∃ (q : Addr) (vm₁ : Vm) (B : Pt), s.WarmedH vm₁ ∧ Stand p l e R s m args below meth c B.U B.locs B.cells B.slots ∧ PostX ⟨T.setVm vm₁, locs, cells, slots⟩ argsL.toArray q B ∧
      Steps p.tables e below (T.setTop g) ((B.U.setTop { g with stack := rest }).pushFrame (.throwing q))) := by
  obtain ⟨mk, hnamed⟩ := Cond.code_named hcode
  obtain ⟨methM, cM, hmethM, -, -, -, -, -, -, hsigM⟩ := Cond.code_spec hnamed hcode
  have hstatic : methM.isStatic = true := Cond.static_spec hnamed hmethM hstat
  obtain ⟨kP, hkP, -⟩ := className_of_methodNamed hnamed
  have hinitP : kP.init = .initialized := Cond.initialized_spec (findClass_of_methodNamed hnamed) hkP hinit
  obtain ⟨vm₁, X₁, hstep₁⟩ := X.invokestatic hexec hown hlink hnamed hmethM hstatic hkP hinitP hy (g := g) hg (argsL := argsL) (rest := rest) (hlen _ hsigM) hstack hdg
  rcases hK m meth c ⟨T.setVm vm₁, locs, cells, slots⟩ { g with stack := rest } (.invokestatic index) mk argsL.toArray X₁ hg hsize hdg hW (X₁.named hnamed) (hpre vm₁ X₁.warmed) with ⟨v, B, X', hpost, hsteps⟩ | ⟨q, B, X', hpost, hsteps⟩
  · exact Or.inl ⟨v, vm₁, B, X₁.warmed, X', hpost, fun target h => hstep₁ _ fun acts => by rw [doInvoke_state]; exact hsteps.trans h⟩
  · exact Or.inr ⟨q, vm₁, B, X₁.warmed, X', hpost, hstep₁ _ fun acts => by rw [doInvoke_state]; exact hsteps⟩
end Calls
theorem vx_cls {s : State} {T : State} {vm₁ : Vm} {E : String} {k : ClassId} (hW : s.WarmedH vm₁) (h : (T.setVm vm₁).vm.findClass E = some k) : s.vm.findClass E = some k := by
  have h1 : vm₁.findClass E = some k := h
  rw [hW.alike.findClass] at h1
  exact h1
/-- the method's frame g, with q thrown over it -/
def vx_W (p : Program) (l : Launch) (e : Env) (R : Room) (s : State) (m : MethodId) (args : Array Value) (below : List Frame) (meth : Method) (c : Code) (H : Heap) (locs : List Loc) (cells slots : Nat) (Q : State → Prop) (g : JFrame) (q : Addr) : Prop :=
  ∀ T : State, T.heap = H → Stand p l e R s m args below meth c T locs cells slots → ∃ t, Steps p.tables e below ((T.setTop g).pushFrame (.throwing q)) t ∧ Q t
def vx_Run (p : Program) (l : Launch) (e : Env) (R : Room) (s : State) (m : MethodId) (args : Array Value) (below : List Frame) (meth : Method) (c : Code) (H : Heap) (locs : List Loc) (cells slots mc ms : Nat) (g : JFrame) (rest : List Value) (Qa : State → Outcome → State → Prop) (XC : String → State → State → Prop) (free : Addr → Prop) : Prop :=
  ∀ T : State, T.heap = H → Stand p l e R s m args below meth c T locs cells slots →
    (∃ (v : Option Value) (st₀ t T' : State) (L : List Loc), st₀.heap = H ∧ Stand p l e R s m args below meth c T' (locs ++ L) (cells + mc) (slots + ms) ∧ (∀ q ∈ L, free q.base) ∧ T'.heap = t.heap ∧ T'.vm = t.vm ∧ Qa st₀ (.returned v) t ∧
      Goes p e below T g T' { g with pc := g.pc + 3, stack := v.toList ++ rest }) ∨
    (∃ (q : Addr) (st₀ t T' : State) (L : List Loc) (E : String) (ce : Cell), st₀.heap = H ∧ Stand p l e R s m args below meth c T' (locs ++ L) (cells + mc) (slots + ms) ∧ (∀ z ∈ L, free z.base) ∧ T'.heap = t.heap ∧ T'.vm = t.vm ∧ XC E st₀ t ∧ t.heap[q]? = some ce ∧ ce.vm = .none ∧ s.vm.findClass E = some ce.cls ∧
      Steps p.tables e below (T.setTop g) ((T'.setTop { g with stack := rest }).pushFrame (.throwing q)))
def vx_X {S : Type} (px : S → Prop) (B : String → S → State → Prop) (A : Nat → Prop) : String → State → State → Prop := fun E st t => ∃ u : S, px u ∧ B E u t ∧ va_F A st t
section Runs
variable {p : Program} {l : Launch} {e : Env} {R : Room} {s : State} {m : MethodId} {args : Array Value} {below : List Frame} {meth : Method} {c : Code} {H : Heap} {locs : List Loc} {cells slots : Nat}
variable {y : MethodName} {bytes cc : ByteArray} {maxL nL mc ms n index : Nat} {ret : Option FieldType} {ws : List Cond} {rm : Room} {Pc : Array Value → State → Prop} {Qc : Array Value → State → Outcome → State → Prop} {XC : String → State → State → Prop} {free : Addr → Prop} {Ts : List Cond} {own C : String} {b : Addr} {As rest : List Value} {g : JFrame}
theorem vx_callBack (cb : CallB R s args own index y bytes maxL ret ws rm mc ms n) (hM : vx_Met l y ws rm Pc Qc XC mc ms free) (hbl : FrameBlind Pc) : vx_Back l R p e below s args y 3 8 (PreOf R mc ms Pc) (PostOf Qc mc ms free) (vx_Post XC mc ms free) := by
  obtain ⟨hrc, hrs, hfr, hlo, hws, hcw, -, hini, -⟩ := cb
  exact vx_back (bytes := bytes) (maxL := maxL) (ret := ret) hM hbl hrc hrs hfr hlo hws hcw (fun a' U hW => word_at hW (Or.inl (by first | rfl | simp [Cond.onTables, Cond.keeps, Cond.steady])) hini)
theorem vx_runV (S : CallFix p m c cc nL s args Ts own) (hM : vx_Met l y ws rm Pc Qc XC mc ms free) (cw : CallW R s args own C index y bytes maxL ret ws rm mc ms n) (hp : PreV s H C b Pc As)
    (hg : g.method = m) (hn : As.length = n) (hsize : g.locals.size = nL) (hstack : g.stack = As.reverse ++ .ref b :: rest) (hW : 2 * g.monitorRoom + (rest.map fun v => v.category).sum ≤ 8) (hdg : decode cc g.pc = .ok (.invokevirtual index, 3)) (hf : cells + mc ≤ R.cells ∧ slots + ms ≤ R.slots) :
    vx_Run p l e R s m args below meth c H locs cells slots mc ms g rest (Qc (Value.ref b :: As).toArray) XC free := by
  have hK : vx_Back l R p e below s args y 3 8 (PreOf R mc ms Pc) (PostOf Qc mc ms free) (vx_Post XC mc ms free) := vx_callBack cw.1 hM hp.1
  obtain ⟨⟨-, -, -, -, -, -, hcode, -, hy, hlen, hl⟩, hin, hse⟩ := cw
  obtain ⟨hx, hb, hml, ho, -⟩ := S
  obtain ⟨-, ⟨cellB, hcB, hoB, hclB⟩, hPc⟩ := hp
  intro T hT X
  rcases vx_callV X hx (C := C) (bytes := bytes) (maxL := maxL) (ret := ret) ho hl hin hse hcode hy hK (by rw [hT]; exact hcB) hoB hclB hg (hsize.trans hml.symm) (argsL := As) (rest := rest) (fun sig h => hn.trans (hlen sig h)) hstack hW (by rw [hb]; exact hdg)
    (fun vm₁ hW₁ => ⟨hf.1, hf.2, hPc (T.setVm vm₁) hT hW₁⟩) with ⟨v, vm₁, ⟨U', l2, c2, s2⟩, hW₁, X', ⟨g', mk, t, L, e1, e2, hq, h1, hL, h2, h3⟩, st⟩ | ⟨q, vm₁, ⟨U', l2, c2, s2⟩, hW₁, X', ⟨g', mk, t, L, E, ce, e1, e2, hq, hce, hcv, hcl, h1, hL, h2, h3⟩, st⟩
  · dsimp only [Pt.U, Pt.locs, Pt.cells, Pt.slots] at X' e1 e2 h1 h2 h3 st
    subst h1; subst h2; subst h3
    exact Or.inl ⟨v, (T.setVm vm₁).calling g' mk (Value.ref b :: As).toArray, t, U', L, hT, X', hL, e1, e2, hq, st⟩
  · dsimp only [Pt.U, Pt.locs, Pt.cells, Pt.slots] at X' e1 e2 h1 h2 h3 st hcl
    subst h1; subst h2; subst h3
    exact Or.inr ⟨q, (T.setVm vm₁).calling g' mk (Value.ref b :: As).toArray, t, U', L, E, ce, hT, X', hL, e1, e2, hq, hce, hcv, vx_cls hW₁ hcl, st⟩
theorem vx_runS (S : CallFix p m c cc nL s args Ts own) (hM : vx_Met l y ws rm Pc Qc XC mc ms free) (cw : CallB R s args own index y bytes maxL ret ws rm mc ms n ∧ (Cond.static y).before args s = true) (hp : PreS s H Pc As)
    (hg : g.method = m) (hn : As.length = n) (hsize : g.locals.size = nL) (hstack : g.stack = As.reverse ++ rest) (hW : 2 * g.monitorRoom + (rest.map fun v => v.category).sum ≤ 8) (hdg : decode cc g.pc = .ok (.invokestatic index, 3)) (hf : cells + mc ≤ R.cells ∧ slots + ms ≤ R.slots) :
    vx_Run p l e R s m args below meth c H locs cells slots mc ms g rest (Qc As.toArray) XC free := by
  have hK : vx_Back l R p e below s args y 3 8 (PreOf R mc ms Pc) (PostOf Qc mc ms free) (vx_Post XC mc ms free) := vx_callBack cw.1 hM hp.1
  obtain ⟨⟨-, -, -, -, -, -, hcode, hini, hy, hlen, hl⟩, hstt⟩ := cw
  obtain ⟨hx, hb, hml, ho, -⟩ := S
  intro T hT X
  rcases vx_callS X hx (bytes := bytes) (maxL := maxL) (ret := ret) ho hl hstt hini hcode hy hK hg (hsize.trans hml.symm) (argsL := As) (rest := rest) (fun sig h => hn.trans (hlen sig h)) hstack hW (by rw [hb]; exact hdg)
    (fun vm₁ hW₁ => ⟨hf.1, hf.2, hp.2 (T.setVm vm₁) hT hW₁⟩) with ⟨v, vm₁, ⟨U', l2, c2, s2⟩, hW₁, X', ⟨g', mk, t, L, e1, e2, hq, h1, hL, h2, h3⟩, st⟩ | ⟨q, vm₁, ⟨U', l2, c2, s2⟩, hW₁, X', ⟨g', mk, t, L, E, ce, e1, e2, hq, hce, hcv, hcl, h1, hL, h2, h3⟩, st⟩
  · dsimp only [Pt.U, Pt.locs, Pt.cells, Pt.slots] at X' e1 e2 h1 h2 h3 st
    subst h1; subst h2; subst h3
    exact Or.inl ⟨v, (T.setVm vm₁).calling g' mk As.toArray, t, U', L, hT, X', hL, e1, e2, hq, st⟩
  · dsimp only [Pt.U, Pt.locs, Pt.cells, Pt.slots] at X' e1 e2 h1 h2 h3 st hcl
    subst h1; subst h2; subst h3
    exact Or.inr ⟨q, (T.setVm vm₁).calling g' mk As.toArray, t, U', L, E, ce, hT, X', hL, e1, e2, hq, hce, hcv, vx_cls hW₁ hcl, st⟩
end Runs
section Rows
variable {p : Program} {l : Launch} {e : Env} {R : Room} {s : State} {m : MethodId} {args : Array Value} {below : List Frame} {meth : Method} {c : Code} {H : Heap} {locs : List Loc} {cells slots : Nat} {Q : State → Prop}
variable {mc ms : Nat} {free : Addr → Prop} {A0 A1 : Nat → Prop} {H0 : Heap} {a : Array Value} {pc : Nat} {ls : Array Slot} {st0 rest : List Value}
theorem vx_keep {st₀ t T' : State} {L : List Loc} (h0 : st₀.heap = H) (e1 : T'.heap = t.heap) (hS : va_S A0 H0 H locs) (hA : ∀ q, q < H.size → A1 q → A0 q) (hf : ∀ q, free q → A0 q) (hL : ∀ q ∈ L, free q.base) (hF : va_F A1 st₀ t) :
    H.size ≤ T'.heap.size ∧ (∀ q : Nat, q < H.size → ¬ A1 q → T'.heap[q]? = H[q]?) ∧ va_S A0 H0 T'.heap (locs ++ L) := by
  obtain ⟨hz, hk⟩ := hF
  rw [h0] at hz hk
  exact ⟨by rw [e1]; exact hz, fun q h1 h2 => by rw [e1]; exact hk q h1 h2,
    ⟨Nat.le_trans hS.1 (by rw [e1]; exact hz), fun q h1 h2 => by rw [e1, hk q (Nat.lt_of_lt_of_le h1 hS.1) (fun z => h2 (hA q (Nat.lt_of_lt_of_le h1 hS.1) z))]; exact hS.2.1 q h1 h2, fun q hq => by
      rcases List.mem_append.mp hq with h | h
      · exact hS.2.2 q h
      · exact hf _ (hL q h)⟩⟩
theorem vx_calli {S SX : Type} {post : Int32 → S → Prop} {px : SX → Prop} {B : S → State → Prop} {BX : String → SX → State → Prop} {AX : Nat → Prop} (hr : vx_Run p l e R s m args below meth c H locs cells slots mc ms (F0 m pc ls st0) rest (va_Qi post B A1 a) (vx_X px BX AX) free) (hS : va_S A0 H0 H locs) (hA : ∀ q, q < H.size → A1 q → A0 q) (hf : ∀ q, free q → A0 q) (hAX : ∀ q, q < H.size → AX q → A0 q)
    (kx : ∀ (E : String) (ce : Cell) (q9 : Addr) (u : SX) (t : State) (H1 : Heap) (locs1 : List Loc), t.heap = H1 → s.vm.Alike t.vm → px u → BX E u t → H.size ≤ H1.size → (∀ q : Nat, q < H.size → ¬ AX q → H1[q]? = H[q]?) → va_S A0 H0 H1 locs1 → H1[q9]? = some ce → ce.vm = .none → s.vm.findClass E = some ce.cls → vx_W p l e R s m args below meth c H1 locs1 (cells + mc) (slots + ms) Q (F0 m pc ls rest) q9)
    (kk : ∀ (r : Int32) (u : S) (t : State) (H1 : Heap) (locs1 : List Loc), t.heap = H1 → s.vm.Alike t.vm → post r u → B u t → H.size ≤ H1.size → (∀ q : Nat, q < H.size → ¬ A1 q → H1[q]? = H[q]?) → va_S A0 H0 H1 locs1 → W p l e R s m args below meth c H1 locs1 (cells + mc) (slots + ms) Q (F0 m (pc + 3) ls (.int r :: rest))) : W p l e R s m args below meth c H locs cells slots Q (F0 m pc ls st0) := by
  intro T hT X
  rcases hr T hT X with ⟨v, st₀, t, T', L, h0, X', hL, e1, e2, ⟨⟨r, u, hv, hp, hb⟩, hF⟩, st⟩ | ⟨q, st₀, t, T', L, E, ce, h0, X', hL, e1, e2, ⟨u, hp, hb, hF⟩, hce, hcv, hcl, st⟩
  · cases hv
    obtain ⟨k1, k2, k3⟩ := vx_keep h0 e1 hS hA hf hL hF
    obtain ⟨t2, a1, b1⟩ := kk r u t T'.heap (locs ++ L) e1.symm (by rw [← e2]; exact X'.warmed.alike) hp hb k1 k2 k3 T' rfl X'
    exact ⟨t2, st t2 a1, b1⟩
  · obtain ⟨k1, k2, k3⟩ := vx_keep h0 e1 hS hAX hf hL hF
    obtain ⟨t2, a1, b1⟩ := kx E ce q u t T'.heap (locs ++ L) e1.symm (by rw [← e2]; exact X'.warmed.alike) hp hb k1 k2 k3 (by rw [e1]; exact hce) hcv hcl T' rfl X'
    exact ⟨t2, st.trans a1, b1⟩
theorem vx_calll {S SX : Type} {post : Int64 → S → Prop} {px : SX → Prop} {B : S → State → Prop} {BX : String → SX → State → Prop} {AX : Nat → Prop} (hr : vx_Run p l e R s m args below meth c H locs cells slots mc ms (F0 m pc ls st0) rest (va_Ql post B A1 a) (vx_X px BX AX) free) (hS : va_S A0 H0 H locs) (hA : ∀ q, q < H.size → A1 q → A0 q) (hf : ∀ q, free q → A0 q) (hAX : ∀ q, q < H.size → AX q → A0 q)
    (kx : ∀ (E : String) (ce : Cell) (q9 : Addr) (u : SX) (t : State) (H1 : Heap) (locs1 : List Loc), t.heap = H1 → s.vm.Alike t.vm → px u → BX E u t → H.size ≤ H1.size → (∀ q : Nat, q < H.size → ¬ AX q → H1[q]? = H[q]?) → va_S A0 H0 H1 locs1 → H1[q9]? = some ce → ce.vm = .none → s.vm.findClass E = some ce.cls → vx_W p l e R s m args below meth c H1 locs1 (cells + mc) (slots + ms) Q (F0 m pc ls rest) q9)
    (kk : ∀ (r : Int64) (u : S) (t : State) (H1 : Heap) (locs1 : List Loc), t.heap = H1 → s.vm.Alike t.vm → post r u → B u t → H.size ≤ H1.size → (∀ q : Nat, q < H.size → ¬ A1 q → H1[q]? = H[q]?) → va_S A0 H0 H1 locs1 → W p l e R s m args below meth c H1 locs1 (cells + mc) (slots + ms) Q (F0 m (pc + 3) ls (.long r :: rest))) : W p l e R s m args below meth c H locs cells slots Q (F0 m pc ls st0) := by
  intro T hT X
  rcases hr T hT X with ⟨v, st₀, t, T', L, h0, X', hL, e1, e2, ⟨⟨r, u, hv, hp, hb⟩, hF⟩, st⟩ | ⟨q, st₀, t, T', L, E, ce, h0, X', hL, e1, e2, ⟨u, hp, hb, hF⟩, hce, hcv, hcl, st⟩
  · cases hv
    obtain ⟨k1, k2, k3⟩ := vx_keep h0 e1 hS hA hf hL hF
    obtain ⟨t2, a1, b1⟩ := kk r u t T'.heap (locs ++ L) e1.symm (by rw [← e2]; exact X'.warmed.alike) hp hb k1 k2 k3 T' rfl X'
    exact ⟨t2, st t2 a1, b1⟩
  · obtain ⟨k1, k2, k3⟩ := vx_keep h0 e1 hS hAX hf hL hF
    obtain ⟨t2, a1, b1⟩ := kx E ce q u t T'.heap (locs ++ L) e1.symm (by rw [← e2]; exact X'.warmed.alike) hp hb k1 k2 k3 (by rw [e1]; exact hce) hcv hcl T' rfl X'
    exact ⟨t2, st.trans a1, b1⟩
theorem vx_callf {S SX : Type} {post : UInt32 → S → Prop} {px : SX → Prop} {B : S → State → Prop} {BX : String → SX → State → Prop} {AX : Nat → Prop} (hr : vx_Run p l e R s m args below meth c H locs cells slots mc ms (F0 m pc ls st0) rest (va_Qf post B A1 a) (vx_X px BX AX) free) (hS : va_S A0 H0 H locs) (hA : ∀ q, q < H.size → A1 q → A0 q) (hf : ∀ q, free q → A0 q) (hAX : ∀ q, q < H.size → AX q → A0 q)
    (kx : ∀ (E : String) (ce : Cell) (q9 : Addr) (u : SX) (t : State) (H1 : Heap) (locs1 : List Loc), t.heap = H1 → s.vm.Alike t.vm → px u → BX E u t → H.size ≤ H1.size → (∀ q : Nat, q < H.size → ¬ AX q → H1[q]? = H[q]?) → va_S A0 H0 H1 locs1 → H1[q9]? = some ce → ce.vm = .none → s.vm.findClass E = some ce.cls → vx_W p l e R s m args below meth c H1 locs1 (cells + mc) (slots + ms) Q (F0 m pc ls rest) q9)
    (kk : ∀ (r : UInt32) (u : S) (t : State) (H1 : Heap) (locs1 : List Loc), t.heap = H1 → s.vm.Alike t.vm → post r u → B u t → H.size ≤ H1.size → (∀ q : Nat, q < H.size → ¬ A1 q → H1[q]? = H[q]?) → va_S A0 H0 H1 locs1 → W p l e R s m args below meth c H1 locs1 (cells + mc) (slots + ms) Q (F0 m (pc + 3) ls (.float r :: rest))) : W p l e R s m args below meth c H locs cells slots Q (F0 m pc ls st0) := by
  intro T hT X
  rcases hr T hT X with ⟨v, st₀, t, T', L, h0, X', hL, e1, e2, ⟨⟨r, u, hv, hp, hb⟩, hF⟩, st⟩ | ⟨q, st₀, t, T', L, E, ce, h0, X', hL, e1, e2, ⟨u, hp, hb, hF⟩, hce, hcv, hcl, st⟩
  · cases hv
    obtain ⟨k1, k2, k3⟩ := vx_keep h0 e1 hS hA hf hL hF
    obtain ⟨t2, a1, b1⟩ := kk r u t T'.heap (locs ++ L) e1.symm (by rw [← e2]; exact X'.warmed.alike) hp hb k1 k2 k3 T' rfl X'
    exact ⟨t2, st t2 a1, b1⟩
  · obtain ⟨k1, k2, k3⟩ := vx_keep h0 e1 hS hAX hf hL hF
    obtain ⟨t2, a1, b1⟩ := kx E ce q u t T'.heap (locs ++ L) e1.symm (by rw [← e2]; exact X'.warmed.alike) hp hb k1 k2 k3 (by rw [e1]; exact hce) hcv hcl T' rfl X'
    exact ⟨t2, st.trans a1, b1⟩
theorem vx_calld {S SX : Type} {post : UInt64 → S → Prop} {px : SX → Prop} {B : S → State → Prop} {BX : String → SX → State → Prop} {AX : Nat → Prop} (hr : vx_Run p l e R s m args below meth c H locs cells slots mc ms (F0 m pc ls st0) rest (va_Qd post B A1 a) (vx_X px BX AX) free) (hS : va_S A0 H0 H locs) (hA : ∀ q, q < H.size → A1 q → A0 q) (hf : ∀ q, free q → A0 q) (hAX : ∀ q, q < H.size → AX q → A0 q)
    (kx : ∀ (E : String) (ce : Cell) (q9 : Addr) (u : SX) (t : State) (H1 : Heap) (locs1 : List Loc), t.heap = H1 → s.vm.Alike t.vm → px u → BX E u t → H.size ≤ H1.size → (∀ q : Nat, q < H.size → ¬ AX q → H1[q]? = H[q]?) → va_S A0 H0 H1 locs1 → H1[q9]? = some ce → ce.vm = .none → s.vm.findClass E = some ce.cls → vx_W p l e R s m args below meth c H1 locs1 (cells + mc) (slots + ms) Q (F0 m pc ls rest) q9)
    (kk : ∀ (r : UInt64) (u : S) (t : State) (H1 : Heap) (locs1 : List Loc), t.heap = H1 → s.vm.Alike t.vm → post r u → B u t → H.size ≤ H1.size → (∀ q : Nat, q < H.size → ¬ A1 q → H1[q]? = H[q]?) → va_S A0 H0 H1 locs1 → W p l e R s m args below meth c H1 locs1 (cells + mc) (slots + ms) Q (F0 m (pc + 3) ls (.double r :: rest))) : W p l e R s m args below meth c H locs cells slots Q (F0 m pc ls st0) := by
  intro T hT X
  rcases hr T hT X with ⟨v, st₀, t, T', L, h0, X', hL, e1, e2, ⟨⟨r, u, hv, hp, hb⟩, hF⟩, st⟩ | ⟨q, st₀, t, T', L, E, ce, h0, X', hL, e1, e2, ⟨u, hp, hb, hF⟩, hce, hcv, hcl, st⟩
  · cases hv
    obtain ⟨k1, k2, k3⟩ := vx_keep h0 e1 hS hA hf hL hF
    obtain ⟨t2, a1, b1⟩ := kk r u t T'.heap (locs ++ L) e1.symm (by rw [← e2]; exact X'.warmed.alike) hp hb k1 k2 k3 T' rfl X'
    exact ⟨t2, st t2 a1, b1⟩
  · obtain ⟨k1, k2, k3⟩ := vx_keep h0 e1 hS hAX hf hL hF
    obtain ⟨t2, a1, b1⟩ := kx E ce q u t T'.heap (locs ++ L) e1.symm (by rw [← e2]; exact X'.warmed.alike) hp hb k1 k2 k3 (by rw [e1]; exact hce) hcv hcl T' rfl X'
    exact ⟨t2, st.trans a1, b1⟩
theorem vx_callv {S SX : Type} {post : S → Prop} {px : SX → Prop} {B : S → State → Prop} {BX : String → SX → State → Prop} {AX : Nat → Prop} (hr : vx_Run p l e R s m args below meth c H locs cells slots mc ms (F0 m pc ls st0) rest (va_Qv post B A1 a) (vx_X px BX AX) free) (hS : va_S A0 H0 H locs) (hA : ∀ q, q < H.size → A1 q → A0 q) (hf : ∀ q, free q → A0 q) (hAX : ∀ q, q < H.size → AX q → A0 q)
    (kx : ∀ (E : String) (ce : Cell) (q9 : Addr) (u : SX) (t : State) (H1 : Heap) (locs1 : List Loc), t.heap = H1 → s.vm.Alike t.vm → px u → BX E u t → H.size ≤ H1.size → (∀ q : Nat, q < H.size → ¬ AX q → H1[q]? = H[q]?) → va_S A0 H0 H1 locs1 → H1[q9]? = some ce → ce.vm = .none → s.vm.findClass E = some ce.cls → vx_W p l e R s m args below meth c H1 locs1 (cells + mc) (slots + ms) Q (F0 m pc ls rest) q9)
    (kk : ∀ (u : S) (t : State) (H1 : Heap) (locs1 : List Loc), t.heap = H1 → s.vm.Alike t.vm → post u → B u t → H.size ≤ H1.size → (∀ q : Nat, q < H.size → ¬ A1 q → H1[q]? = H[q]?) → va_S A0 H0 H1 locs1 → W p l e R s m args below meth c H1 locs1 (cells + mc) (slots + ms) Q (F0 m (pc + 3) ls (rest))) : W p l e R s m args below meth c H locs cells slots Q (F0 m pc ls st0) := by
  intro T hT X
  rcases hr T hT X with ⟨v, st₀, t, T', L, h0, X', hL, e1, e2, ⟨⟨u, hv, hp, hb⟩, hF⟩, st⟩ | ⟨q, st₀, t, T', L, E, ce, h0, X', hL, e1, e2, ⟨u, hp, hb, hF⟩, hce, hcv, hcl, st⟩
  · cases hv
    obtain ⟨k1, k2, k3⟩ := vx_keep h0 e1 hS hA hf hL hF
    obtain ⟨t2, a1, b1⟩ := kk u t T'.heap (locs ++ L) e1.symm (by rw [← e2]; exact X'.warmed.alike) hp hb k1 k2 k3 T' rfl X'
    exact ⟨t2, st t2 a1, b1⟩
  · obtain ⟨k1, k2, k3⟩ := vx_keep h0 e1 hS hAX hf hL hF
    obtain ⟨t2, a1, b1⟩ := kx E ce q u t T'.heap (locs ++ L) e1.symm (by rw [← e2]; exact X'.warmed.alike) hp hb k1 k2 k3 (by rw [e1]; exact hce) hcv hcl T' rfl X'
    exact ⟨t2, st.trans a1, b1⟩
/-- caught by the row x of this method's table; the rows ahead don't take it -/
theorem vx_catch {own name : String} {E : String} {ce : Cell} {q : Addr} (hown : s.vm.findClass own = some m.cls) (pre : List ExceptionTableEntry) (x : ExceptionTableEntry) (suf : List ExceptionTableEntry) (hsplit : c.exceptionTable.toList = pre ++ x :: suf)
    (hpass : ∀ z ∈ pre, covers z pc = false ∨ (z.catchType ≠ 0 ∧ ∃ nm : String, (Cond.classLink own z.catchType nm).before args s = true ∧ va_Nc E nm s)) (hx : covers x pc = true) (h0 : x.catchType ≠ 0)
    (hlink : (Cond.classLink own x.catchType name).before args s = true) (hcast : (Cond.castable E name).before args s = true) (hcell : H[q]? = some ce) (hv : ce.vm = .none) (hcl : s.vm.findClass E = some ce.cls)
    (kk : W p l e R s m args below meth c H locs cells slots Q (F0 m x.handlerPc ls [.ref q])) : vx_W p l e R s m args below meth c H locs cells slots Q (F0 m pc ls rest) q := by
  intro T hT X
  have hpl : e.platform.magicAccessors = ({} : Platform).magicAccessors := by rw [X.admits.platform]
  obtain ⟨c3, c4, hc3, hc4, hasg⟩ := Cond.castable_spec hcast
  cases Option.some.inj (hc3.symm.trans hcl)
  obtain ⟨c5, hc5, hcl5⟩ := Cond.classLink_spec hown hlink e.platform hpl
  cases Option.some.inj (hc4.symm.trans hc5)
  obtain ⟨vm', X', st⟩ := X.thenCaughtThrough q (g := F0 m pc ls rest) rfl (Steps.refl _) (by rw [hT]; exact hcell) (by rw [hv]; rfl) (by obtain ⟨k9, h9, -⟩ := Vm.findClass_spec hcl; exact ⟨k9, h9⟩) pre x suf hsplit
    (fun z hz => by
      rcases hpass z hz with h | ⟨hz0, nm, hl1, hn1⟩
      · exact Or.inl h
      · obtain ⟨c6, hc6, hcl6⟩ := Cond.classLink_spec hown hl1 e.platform hpl
        obtain ⟨a8, b8, h1, h2, h3⟩ := hn1
        cases Option.some.inj (h1.symm.trans hcl)
        cases Option.some.inj (h2.symm.trans hc6)
        exact Or.inr ⟨hz0, _, hcl6, h3⟩) hx (Or.inr ⟨h0, c4, hcl5, hasg⟩)
  obtain ⟨t, a1, b1⟩ := kk (T.setVm vm') hT X'
  exact ⟨t, st.trans a1, b1⟩
end Rows
section Ends
variable {p : Program} {l : Launch} {e : Env} {R : Room} {s : State} {m : MethodId} {args : Array Value} {below : List Frame} {meth : Method} {c : Code} {H : Heap} {locs : List Loc} {cells slots : Nat} {Q : State → Prop}
variable {mc ms : Nat} {free : Addr → Prop} {A0 A1 : Nat → Prop} {H0 : Heap} {a : Array Value} {ls : Array Slot} {st0 rest : List Value}
variable {Qc : Array Value → State → Outcome → State → Prop} {XC : String → State → State → Prop}
/-- what a body that may throw owes at its end -/
def vx_MQ (below : List Frame) (Qc : Array Value → State → Outcome → State → Prop) (XC : String → State → State → Prop) (a : Array Value) (s : State) (mc ms : Nat) (free : Addr → Prop) : State → Prop := fun t =>
  ∃ o, t.status = .running ∧ Ended t below o ∧ vx_Q Qc XC mc ms free a s o t
theorem vx_ret {g : JFrame} {mc ms : Nat} (k : W p l e R s m args below meth c H locs cells slots (MQ below Qc args s mc ms free) g) : W p l e R s m args below meth c H locs cells slots (vx_MQ below Qc XC args s mc ms free) g := by
  intro T hT X
  obtain ⟨t, a1, o, b1, b2, b3, b4⟩ := k T hT X
  exact ⟨t, a1, o, b1, b2, Or.inl ⟨b3, b4⟩⟩
/-- not caught here: it goes on to the caller -/
theorem vx_widen {g : JFrame} {q : Addr} {k n : Nat} (h1 : cells ≤ k) (h2 : slots ≤ n) (kk : vx_W p l e R s m args below meth c H locs k n Q g q) : vx_W p l e R s m args below meth c H locs cells slots Q g q := fun T hT X => kk T hT (stand_widen X h1 h2)
theorem vx_out {pc : Nat} {E : String} {ce : Cell} {q : Addr} {mc ms : Nat} (hout : ∀ x ∈ c.exceptionTable.toList, covers x pc = false) (hlocks : meth.locks = false) (hcell : H[q]? = some ce) (hv : ce.vm = .none) (hcl : s.vm.findClass E = some ce.cls)
    (hx : ∀ t : State, t.heap = H → s.vm.Alike t.vm → XC E s t) (hf : ∀ z ∈ locs, free z.base) (hc : cells ≤ mc) (hs : slots ≤ ms) :
    vx_W p l e R s m args below meth c H locs cells slots (vx_MQ below Qc XC args s mc ms free) (F0 m pc ls rest) q := by
  intro T hT X
  obtain ⟨st1, hrun, hend, hW, hsm⟩ := X.leaveThrown q (g := F0 m pc ls rest) rfl rfl rfl hout hlocks
  have hcell9 : (T.setFrames (.throwing q :: below)).heap[q]? = some ce := by
    show T.heap[q]? = some ce
    rw [hT]; exact hcell
  exact ⟨_, st1, .threw q, hrun, hend, Or.inr ⟨q, rfl, E, ce, locs, hx _ hT hW.alike, hcell9, hv, hcl, hW, hsm.mono hc hs, hf⟩⟩
theorem vx_frame {U : State} {k n : Nat} (h : s.sameButNew ({ U with vm := s.vm } : State) locs k n) : s.heap.size ≤ U.heap.size ∧ ∀ q : Nat, q < s.heap.size → (∀ z ∈ locs, z.base ≠ q) → U.heap[q]? = s.heap[q]? := by
  obtain ⟨-, h2, -, -, -, h6⟩ := h
  refine ⟨h2, fun q hq hz => ?_⟩
  obtain ⟨c9, e1, e2, e3, e4⟩ := h6 q _ (Array.getElem?_eq_getElem hq)
  have hs : c9.slots = (s.heap[q]).slots := Array.ext_getElem? fun i => e4 i fun hm => hz _ hm rfl
  have h9 : c9 = s.heap[q] := by
    rw [hs] at e2
    exact e2
  have e5 : U.heap[q]? = some c9 := e1
  rw [e5, h9, Array.getElem?_eq_getElem hq]
/-- the words of a throw but the four that speak of the heap -/
def vx_no (w : Cond) : Bool := decide (w ≠ .isRef (.static Bundle.tN "UNASSIGNED_STACK" Bundle.steD)) && decide (w ≠ .isRef (.static Bundle.tN "SUPPRESSED_SENTINEL" Bundle.listD)) && decide (w ≠ .laysStatic Bundle.tN "UNASSIGNED_STACK" Bundle.steD) && decide (w ≠ .laysStatic Bundle.tN "SUPPRESSED_SENTINEL" Bundle.listD)
def vx_at0 (own : String) (ic : Nat) (X : String) (names : List String) : List Cond := (Bundle.ownAtoms0 own ic X names).filter vx_no
def vx_atS (own : String) (ic : Nat) (X : String) (names : List String) : List Cond := (Bundle.ownAtoms own ic X names).filter vx_no
/-- a word that the tables alone decide, or a good one -/
def vx_ot (w : Cond) : Bool := w.onTables || goodWord w
theorem vx_ot_at {args a' : Array Value} {s U : State} {w : Cond} (hW : s.WarmedH U.vm) (hvm : s.vm = U.vm) (hg : vx_ot w = true) (h : w.before args s = true) : w.before a' U = true := by
  simp only [vx_ot, Bool.or_eq_true] at hg
  rcases hg with hg | hg
  · exact va_tabs hg hvm h
  · exact word_at hW (good_of_word hg) h
/-- a list's words: the good ones out of the method's own list, the others by premises of their own -/
theorem vx_hat {args : Array Value} {s : State} {L B : List Cond} (h1 : ∀ w ∈ L.filter goodWord, w.before args s = true) (h2 : ∀ w ∈ L.filter (fun w => !goodWord w), w ∈ B) (h3 : ∀ w ∈ B, w.before args s = true) : ∀ w ∈ L, w.before args s = true := by
  intro w hw
  by_cases g : goodWord w = true
  · exact h1 w (List.mem_filter.mpr ⟨hw, g⟩)
  · refine h3 w (h2 w (List.mem_filter.mpr ⟨hw, ?_⟩))
    show (!goodWord w) = true
    cases hgw : goodWord w
    · rfl
    · exact absurd hgw g
theorem vx_c {args : Array Value} {s : State} {w : Cond} {B : List Cond} (h : w.before args s = true) (t : ∀ w ∈ B, w.before args s = true) : ∀ w' ∈ w :: B, w'.before args s = true := fun w' h' => (List.mem_cons.mp h').elim (fun e => by rw [e]; exact h) (t w')
theorem vx_n {args : Array Value} {s : State} : ∀ w ∈ ([] : List Cond), w.before args s = true := fun _ h => nomatch h
theorem vx_own {args : Array Value} {s : State} {L : List Cond} (h1 : ∀ w ∈ L.filter vx_no, w.before args s = true)
    (hU : (Cond.isRef (.static Bundle.tN "UNASSIGNED_STACK" Bundle.steD)).before args s = true) (hN : (Cond.isRef (.static Bundle.tN "SUPPRESSED_SENTINEL" Bundle.listD)).before args s = true)
    (lU : (Cond.laysStatic Bundle.tN "UNASSIGNED_STACK" Bundle.steD).before args s = true) (lN : (Cond.laysStatic Bundle.tN "SUPPRESSED_SENTINEL" Bundle.listD).before args s = true) : ∀ w ∈ L, w.before args s = true := by
  intro w hw
  by_cases e1 : w = .isRef (.static Bundle.tN "UNASSIGNED_STACK" Bundle.steD)
  · rw [e1]; exact hU
  · by_cases e2 : w = .isRef (.static Bundle.tN "SUPPRESSED_SENTINEL" Bundle.listD)
    · rw [e2]; exact hN
    · by_cases e3 : w = .laysStatic Bundle.tN "UNASSIGNED_STACK" Bundle.steD
      · rw [e3]; exact lU
      · by_cases e4 : w = .laysStatic Bundle.tN "SUPPRESSED_SENTINEL" Bundle.listD
        · rw [e4]; exact lN
        · exact h1 w (List.mem_filter.mpr ⟨hw, by unfold vx_no; rw [decide_eq_true e1, decide_eq_true e2, decide_eq_true e3, decide_eq_true e4]; rfl⟩)
/-- where a static field lies, its class's statics cell in H -/
def vx_L (C n d : String) (A : Nat → Prop) (U : State) (H : Heap) : Prop := ∃ (c : ClassId) (k : Class) (i : Nat) (f : Field) (a : Nat) (cell : Cell), U.vm.findClass C = some c ∧ U.fieldFound? C n d = some (c, k, i, f) ∧ f.isStatic = true ∧ k.statics = some a ∧ H[a]? = some cell ∧ cell.vm.isStatics = true ∧ cell.cls = c ∧ f.slot < cell.slots.size ∧ k.staticTypes[f.slot]? = some f.type ∧ ¬ A a
theorem vx_L.moved {C n d : String} {A : Nat → Prop} {u U : State} {H : Heap} (hvm : u.vm.Alike U.vm) (h : vx_L C n d A u H) : vx_L C n d A U H := by
  obtain ⟨c, k, i, f, a, cell, h1, h2, h3, h4, h5, h6, h7, h8, h9, h10⟩ := h
  obtain ⟨k', hi', he⟩ := State.fieldFound?_setVm hvm h2
  exact ⟨c, k', i, f, a, cell, by rw [hvm.findClass]; exact h1, hi', h3, by rw [he]; exact h4, h5, h6, h7, h8, by rw [he]; exact h9, h10⟩
theorem vx_L.kept {C n d : String} {A : Nat → Prop} {U : State} {H H1 : Heap} (h : vx_L C n d A U H) (hq : ∀ a : Nat, a < H.size → ¬ A a → H1[a]? = H[a]?) : vx_L C n d A U H1 := by
  obtain ⟨c, k, i, f, a, cell, h1, h2, h3, h4, h5, h6, h7, h8, h9, h10⟩ := h
  exact ⟨c, k, i, f, a, cell, h1, h2, h3, h4, by rw [hq a (Array.getElem?_eq_some_iff.mp h5).1 h10]; exact h5, h6, h7, h8, h9, h10⟩
theorem vx_L.narrow {C n d : String} {A B : Nat → Prop} {U : State} {H : Heap} (h : vx_L C n d A U H) (hAB : ∀ q, B q → A q) : vx_L C n d B U H := by
  obtain ⟨c, k, i, f, a, cell, h1, h2, h3, h4, h5, h6, h7, h8, h9, h10⟩ := h
  exact ⟨c, k, i, f, a, cell, h1, h2, h3, h4, h5, h6, h7, h8, h9, fun z => h10 (hAB _ z)⟩
theorem vx_L.word {C n d : String} {A : Nat → Prop} {s : State} {args : Array Value} (h : vx_L C n d A s s.heap) : (Cond.laysStatic C n d).before args s = true := by
  obtain ⟨c, k, i, f, a, cell, h1, h2, h3, h4, h5, h6, h7, h8, h9, -⟩ := h
  show (Cond.laysStatic C n d).holds args s none s [] = true
  exact Cond.laysStatic_of h1 h2 h3 h4 h5 h6 h7 h8 h9
/-- .. and what it holds: null or some reference -/
def vx_Zq (C n d : String) (A : Nat → Prop) (U : State) (H : Heap) : Prop := va_Zq C n d A U H ∧ vx_L C n d A U H
theorem vx_Zq.moved {C n d : String} {A : Nat → Prop} {u U : State} {H : Heap} (hvm : u.vm.Alike U.vm) (h : vx_Zq C n d A u H) : vx_Zq C n d A U H := ⟨va_Zq.moved hvm h.1, vx_L.moved hvm h.2⟩
theorem vx_Zq.kept {C n d : String} {A : Nat → Prop} {U : State} {H H1 : Heap} (h : vx_Zq C n d A U H) (hq : ∀ a : Nat, a < H.size → ¬ A a → H1[a]? = H[a]?) : vx_Zq C n d A U H1 := ⟨va_Zq.kept h.1 hq, vx_L.kept h.2 hq⟩
theorem vx_Zq.narrow {C n d : String} {A B : Nat → Prop} {U : State} {H : Heap} (h : vx_Zq C n d A U H) (hAB : ∀ q, B q → A q) : vx_Zq C n d B U H := ⟨va_Zq.narrow h.1 hAB, vx_L.narrow h.2 hAB⟩
theorem vx_Zqof {args : Array Value} {s : State} {C n d : String} {A : Nat → Prop} (hl : (Cond.laysStatic C n d).before args s = true) (hini : (Cond.initialized C).before args s = true) (h : (Cond.isRef (.static C n d)).before args s = true) (hA : ∀ a : Nat, a < s.heap.size → ¬ A a) : vx_Zq C n d A s s.heap := by
  refine ⟨va_Zqof hl hini h hA, ?_⟩
  obtain ⟨c, k, i, f, a, cell, h1, h2, h3, h4, h5, h6, h7, h8, h9⟩ := Cond.laysStatic_spec hl
  exact ⟨c, k, i, f, a, cell, h1, h2, h3, h4, h5, h6, h7, h8, h9, hA a (Array.getElem?_eq_some_iff.mp h5).1⟩
theorem vx_isRef {C n d : String} {v : Value} {A : Nat → Prop} {s : State} {args : Array Value} (h : va_Z C n d v A s s.heap) (hv : v.isRef = true) : (Cond.isRef (.static C n d)).before args s = true := by
  obtain ⟨cf, kf, fi, f, a, cell, h1, h2, h3, h4, h5, h6, h7, -⟩ := h
  have he : (Term.static C n d).eval args s none [] s = some v := by
    simp [Term.eval, State.fieldNamed?, h1, h2, h4, h5, h6, h7]
  simp only [Cond.before, Cond.holds, Cond.value, he]
  cases v <;> simp_all [Value.isRef]
theorem vx_isRefq {C n d : String} {A : Nat → Prop} {s : State} {args : Array Value} (h : va_Zq C n d A s s.heap) : (Cond.isRef (.static C n d)).before args s = true := by
  rcases h with h | ⟨t, h⟩
  · exact vx_isRef h rfl
  · exact vx_isRef h rfl
/-- the same frame, seen from here: as if the method were called anew in this heap -/
theorem vx_rebase {T : State} (X : Stand p l e R s m args below meth c T locs cells slots) {R' : Room} (hf : R'.frames ≤ R.frames) (hl : R'.locals ≤ R.locals) (hc : cells + R'.cells ≤ R.cells) (hs : slots + R'.slots ≤ R.slots) :
    Stand p l e R' ((T.setVm s.vm).setFrames (.invoking m args :: below)) m args below meth c T [] 0 0 := by
  have htop : (T.setVm s.vm).topJava?.isSome := X.here.top
  have hF : ((T.setVm s.vm).setFrames (.invoking m args :: below)).frames = .invoking m args :: below := State.frames_setFrames _ (State.cur_lt_of_top htop)
  obtain ⟨g₀, hg0⟩ := Option.isSome_iff_exists.mp htop
  obtain ⟨r, hr⟩ := State.topJava?_eq_some.mp hg0
  have hl9 : e.platform.stackLimits (T.setVm s.vm).me = e.platform.stackLimits s.me := X.limits
  have hb9 : (T.setVm s.vm).me.stackBytes = s.me.stackBytes := X.bytes
  refine ⟨X.admits, X.cas, X.clock, hF, ?_, X.hears, X.method, X.code, X.here, X.tail, X.warmed, ?_, ?_, ?_⟩
  · have h := X.room
    have hU : ((T.setVm s.vm).setFrames (.invoking m args :: below)).localsInUse = s.localsInUse := by
      rw [State.localsInUse_invoking hF (meth := meth) (c := c) X.method X.code, State.localsInUse_invoking X.frames X.method X.code]
    simp only [State.hasRoom, Bool.and_eq_true, decide_eq_true_eq] at h ⊢
    obtain ⟨⟨⟨⟨h1, h2, h3, h4, h5, h6⟩, h7⟩, h8⟩, h9⟩ := h
    rw [X.frames, List.length_cons] at h2 h3
    have q1 := X.heapSize
    have q2 := X.used
    simp only [hF, hU, List.length_cons, State.stackLimits_setFrames, State.stackBytes_setFrames, hl9, hb9]
    refine ⟨⟨⟨⟨by omega, by omega, by omega, by omega, by omega, h6⟩, ?_⟩, ?_⟩, X.book⟩
    · show T.heap.size + R'.cells ≤ e.platform.maxCells
      omega
    · show T.slotsUsed + R'.slots ≤ e.platform.maxSlots
      omega
  · rw [State.stackLimits_setFrames]; rfl
  · rw [State.stackBytes_setFrames]; rfl
  · refine ⟨?_, Nat.le_refl _, Nat.le_refl _, ?_, ?_, fun a c9 h9 => ⟨c9, h9, rfl, rfl, fun _ _ => rfl⟩⟩
    · obtain ⟨t, ht, -⟩ := State.frames_cons hr
      show T.setVm s.vm = { ((T.setVm s.vm).setFrames (.invoking m args :: below)).setFrames (T.setVm s.vm).frames with heap := T.heap, slotsUsed := T.slotsUsed }
      rw [State.setFrames_setFrames, State.setFrames_self ht]
      rfl
    · show T.slotsUsed = T.slotsUsed + ((T.heap.toList.drop T.heap.size).map (·.slots.size)).sum
      rw [List.drop_eq_nil_of_le (Nat.le_of_eq Array.length_toList)]
      rfl
    · show ((T.heap.toList.drop T.heap.size).map (·.slots.size)).sum ≤ 0
      rw [List.drop_eq_nil_of_le (Nat.le_of_eq Array.length_toList)]
      exact Nat.le_refl _
/-- 'throw new E()': new; dup; invokespecial; athrow -/
theorem vx_throw0 {cc : ByteArray} {pc : Nat} (hexec : p.tables.exec = Jvm.exec) (hb : c.code = cc) (hl : l.stackTraces = false) {own cls : String} {names : List String} {ik ic mc ms : Nat} {A : Nat → Prop}
    (hown : s.vm.findClass own = some m.cls) (hcls : Bundle.fit cls = true) (hnames : ∀ n ∈ names, Bundle.fit n = true)
    (hk : (Cond.classLink own ik cls).before args s = true) (hini : (Cond.initialized cls).before args s = true) (hat : ∀ w ∈ vx_at0 own ic cls names, w.before args s = true)
    (hgood : ∀ w ∈ Cond.classLink own ik cls :: Cond.initialized cls :: vx_at0 own ic cls names, vx_ot w = true)
    (hU : vx_Zq Bundle.tN "UNASSIGNED_STACK" Bundle.steD A s s.heap) (hN : vx_Zq Bundle.tN "SUPPRESSED_SENTINEL" Bundle.listD A s s.heap) (hS : va_S A s.heap H locs) (hsize : ls.size = c.maxLocals)
    (d0 : decode cc pc = .ok (.new ik, 3)) (d3 : decode cc (pc + 3) = .ok (.dup, 1)) (d4 : decode cc (pc + 4) = .ok (.invokespecial ic, 3)) (d7 : decode cc (pc + 7) = .ok (.athrow, 1))
    (hout : ∀ x ∈ c.exceptionTable.toList, covers x (pc + 7) = false)
    (hRframes : names.length + 3 < R.frames) (hRlocals : (rest.map fun v => v.category).sum + (13 * (names.length + 1) + 42) ≤ R.locals) (hRcells : cells + 1 ≤ R.cells) (hRslots : slots + 6 ≤ R.slots) (hlocks : meth.locks = false)
    (hx : ∀ t : State, s.vm.Alike t.vm → H.size ≤ t.heap.size → (∀ q : Nat, q < H.size → t.heap[q]? = H[q]?) → XC cls s t)
    (hf : ∀ z ∈ locs, free z.base) (hc : cells + 1 ≤ mc) (hs : slots + 6 ≤ ms) :
    W p l e R s m args below meth c H locs cells slots (vx_MQ below Qc XC args s mc ms free) (F0 m pc ls rest) := by
  intro T hT X
  have htr : e.platform.stackTraces = false := (show e.platform.stackTraces = l.stackTraces by rw [X.admits.platform]).trans hl
  have Y := vx_rebase X (R' := { frames := R.frames, locals := R.locals, cells := 1, slots := 6 }) (Nat.le_refl _) (Nat.le_refl _) hRcells hRslots
  obtain ⟨s', hA⟩ : ∃ z, z = (T.setVm s.vm).setFrames (.invoking m args :: below) := ⟨_, rfl⟩
  rw [← hA] at Y
  have hvm : s'.vm = s.vm := by rw [hA]; rfl
  have hhp : s'.heap = H := by rw [hA]; exact hT
  have hW0 : s.WarmedH s'.vm := by rw [hvm]; exact State.WarmedH.refl s
  have hat' : ∀ w ∈ vx_at0 own ic cls names, w.before args s' = true := fun w hw => vx_ot_at hW0 hvm.symm (hgood w (List.mem_cons_of_mem _ (List.mem_cons_of_mem _ hw))) (hat w hw)
  have hk' : (Cond.classLink own ik cls).before args s' = true := vx_ot_at hW0 hvm.symm (hgood _ List.mem_cons_self) hk
  have hini' : (Cond.initialized cls).before args s' = true := vx_ot_at hW0 hvm.symm (hgood _ (List.mem_cons_of_mem _ List.mem_cons_self)) hini
  have hU' : vx_Zq Bundle.tN "UNASSIGNED_STACK" Bundle.steD A s' s'.heap := by rw [hhp]; exact vx_Zq.moved hW0.alike (hU.kept hS.2.1)
  have hN' : vx_Zq Bundle.tN "SUPPRESSED_SENTINEL" Bundle.listD A s' s'.heap := by rw [hhp]; exact vx_Zq.moved hW0.alike (hN.kept hS.2.1)
  have h : ∀ w ∈ Bundle.ownAtoms0 own ic cls names, w.before args s' = true := vx_own hat' (vx_isRefq hU'.1) (vx_isRefq hN'.1) hU'.2.word hN'.2.word
  have hown' : s'.vm.findClass own = some m.cls := by rw [hvm]; exact hown
  have hins : (Cond.instantiable cls 6).before args s' = true := h _ (by simp [Bundle.ownAtoms0])
  obtain ⟨vm₁, cX, kX, hfX, hkX, -, -, X₁, st1⟩ := Y.newCold hexec (own := own) (C := cls) (index := ik) (n := 6) hown' hk' hins hini'
    (g := F0 m pc ls rest) rfl (by rw [hb]; exact d0) (Nat.le_refl _) (Nat.le_refl _)
  generalize hT1 : (T.setVm vm₁).pushCell { cls := cX, slots := kX.instanceTypes.map defaultValue, vm := .none } = T1 at X₁ st1
  have hcat : (Value.ref T.heap.size).category = 1 := rfl
  have hcellA : T1.heap[T.heap.size]? = some (freshCell cX kX) := by rw [← hT1]; exact State.heap_pushCell_size _ _
  have d3' : decode c.code (pc + 3) = .ok (.dup, 1) := by rw [hb]; exact d3
  obtain ⟨U, hsteps, hrun, hend, hW, hsame, ce, hce, hO⟩ := X₁.ctorThrow0 hexec htr (own := own) (cls := cls) (names := names) (ic := ic) hown' hcls hnames h (fun x hx => nomatch hx) hfX hkX hcellA (by rw [hhp, hT]; exact Nat.le_refl _)
    (g := { method := m, pc := pc + 4, locals := ls, stack := .ref T.heap.size :: .ref T.heap.size :: rest, locked := none }) rfl hsize rfl rfl (rest := rest) rfl
    (by rw [hb]; exact d4) (by rw [hb]; exact d7) hout hRframes (by simp only [List.map_cons, List.sum_cons, hcat]; omega) hlocks
  obtain ⟨f1, f2⟩ := vx_frame hsame
  rw [hhp] at f1 f2
  have hWs : s.WarmedH U.vm := State.WarmedH.trans hW0 hW
  have hcl : s.vm.findClass cls = some ce.cls := by
    have h9 := hO.cls
    rw [hvm] at h9
    exact h9
  have hall : s.sameButNew ({ U with vm := s.vm } : State) locs mc ms := by
    subst hA
    obtain ⟨e1, e2⟩ := hsame
    rw [State.setFrames_setFrames] at e1
    have h2 : (T.setVm s.vm).sameButNew ({ U with vm := s.vm } : State) [] (0 + 1) (0 + 6) := ⟨e1, e2⟩
    have h3 := X.same.trans h2
    rw [List.append_nil] at h3
    exact h3.mono hc hs
  refine ⟨U, ?_, .threw T.heap.size, hrun, hend, Or.inr ⟨T.heap.size, rfl, cls, ce, locs, hx U hWs.alike f1 (fun q hq => f2 q hq (fun z hz => nomatch hz)), hce, hO.vm, hcl, hWs, hall, hf⟩⟩
  refine st1 _ ?_
  show Steps p.tables e below (T1.setTop { method := m, pc := pc + 3, locals := ls, stack := .ref T.heap.size :: rest, locked := none }) _
  jvm_step X₁.here [X₁.here.top, hexec, d3', Value.category]
  exact hsteps
/-- 'throw new E("text")': new; dup; ldc; invokespecial; athrow -/
theorem vx_throwS {cc : ByteArray} {pc : Nat} (hexec : p.tables.exec = Jvm.exec) (hb : c.code = cc) (hl : l.stackTraces = false) {own cls text : String} {names : List String} {ik is ic mc ms sa : Nat} {A : Nat → Prop}
    (hown : s.vm.findClass own = some m.cls) (hcls : Bundle.fit cls = true) (hnames : ∀ n ∈ names, Bundle.fit n = true)
    (hk : (Cond.classLink own ik cls).before args s = true) (hini : (Cond.initialized cls).before args s = true) (hstr : vk_R own is text sa s) (hat : ∀ w ∈ vx_atS own ic cls names, w.before args s = true)
    (hgood : ∀ w ∈ Cond.classLink own ik cls :: Cond.initialized cls :: vx_atS own ic cls names, vx_ot w = true)
    (hU : vx_Zq Bundle.tN "UNASSIGNED_STACK" Bundle.steD A s s.heap) (hN : vx_Zq Bundle.tN "SUPPRESSED_SENTINEL" Bundle.listD A s s.heap) (hS : va_S A s.heap H locs) (hsize : ls.size = c.maxLocals)
    (d0 : decode cc pc = .ok (.new ik, 3)) (d3 : decode cc (pc + 3) = .ok (.dup, 1)) (d4 : decode cc (pc + 4) = .ok (.ldc is, 2)) (d6 : decode cc (pc + 6) = .ok (.invokespecial ic, 3)) (d9 : decode cc (pc + 9) = .ok (.athrow, 1))
    (hout : ∀ x ∈ c.exceptionTable.toList, covers x (pc + 9) = false)
    (hRframes : names.length + 3 < R.frames) (hRlocals : (rest.map fun v => v.category).sum + (13 * (names.length + 1) + 43) ≤ R.locals) (hRcells : cells + 1 ≤ R.cells) (hRslots : slots + 6 ≤ R.slots) (hlocks : meth.locks = false)
    (hx : ∀ t : State, s.vm.Alike t.vm → H.size ≤ t.heap.size → (∀ q : Nat, q < H.size → t.heap[q]? = H[q]?) → XC cls s t)
    (hf : ∀ z ∈ locs, free z.base) (hc : cells + 1 ≤ mc) (hs : slots + 6 ≤ ms) :
    W p l e R s m args below meth c H locs cells slots (vx_MQ below Qc XC args s mc ms free) (F0 m pc ls rest) := by
  intro T hT X
  have htr : e.platform.stackTraces = false := (show e.platform.stackTraces = l.stackTraces by rw [X.admits.platform]).trans hl
  have Y := vx_rebase X (R' := { frames := R.frames, locals := R.locals, cells := 1, slots := 6 }) (Nat.le_refl _) (Nat.le_refl _) hRcells hRslots
  obtain ⟨s', hA⟩ : ∃ z, z = (T.setVm s.vm).setFrames (.invoking m args :: below) := ⟨_, rfl⟩
  rw [← hA] at Y
  have hvm : s'.vm = s.vm := by rw [hA]; rfl
  have hhp : s'.heap = H := by rw [hA]; exact hT
  have hW0 : s.WarmedH s'.vm := by rw [hvm]; exact State.WarmedH.refl s
  have hat' : ∀ w ∈ vx_atS own ic cls names, w.before args s' = true := fun w hw => vx_ot_at hW0 hvm.symm (hgood w (List.mem_cons_of_mem _ (List.mem_cons_of_mem _ hw))) (hat w hw)
  have hk' : (Cond.classLink own ik cls).before args s' = true := vx_ot_at hW0 hvm.symm (hgood _ List.mem_cons_self) hk
  have hini' : (Cond.initialized cls).before args s' = true := vx_ot_at hW0 hvm.symm (hgood _ (List.mem_cons_of_mem _ List.mem_cons_self)) hini
  have hU' : vx_Zq Bundle.tN "UNASSIGNED_STACK" Bundle.steD A s' s'.heap := by rw [hhp]; exact vx_Zq.moved hW0.alike (hU.kept hS.2.1)
  have hN' : vx_Zq Bundle.tN "SUPPRESSED_SENTINEL" Bundle.listD A s' s'.heap := by rw [hhp]; exact vx_Zq.moved hW0.alike (hN.kept hS.2.1)
  have h : ∀ w ∈ Bundle.ownAtoms own ic cls names, w.before args s' = true := vx_own hat' (vx_isRefq hU'.1) (vx_isRefq hN'.1) hU'.2.word hN'.2.word
  have hown' : s'.vm.findClass own = some m.cls := by rw [hvm]; exact hown
  have hins : (Cond.instantiable cls 6).before args s' = true := h _ (by simp [Bundle.ownAtoms])
  obtain ⟨vm₁, cX, kX, hfX, hkX, -, -, X₁, st1⟩ := Y.newCold hexec (own := own) (C := cls) (index := ik) (n := 6) hown' hk' hins hini'
    (g := F0 m pc ls rest) rfl (by rw [hb]; exact d0) (Nat.le_refl _) (Nat.le_refl _)
  generalize hT1 : (T.setVm vm₁).pushCell { cls := cX, slots := kX.instanceTypes.map defaultValue, vm := .none } = T1 at X₁ st1
  have hcat : (Value.ref T.heap.size).category = 1 := rfl
  have hcellA : T1.heap[T.heap.size]? = some (freshCell cX kX) := by rw [← hT1]; exact State.heap_pushCell_size _ _
  have d3' : decode c.code (pc + 3) = .ok (.dup, 1) := by rw [hb]; exact d3
  have d4' : decode c.code (pc + 4) = .ok (.ldc is, 2) := by rw [hb]; exact d4
  have hstr' : vk_R own is text sa s' := vk_R.warm hW0 hstr
  obtain ⟨U, hsteps, hrun, hend, hW, hsame, ce, hce, hO⟩ := X₁.ctorThrowS hexec htr (own := own) (cls := cls) (names := names) (ic := ic) hown' hcls hnames h (fun x hx => nomatch hx) hfX hkX hcellA (by rw [hhp, hT]; exact Nat.le_refl _) (msg := .ref sa) rfl
    (g := { method := m, pc := pc + 6, locals := ls, stack := .ref sa :: .ref T.heap.size :: .ref T.heap.size :: rest, locked := none }) rfl hsize rfl rfl (rest := rest) rfl
    (by rw [hb]; exact d6) (by rw [hb]; exact d9) hout hRframes (by simp only [List.map_cons, List.sum_cons, hcat]; omega) hlocks
  obtain ⟨f1, f2⟩ := vx_frame hsame
  rw [hhp] at f1 f2
  have hWs : s.WarmedH U.vm := State.WarmedH.trans hW0 hW
  have hcl : s.vm.findClass cls = some ce.cls := by
    have h9 := hO.cls
    rw [hvm] at h9
    exact h9
  have hall : s.sameButNew ({ U with vm := s.vm } : State) locs mc ms := by
    subst hA
    obtain ⟨e1, e2⟩ := hsame
    rw [State.setFrames_setFrames] at e1
    have h2 : (T.setVm s.vm).sameButNew ({ U with vm := s.vm } : State) [] (0 + 1) (0 + 6) := ⟨e1, e2⟩
    have h3 := X.same.trans h2
    rw [List.append_nil] at h3
    exact h3.mono hc hs
  refine ⟨U, ?_, .threw T.heap.size, hrun, hend, Or.inr ⟨T.heap.size, rfl, cls, ce, locs, hx U hWs.alike f1 (fun q hq => f2 q hq (fun z hz => nomatch hz)), hce, hO.vm, hcl, hWs, hall, hf⟩⟩
  refine st1 _ ?_
  show Steps p.tables e below (T1.setTop { method := m, pc := pc + 3, locals := ls, stack := .ref T.heap.size :: rest, locked := none }) _
  jvm_step X₁.here [X₁.here.top, hexec, d3', Value.category]
  exact X₁.ldcString hexec (own := own) (text := text) (index := is) (a := sa) hown' hstr'.1 hstr'.2
    (g := { method := m, pc := pc + 4, locals := ls, stack := .ref T.heap.size :: .ref T.heap.size :: rest, locked := none }) rfl d4' _ hsteps
/-- 'throw new E("text")', the text by a wide index -/
theorem vx_throwSW {cc : ByteArray} {pc : Nat} (hexec : p.tables.exec = Jvm.exec) (hb : c.code = cc) (hl : l.stackTraces = false) {own cls text : String} {names : List String} {ik is ic mc ms sa : Nat} {A : Nat → Prop}
    (hown : s.vm.findClass own = some m.cls) (hcls : Bundle.fit cls = true) (hnames : ∀ n ∈ names, Bundle.fit n = true)
    (hk : (Cond.classLink own ik cls).before args s = true) (hini : (Cond.initialized cls).before args s = true) (hstr : vk_R own is text sa s) (hat : ∀ w ∈ vx_atS own ic cls names, w.before args s = true)
    (hgood : ∀ w ∈ Cond.classLink own ik cls :: Cond.initialized cls :: vx_atS own ic cls names, vx_ot w = true)
    (hU : vx_Zq Bundle.tN "UNASSIGNED_STACK" Bundle.steD A s s.heap) (hN : vx_Zq Bundle.tN "SUPPRESSED_SENTINEL" Bundle.listD A s s.heap) (hS : va_S A s.heap H locs) (hsize : ls.size = c.maxLocals)
    (d0 : decode cc pc = .ok (.new ik, 3)) (d3 : decode cc (pc + 3) = .ok (.dup, 1)) (d4 : decode cc (pc + 4) = .ok (.ldc_w is, 3)) (d7 : decode cc (pc + 7) = .ok (.invokespecial ic, 3)) (d10 : decode cc (pc + 10) = .ok (.athrow, 1))
    (hout : ∀ x ∈ c.exceptionTable.toList, covers x (pc + 10) = false)
    (hRframes : names.length + 3 < R.frames) (hRlocals : (rest.map fun v => v.category).sum + (13 * (names.length + 1) + 43) ≤ R.locals) (hRcells : cells + 1 ≤ R.cells) (hRslots : slots + 6 ≤ R.slots) (hlocks : meth.locks = false)
    (hx : ∀ t : State, s.vm.Alike t.vm → H.size ≤ t.heap.size → (∀ q : Nat, q < H.size → t.heap[q]? = H[q]?) → XC cls s t)
    (hf : ∀ z ∈ locs, free z.base) (hc : cells + 1 ≤ mc) (hs : slots + 6 ≤ ms) :
    W p l e R s m args below meth c H locs cells slots (vx_MQ below Qc XC args s mc ms free) (F0 m pc ls rest) := by
  intro T hT X
  have htr : e.platform.stackTraces = false := (show e.platform.stackTraces = l.stackTraces by rw [X.admits.platform]).trans hl
  have Y := vx_rebase X (R' := { frames := R.frames, locals := R.locals, cells := 1, slots := 6 }) (Nat.le_refl _) (Nat.le_refl _) hRcells hRslots
  obtain ⟨s', hA⟩ : ∃ z, z = (T.setVm s.vm).setFrames (.invoking m args :: below) := ⟨_, rfl⟩
  rw [← hA] at Y
  have hvm : s'.vm = s.vm := by rw [hA]; rfl
  have hhp : s'.heap = H := by rw [hA]; exact hT
  have hW0 : s.WarmedH s'.vm := by rw [hvm]; exact State.WarmedH.refl s
  have hat' : ∀ w ∈ vx_atS own ic cls names, w.before args s' = true := fun w hw => vx_ot_at hW0 hvm.symm (hgood w (List.mem_cons_of_mem _ (List.mem_cons_of_mem _ hw))) (hat w hw)
  have hk' : (Cond.classLink own ik cls).before args s' = true := vx_ot_at hW0 hvm.symm (hgood _ List.mem_cons_self) hk
  have hini' : (Cond.initialized cls).before args s' = true := vx_ot_at hW0 hvm.symm (hgood _ (List.mem_cons_of_mem _ List.mem_cons_self)) hini
  have hU' : vx_Zq Bundle.tN "UNASSIGNED_STACK" Bundle.steD A s' s'.heap := by rw [hhp]; exact vx_Zq.moved hW0.alike (hU.kept hS.2.1)
  have hN' : vx_Zq Bundle.tN "SUPPRESSED_SENTINEL" Bundle.listD A s' s'.heap := by rw [hhp]; exact vx_Zq.moved hW0.alike (hN.kept hS.2.1)
  have h : ∀ w ∈ Bundle.ownAtoms own ic cls names, w.before args s' = true := vx_own hat' (vx_isRefq hU'.1) (vx_isRefq hN'.1) hU'.2.word hN'.2.word
  have hown' : s'.vm.findClass own = some m.cls := by rw [hvm]; exact hown
  have hins : (Cond.instantiable cls 6).before args s' = true := h _ (by simp [Bundle.ownAtoms])
  obtain ⟨vm₁, cX, kX, hfX, hkX, -, -, X₁, st1⟩ := Y.newCold hexec (own := own) (C := cls) (index := ik) (n := 6) hown' hk' hins hini'
    (g := F0 m pc ls rest) rfl (by rw [hb]; exact d0) (Nat.le_refl _) (Nat.le_refl _)
  generalize hT1 : (T.setVm vm₁).pushCell { cls := cX, slots := kX.instanceTypes.map defaultValue, vm := .none } = T1 at X₁ st1
  have hcat : (Value.ref T.heap.size).category = 1 := rfl
  have hcellA : T1.heap[T.heap.size]? = some (freshCell cX kX) := by rw [← hT1]; exact State.heap_pushCell_size _ _
  have d3' : decode c.code (pc + 3) = .ok (.dup, 1) := by rw [hb]; exact d3
  have d4' : decode c.code (pc + 4) = .ok (.ldc_w is, 3) := by rw [hb]; exact d4
  have hstr' : vk_R own is text sa s' := vk_R.warm hW0 hstr
  obtain ⟨U, hsteps, hrun, hend, hW, hsame, ce, hce, hO⟩ := X₁.ctorThrowS hexec htr (own := own) (cls := cls) (names := names) (ic := ic) hown' hcls hnames h (fun x hx => nomatch hx) hfX hkX hcellA (by rw [hhp, hT]; exact Nat.le_refl _) (msg := .ref sa) rfl
    (g := { method := m, pc := pc + 7, locals := ls, stack := .ref sa :: .ref T.heap.size :: .ref T.heap.size :: rest, locked := none }) rfl hsize rfl rfl (rest := rest) rfl
    (by rw [hb]; exact d7) (by rw [hb]; exact d10) hout hRframes (by simp only [List.map_cons, List.sum_cons, hcat]; omega) hlocks
  obtain ⟨f1, f2⟩ := vx_frame hsame
  rw [hhp] at f1 f2
  have hWs : s.WarmedH U.vm := State.WarmedH.trans hW0 hW
  have hcl : s.vm.findClass cls = some ce.cls := by
    have h9 := hO.cls
    rw [hvm] at h9
    exact h9
  have hall : s.sameButNew ({ U with vm := s.vm } : State) locs mc ms := by
    subst hA
    obtain ⟨e1, e2⟩ := hsame
    rw [State.setFrames_setFrames] at e1
    have h2 : (T.setVm s.vm).sameButNew ({ U with vm := s.vm } : State) [] (0 + 1) (0 + 6) := ⟨e1, e2⟩
    have h3 := X.same.trans h2
    rw [List.append_nil] at h3
    exact h3.mono hc hs
  refine ⟨U, ?_, .threw T.heap.size, hrun, hend, Or.inr ⟨T.heap.size, rfl, cls, ce, locs, hx U hWs.alike f1 (fun q hq => f2 q hq (fun z hz => nomatch hz)), hce, hO.vm, hcl, hWs, hall, hf⟩⟩
  refine st1 _ ?_
  show Steps p.tables e below (T1.setTop { method := m, pc := pc + 3, locals := ls, stack := .ref T.heap.size :: rest, locked := none }) _
  jvm_step X₁.here [X₁.here.top, hexec, d3', Value.category]
  exact X₁.ldcStringW hexec (own := own) (text := text) (index := is) (a := sa) hown' hstr'.1 hstr'.2
    (g := { method := m, pc := pc + 4, locals := ls, stack := .ref T.heap.size :: .ref T.heap.size :: rest, locked := none }) rfl d4' _ hsteps
end Ends
section Bodies
variable {l : Launch}
theorem vx_ofW {y : MethodName} {ws ws' : List Cond} {rm : Room} {Pc : Array Value → State → Prop} {Qc : Array Value → State → Outcome → State → Prop} {XC : String → State → State → Prop} {mc ms : Nat} {free : Addr → Prop} {cc : ByteArray} {maxL : Nat} {ret : Option FieldType}
    (hy : plainName y.cls = true) (hw : ws = Cond.code y cc maxL ret :: ws')
    (body : ∀ p e s m args below meth c s₁, BodyLoose p l y (headSpec ws rm) cc maxL ret e s m args below meth c s₁ → c.maxLocals = maxL → (∀ x ∈ c.exceptionTable.toList, False) → Pc args s →
      W p l e (headSpec ws rm).room s m args below meth c s.heap [] 0 0 (vx_MQ below Qc XC args s mc ms free) (entryFrame m args maxL)) : vx_Met l y ws rm Pc Qc XC mc ms free := by
  refine MetFree.of_bodyS (code := cc) (maxLocals := maxL) (ret := ret) hy ?_ ?_
  · intro args s m h hn
    obtain ⟨meth, c, h1, h2, h3, h4, h5, h6, -, -⟩ := Cond.code_spec hn (atoms_spec (ws := ws) h _ (by rw [hw]; exact List.mem_cons_self))
    exact ⟨meth, c, h1, h2, h3, h4, h5, h6⟩
  · intro p e s m args below meth c s₁ B hml hP _
    have hh0 : s₁.heap = s.heap := by rw [B.state]; rfl
    have ht : ∀ x ∈ c.exceptionTable.toList, False := by
      obtain ⟨meth9, c9, h1, h2, -, -, -, -, h7, -⟩ := Cond.code_spec B.named (atoms_spec (ws := ws) B.pre _ (by rw [hw]; exact List.mem_cons_self))
      cases Option.some.inj (h1.symm.trans B.method)
      cases Option.some.inj (h2.symm.trans (Stand.of_body B).code)
      intro x hx
      rw [Array.isEmpty_iff.mp h7] at hx
      cases hx
    obtain ⟨t, a1, o, b1, b2, b3⟩ := body p e s m args below meth c s₁ B hml ht hP s₁ hh0 (Stand.of_body B)
    exact ⟨t, o, a1, b1, b2, b3⟩
/-- the table of a body with handlers -/
theorem vx_table {p : Program} {x y : MethodName} {S : Spec} {cc bytes : ByteArray} {maxL maxL' : Nat} {ret ret' : Option FieldType} {e : Env} {s s₁ : State} {m : MethodId} {args : Array Value} {below : List Frame} {meth : Method} {c : Code} {hh : List (Nat × Nat × Nat × Nat)}
    (B : BodyLoose p l y S cc maxL ret e s m args below meth c s₁) (h : (Cond.codeWith y bytes maxL' ret' hh).before args s = true) : c.exceptionTable.toList = tableOf hh := by
  obtain ⟨m9, meth9, c9, hn9, h1, h2, -, -, h6, -⟩ := Cond.codeWith_spec h
  cases Option.some.inj (hn9.symm.trans B.named)
  cases Option.some.inj (h1.symm.trans B.method)
  cases Option.some.inj (h2.symm.trans (Stand.of_body B).code)
  rw [← h6, table_eq]
end Bodies
end VXA
/-! ===== END ===== -/
/-! ===== BEGIN a static call of a method with an exception table ===== -/
section VXS
variable {p : Program} {l : Launch} {e : Env} {R : Room} {s : State} {m : MethodId} {args : Array Value} {below : List Frame} {meth : Method} {c : Code} {T : State} {H : Heap} {locs : List Loc} {cells slots : Nat}
abbrev vx_CSW (R : Room) (s : State) (args : Array Value) (own : String) (index : Nat) (y : MethodName) (bytes : ByteArray) (maxL : Nat) (ret : Option FieldType) (hh : List (Nat × Nat × Nat × Nat)) (ws : List Cond) (rm : Room) (mc ms n : Nat) : Prop :=
  (rm.cells = mc ∧ rm.slots = ms ∧ rm.frames + 1 ≤ R.frames ∧ 8 + (maxL + 11) + rm.locals ≤ R.locals ∧ (∀ w ∈ ws, ∀ (a' : Array Value) (U : State), s.WarmedH U.vm → w.before a' U = true) ∧ Cond.codeWith y bytes maxL ret hh ∈ ws) ∧
  (Cond.codeWith y bytes maxL ret hh).before args s = true ∧ (Cond.initialized y.cls).before args s = true ∧ (y.cls ≠ "java/lang/invoke/MethodHandle" ∧ y.cls ≠ "java/lang/invoke/VarHandle") ∧
  (∀ sig, parseMethodDescriptor y.desc = some sig → n = sig.parameters.length) ∧ (Cond.methodLink own index y).before args s = true ∧ (Cond.static y).before args s = true
theorem vx_cwSW {own : String} {index maxL mc ms : Nat} {y : MethodName} {bytes : ByteArray} {ret : Option FieldType} {hh : List (Nat × Nat × Nat × Nat)} {Ts ws ws' : List Cond} {rm : Room} (n : Nat) (ht : ∀ w ∈ Ts, w.before args s = true) (hT : GoodIn Ts (va_wsS own index y ws)) (hw : ws = Cond.codeWith y bytes maxL ret hh :: ws') (hrc : rm.cells = mc) (hrs : rm.slots = ms)
    (hd : y.cls ≠ "java/lang/invoke/MethodHandle" ∧ y.cls ≠ "java/lang/invoke/VarHandle" ∧ (parseMethodDescriptor y.desc).map (fun d => d.parameters.length) = some n) (hR : rm.frames + 1 ≤ R.frames ∧ 8 + (maxL + 11) + rm.locals ≤ R.locals) :
    vx_CSW R s args own index y bytes maxL ret hh ws rm mc ms n := by
  have ok : ∀ w ∈ va_wsS own index y ws, w.before args s = true := fun w h => ht w (hT w h).1
  have hG : GoodIn Ts ws := fun w h => hT w (by unfold va_wsS; exact List.mem_append_right _ h)
  have hc : Cond.codeWith y bytes maxL ret hh ∈ ws := by rw [hw]; exact List.mem_cons_self
  refine ⟨⟨hrc, hrs, hR.1, hR.2, pay_in ht hG, hc⟩, ht _ (hG _ hc).1, ok _ (by simp [va_wsS]), ⟨hd.1, hd.2.1⟩, fun sig h => ?_, ok _ (by simp [va_wsS]), ok _ (by simp [va_wsS])⟩
  have h2 := hd.2.2
  rw [h] at h2
  exact (Option.some.inj h2).symm
theorem vx_callSW (X : Stand p l e R s m args below meth c T locs cells slots) (hexec : p.tables.exec = Jvm.exec) {own : String} {index : Nat} {y : MethodName} {bytes : ByteArray} {maxL : Nat} {ret : Option FieldType} {hh : List (Nat × Nat × Nat × Nat)}
    (hown : s.vm.findClass own = some m.cls) (hlink : (Cond.methodLink own index y).before args s = true) (hstat : (Cond.static y).before args s = true) (hinit : (Cond.initialized y.cls).before args s = true)
    (hcode : (Cond.codeWith y bytes maxL ret hh).before args s = true) (hy : y.cls ≠ "java/lang/invoke/MethodHandle" ∧ y.cls ≠ "java/lang/invoke/VarHandle")
    {W9 : Nat} {Pre : Pt → Array Value → Prop} {Post : Pt → Array Value → Option Value → Pt → Prop} (hK : Back l R p e below s args y 3 W9 Pre Post)
    {g : JFrame} (hg : g.method = m) (hsize : g.locals.size = c.maxLocals) {argsL rest : List Value} (hlen : ∀ sig, parseMethodDescriptor y.desc = some sig → argsL.length = sig.parameters.length)
    (hstack : g.stack = argsL.reverse ++ rest) (hW : 2 * g.monitorRoom + (rest.map fun v => v.category).sum ≤ W9) (hdg : decode c.code g.pc = .ok (.invokestatic index, 3))
    (hpre : ∀ vm₁, s.WarmedH vm₁ → Pre ⟨T.setVm vm₁, locs, cells, slots⟩ argsL.toArray) :
    ∃ (v : Option Value) (vm₁ : Vm) (B : Pt), s.WarmedH vm₁ ∧ Stand p l e R s m args below meth c B.U B.locs B.cells B.slots ∧ Post ⟨T.setVm vm₁, locs, cells, slots⟩ argsL.toArray v B ∧
      ∀ target, Steps p.tables e below (B.U.setTop { g with pc := g.pc + 3, stack := v.toList ++ rest }) target → Steps p.tables e below (T.setTop g) target := by
  obtain ⟨mk, methM, cM, hnamed, hmethM, -, -, -, -, -, -, hsigM⟩ := Cond.codeWith_spec hcode
  have hstatic : methM.isStatic = true := Cond.static_spec hnamed hmethM hstat
  obtain ⟨kP, hkP, -⟩ := className_of_methodNamed hnamed
  have hinitP : kP.init = .initialized := Cond.initialized_spec (findClass_of_methodNamed hnamed) hkP hinit
  obtain ⟨vm₁, X₁, hstep₁⟩ := X.invokestatic hexec hown hlink hnamed hmethM hstatic hkP hinitP hy (g := g) hg (argsL := argsL) (rest := rest) (hlen _ hsigM) hstack hdg
  obtain ⟨v, B, X', hpost, hsteps⟩ := hK m meth c ⟨T.setVm vm₁, locs, cells, slots⟩ { g with stack := rest } (.invokestatic index) mk argsL.toArray X₁ hg hsize hdg hW (X₁.named hnamed) (hpre vm₁ X₁.warmed)
  exact ⟨v, vm₁, B, X₁.warmed, X', hpost, fun target h => hstep₁ _ fun acts => by rw [doInvoke_state]; exact hsteps.trans h⟩
theorem vx_runSW {y : MethodName} {bytes cc : ByteArray} {maxL nL mc ms n index : Nat} {ret : Option FieldType} {hh : List (Nat × Nat × Nat × Nat)} {ws : List Cond} {rm : Room} {Pc : Array Value → State → Prop} {Qc : Array Value → State → Outcome → State → Prop} {free : Addr → Prop} {Ts : List Cond} {own : String} {As rest : List Value} {g : JFrame}
    (S : CallFix p m c cc nL s args Ts own) (hM : Met l y ws rm Pc Qc mc ms free) (cw : vx_CSW R s args own index y bytes maxL ret hh ws rm mc ms n) (hp : PreS s H Pc As)
    (hg : g.method = m) (hn : As.length = n) (hsize : g.locals.size = nL) (hstack : g.stack = As.reverse ++ rest) (hW : 2 * g.monitorRoom + (rest.map fun v => v.category).sum ≤ 8) (hdg : decode cc g.pc = .ok (.invokestatic index, 3)) (hf : cells + mc ≤ R.cells ∧ slots + ms ≤ R.slots) :
    va_Run p l e R s m args below meth c H locs cells slots mc ms g rest (Qc As.toArray) (free) := by
  obtain ⟨⟨hrc, hrs, hfr, hlo, hws, hcw⟩, hcode, hini, hy, hlen, hl, hstt⟩ := cw
  have hK : Back l R p e below s args y 3 8 (PreOf R mc ms Pc) (PostOf Qc mc ms free) := va_backW (hh := hh) (bytes := bytes) (maxL := maxL) (ret := ret) hM hp.1 hrc hrs hfr hlo hws hcw (fun a' U hW => word_at hW (Or.inl (by first | rfl | simp [Cond.onTables, Cond.keeps, Cond.steady])) hini)
  obtain ⟨hx, hb, hml, ho, -⟩ := S
  intro T hT X
  obtain ⟨v, vm₁, ⟨U', l2, c2, s2⟩, hW₁, X', ⟨g', mk, t, L, e1, e2, hq, h1, hL, h2, h3⟩, st⟩ := vx_callSW X hx (hh := hh) (bytes := bytes) (maxL := maxL) (ret := ret) ho hl hstt hini hcode hy hK hg (hsize.trans hml.symm) (argsL := As) (rest := rest) (fun sig h => hn.trans (hlen sig h)) hstack hW (by rw [hb]; exact hdg)
    (fun vm₁ hW₁ => ⟨hf.1, hf.2, hp.2 (T.setVm vm₁) hT hW₁⟩)
  dsimp only [Pt.U, Pt.locs, Pt.cells, Pt.slots] at X' e1 e2 h1 h2 h3 st
  subst h1; subst h2; subst h3
  exact ⟨v, (T.setVm vm₁).calling g' mk As.toArray, t, U', L, hT, X', hL, e1, e2, hq, st⟩
/-- not caught here, past rows that name other classes: it goes on to the caller -/
theorem vx_outP {p : Program} {l : Launch} {e : Env} {R : Room} {s : State} {m : MethodId} {args : Array Value} {below : List Frame} {meth : Method} {c : Code} {H : Heap} {locs : List Loc} {cells slots : Nat} {free : Addr → Prop} {ls : Array Slot} {rest : List Value} {Qc : Array Value → State → Outcome → State → Prop} {XC : String → State → State → Prop}
    {pc : Nat} {own E : String} {ce : Cell} {q : Addr} {mc ms : Nat} (hown : s.vm.findClass own = some m.cls) (hlocks : meth.locks = false)
    (hpass : ∀ z ∈ c.exceptionTable.toList, covers z pc = false ∨ (z.catchType ≠ 0 ∧ ∃ nm : String, (Cond.classLink own z.catchType nm).before args s = true ∧ va_Nc E nm s)) (hcell : H[q]? = some ce) (hv : ce.vm = .none) (hcl : s.vm.findClass E = some ce.cls)
    (hx : ∀ t : State, t.heap = H → s.vm.Alike t.vm → XC E s t) (hf : ∀ z ∈ locs, free z.base) (hc : cells ≤ mc) (hs : slots ≤ ms) :
    vx_W p l e R s m args below meth c H locs cells slots (vx_MQ below Qc XC args s mc ms free) (F0 m pc ls rest) q := by
  intro T hT X
  have hpl : e.platform.magicAccessors = ({} : Platform).magicAccessors := by rw [X.admits.platform]
  obtain ⟨vm', hW', X', st⟩ := X.outThrough hlocks q (g := F0 m pc ls rest) rfl rfl rfl (cell := ce) (by rw [hT]; exact hcell) (by rw [hv]; rfl)
    (by obtain ⟨k9, h9, -⟩ := Vm.findClass_spec hcl; exact ⟨k9, h9⟩) (fun z hz => by
      rcases hpass z hz with h | ⟨hz0, nm, hl1, hn1⟩
      · exact Or.inl h
      · obtain ⟨c6, hc6, hcl6⟩ := Cond.classLink_spec hown hl1 e.platform hpl
        obtain ⟨a8, b8, h1, h2, h3⟩ := hn1
        cases Option.some.inj (h1.symm.trans hcl)
        cases Option.some.inj (h2.symm.trans hc6)
        exact Or.inr ⟨hz0, _, hcl6, h3⟩)
  obtain ⟨g₀, hfr⟩ := X'.frames_eq
  have hcell9 : ((T.setVm vm').setFrames (.throwing q :: below)).heap[q]? = some ce := by
    show T.heap[q]? = some ce
    rw [hT]; exact hcell
  have hend : Ended ((T.setVm vm').setFrames (.throwing q :: below)) below (.threw q) := State.frames_setFrames _ (State.cur_lt_of_frames hfr)
  refine ⟨(T.setVm vm').setFrames (.throwing q :: below), ?_, .threw q, X'.here.running, hend, Or.inr ⟨q, rfl, E, ce, locs, hx _ hT (X'.ends _).1.alike, hcell9, hv, hcl, (X'.ends _).1, (X'.ends _).2.mono hc hs, hf⟩⟩
  rw [X.pushThrowing_eq]
  exact st
/-- a thing of a world lies in the heap -/
theorem vx_lt {D : va_G} {cl : List vw_C} {ws : va_W} {H1 : Heap} (h : va_P D cl ws H1) {k : Nat} {q : Nat × va_E} (hk : ws[k]? = some q) : q.1 < H1.size := (h k q hk).lt
end VXS
/-! ===== END ===== -/
/-! ===== BEGIN methods with a table of their own: called by a name, returning or throwing ===== -/
section VXH
/-! vx_backW, vx_callVX, vx_callSX, vx_callVW, vx_runVW, vx_runVX, vx_runSX, vx_ofWH follow the same proofs as their sisters above (Free/Laws.lean, Shelf42/LK1.lean); vx_outP calls Shelf42/NT130.lean (outThrough). -/
section
variable {l : Launch} {R : Room} {p : Program} {e : Env} {below : List Frame} {s : State} {sargs : Array Value} {y : MethodName} {len W9 : Nat}
theorem vx_backW {ws : List Cond} {rm : Room} {Pc : Array Value → State → Prop} {Qc : Array Value → State → Outcome → State → Prop} {XC : String → State → State → Prop} {mc ms : Nat} {free : Addr → Prop} {bytes : ByteArray} {maxL : Nat} {ret : Option FieldType} {hh : List (Nat × Nat × Nat × Nat)}
    (hM : vx_Met l y ws rm Pc Qc XC mc ms free) (hblind : FrameBlind Pc) (hrc : rm.cells = mc) (hrs : rm.slots = ms)
    (hframes : rm.frames + 1 ≤ R.frames) (hlocals : W9 + (maxL + 11) + rm.locals ≤ R.locals)
    (hws : ∀ w ∈ ws, ∀ a' U, s.WarmedH U.vm → w.before a' U = true) (hcode : Cond.codeWith y bytes maxL ret hh ∈ ws) (hinit : ∀ a' U, s.WarmedH U.vm → (Cond.initialized y.cls).before a' U = true) :
    vx_Back l R p e below s sargs y len W9 (PreOf R mc ms Pc) (PostOf Qc mc ms free) (vx_Post XC mc ms free) := by
  intro m meth c A g ig mk a X hg hsize hdg hW hn hp
  have h1 : (headSpec ws rm).pre.before a A.U = true := atoms_intro fun w hw => hws w hw _ _ X.warmed
  have h2 : (Cond.codeWith y bytes maxL ret hh).before a A.U = true := hws _ hcode _ _ X.warmed
  have h3 : (Cond.initialized y.cls).before a A.U = true := hinit _ _ X.warmed
  have h4 : A.cells + (headSpec ws rm).room.cells ≤ R.cells := by rw [show (headSpec ws rm).room.cells = mc from hrc]; exact hp.1
  have h5 : A.slots + (headSpec ws rm).room.slots ≤ R.slots := by rw [show (headSpec ws rm).room.slots = ms from hrs]; exact hp.2.1
  have hPc : Pc a (A.U.calling g mk a) := hblind _ _ _ _ hp.2.2
  obtain ⟨U, Ls, c0, s0⟩ := A
  dsimp only [Pt.U, Pt.locs, Pt.cells, Pt.slots] at h1 h2 h3 h4 h5 X hn hPc ⊢
  obtain ⟨m9, methY, cY, hn9, hmY, hcY, -, hlY, -⟩ := Cond.codeWith_spec h2
  cases Option.some.inj (hn9.symm.trans hn)
  obtain ⟨kY, hkY, -⟩ := className_of_methodNamed hn
  have hinitY : kY.init = .initialized := Cond.initialized_spec (findClass_of_methodNamed hn) hkY h3
  have h : At U g.method c below := by rw [hg]; exact X.here
  have hlocals9 : W9 + (maxL + 11) + (headSpec ws rm).room.locals ≤ R.locals := hlocals
  have happ : (headSpec ws rm).appliesLoose y e.platform (U.calling g mk a) = true :=
    Spec.appliesLoose_calling (g := g) h hdg hn hkY hinitY
      (X.room_calling (g := g) (R' := (headSpec ws rm).room) hsize hmY hcY hframes (by rw [hlY]; omega) h4 h5) h1
  obtain ⟨mid, hmid⟩ := h.above
  have hfr : (U.setTop g).frames = (.java g :: mid) ++ below := by rw [State.frames_setTop' g h.top, hmid]; rfl
  obtain ⟨o, s₂, hsteps, -, hend, hq⟩ := Steps.callFree hM p X.admits X.cas X.clock (acts := []) hfr happ hPc trivial
  have hq' : vx_Q Qc XC mc ms free a (U.calling g mk a) o s₂ := hq
  rw [State.frames_setTop' g h.top] at hend
  obtain ⟨g₀, hg0⟩ := Option.isSome_iff_exists.mp h.top
  obtain ⟨r, hr⟩ := State.topJava?_eq_some.mp hg0
  have hr' : (({ U with heap := s₂.heap, slotsUsed := s₂.slotsUsed } : State).setVm s₂.vm).frames = .java g₀ :: r := hr
  rcases hq' with ⟨hqc, L, hfe, hL⟩ | ⟨q, rfl, E, ce, L, hx, hce, hcv, hcl, hW₂, hsm, hL⟩
  · obtain ⟨⟨v, rfl⟩, hW₂, e2, q2, q3, q4, q5, q6⟩ := id hfe
    have e3 : s₂ = ({ (U.calling g mk a).setFrames s₂.frames with heap := s₂.heap, slotsUsed := s₂.slotsUsed } : State).setVm s₂.vm := by
      have : s₂ = ({ s₂ with vm := (U.calling g mk a).vm } : State).setVm s₂.vm := rfl
      rw [e2] at this
      exact this
    obtain ⟨c₂, i₂, len₂, hc₂, hd₂, hf₂⟩ := hend
    have hW' : U.WarmedH s₂.vm := hW₂
    have hcc : c₂ = c := by
      have h1 : s₂.code? g.method = U.code? g.method := by
        rw [State.code?_eq, State.code?_eq, hW'.alike.method?]
      exact Option.some.inj (hc₂.symm.trans (h1.trans h.code))
    subst hcc
    have hlen : len₂ = len := by rw [hdg] at hd₂; cases hd₂; rfl
    subst hlen
    have hs₂ : s₂ = (({ U with heap := s₂.heap, slotsUsed := s₂.slotsUsed } : State).setVm s₂.vm).setTop { g with pc := g.pc + len₂, stack := v.toList ++ g.stack } := by
      refine e3.trans ?_
      rw [hf₂, State.calling_eq h.top, State.setFrames_setFrames, State.setTop_of_frames _ hr', hr]
      rfl
    have hsame : U.sameButNew ({ U with heap := s₂.heap, slotsUsed := s₂.slotsUsed } : State) L mc ms := by
      refine ⟨?_, q2, q3, q4, q5, q6⟩
      obtain ⟨t, ht, -⟩ := State.frames_cons hr
      show ({ U with heap := s₂.heap, slotsUsed := s₂.slotsUsed } : State) = { U.setFrames U.frames with heap := s₂.heap, slotsUsed := s₂.slotsUsed }
      rw [State.setFrames_self ht]
    subst hg
    refine Or.inl ⟨v, ⟨(({ U with heap := s₂.heap, slotsUsed := s₂.slotsUsed } : State).setVm s₂.vm), Ls ++ L, c0 + mc, s0 + ms⟩,
      ⟨X.admits, X.cas, X.clock, X.frames, X.room, X.hears, X.method, X.code, (X.here.setHeapUsed s₂.heap s₂.slotsUsed).setVm hW'.alike, X.tail, State.WarmedH.trans X.warmed hW', X.limits, X.bytes, X.same.trans (hsame.setVm s.vm)⟩,
      ⟨g, mk, s₂, L, rfl, rfl, hqc, rfl, hL, rfl, rfl⟩, ?_⟩
    show Steps p.tables e below _ ((({ U with heap := s₂.heap, slotsUsed := s₂.slotsUsed } : State).setVm s₂.vm).setTop { g with pc := g.pc + len₂, stack := v.toList ++ g.stack })
    rw [← hs₂]
    exact hsteps
  · obtain ⟨e2, q2, q3, q4, q5, q6⟩ := id hsm
    have e3 : s₂ = ({ (U.calling g mk a).setFrames s₂.frames with heap := s₂.heap, slotsUsed := s₂.slotsUsed } : State).setVm s₂.vm := by
      have : s₂ = ({ s₂ with vm := (U.calling g mk a).vm } : State).setVm s₂.vm := rfl
      rw [e2] at this
      exact this
    have hf₂ : s₂.frames = .throwing q :: .java g :: U.frames.tail := hend
    have hW' : U.WarmedH s₂.vm := hW₂
    have hs₂ : s₂ = ((({ U with heap := s₂.heap, slotsUsed := s₂.slotsUsed } : State).setVm s₂.vm).setTop g).pushFrame (.throwing q) := by
      refine e3.trans ?_
      rw [hf₂, State.calling_eq h.top, State.setFrames_setFrames, State.pushFrame, State.frames_setTop _ hr', State.setTop_of_frames _ hr', State.setFrames_setFrames, hr]
      rfl
    have hsame : U.sameButNew ({ U with heap := s₂.heap, slotsUsed := s₂.slotsUsed } : State) L mc ms := by
      refine ⟨?_, q2, q3, q4, q5, q6⟩
      obtain ⟨t, ht, -⟩ := State.frames_cons hr
      show ({ U with heap := s₂.heap, slotsUsed := s₂.slotsUsed } : State) = { U.setFrames U.frames with heap := s₂.heap, slotsUsed := s₂.slotsUsed }
      rw [State.setFrames_self ht]
    subst hg
    refine Or.inr ⟨q, ⟨(({ U with heap := s₂.heap, slotsUsed := s₂.slotsUsed } : State).setVm s₂.vm), Ls ++ L, c0 + mc, s0 + ms⟩,
      ⟨X.admits, X.cas, X.clock, X.frames, X.room, X.hears, X.method, X.code, (X.here.setHeapUsed s₂.heap s₂.slotsUsed).setVm hW'.alike, X.tail, State.WarmedH.trans X.warmed hW', X.limits, X.bytes, X.same.trans (hsame.setVm s.vm)⟩,
      ⟨g, mk, s₂, L, E, ce, rfl, rfl, hx, hce, hcv, hcl, rfl, hL, rfl, rfl⟩, ?_⟩
    show Steps p.tables e below _ (((({ U with heap := s₂.heap, slotsUsed := s₂.slotsUsed } : State).setVm s₂.vm).setTop g).pushFrame (.throwing q))
    rw [← hs₂]
    exact hsteps
end
variable {p : Program} {l : Launch} {e : Env} {R : Room} {s : State} {m : MethodId} {args : Array Value} {below : List Frame} {meth : Method} {c : Code} {T : State} {H : Heap} {locs : List Loc} {cells slots : Nat}
theorem vx_callVX (X : Stand p l e R s m args below meth c T locs cells slots) (hexec : p.tables.exec = Jvm.exec) {own C : String} {index : Nat} {y : MethodName} {bytes : ByteArray} {maxL : Nat} {ret : Option FieldType} {hh : List (Nat × Nat × Nat × Nat)}
    (hown : s.vm.findClass own = some m.cls) (hlink : (Cond.methodLink own index y).before args s = true) (hinst : (Cond.instanceMethod y).before args s = true) (hsel : (Cond.selects C y y).before args s = true)
    (hcode : (Cond.codeWith y bytes maxL ret hh).before args s = true) (hy : y.cls ≠ "java/lang/invoke/MethodHandle" ∧ y.cls ≠ "java/lang/invoke/VarHandle")
    {W9 : Nat} {Pre : Pt → Array Value → Prop} {Post : Pt → Array Value → Option Value → Pt → Prop} {PostX : Pt → Array Value → Addr → Pt → Prop} (hK : vx_Back l R p e below s args y 3 W9 Pre Post PostX)
    {b : Addr} {cellB : Cell} (hcell : T.heap[b]? = some cellB) (hobj : cellB.vm.isStatics = false) (hcls : s.vm.findClass C = some cellB.cls)
    {g : JFrame} (hg : g.method = m) (hsize : g.locals.size = c.maxLocals) {argsL rest : List Value} (hlen : ∀ sig, parseMethodDescriptor y.desc = some sig → argsL.length = sig.parameters.length)
    (hstack : g.stack = argsL.reverse ++ .ref b :: rest) (hW : 2 * g.monitorRoom + (rest.map fun v => v.category).sum ≤ W9) (hdg : decode c.code g.pc = .ok (.invokevirtual index, 3))
    (hpre : ∀ vm₁, s.WarmedH vm₁ → Pre ⟨T.setVm vm₁, locs, cells, slots⟩ (Value.ref b :: argsL).toArray) :
    (∃ (v : Option Value) (vm₁ : Vm) (B : Pt), s.WarmedH vm₁ ∧ Stand p l e R s m args below meth c B.U B.locs B.cells B.slots ∧ Post ⟨T.setVm vm₁, locs, cells, slots⟩ (Value.ref b :: argsL).toArray v B ∧
      ∀ target, Steps p.tables e below (B.U.setTop { g with pc := g.pc + 3, stack := v.toList ++ rest }) target → Steps p.tables e below (T.setTop g) target) ∨
    (∃ (q : Addr) (vm₁ : Vm) (B : Pt), s.WarmedH vm₁ ∧ Stand p l e R s m args below meth c B.U B.locs B.cells B.slots ∧ PostX ⟨T.setVm vm₁, locs, cells, slots⟩ (Value.ref b :: argsL).toArray q B ∧
      Steps p.tables e below (T.setTop g) ((B.U.setTop { g with stack := rest }).pushFrame (.throwing q))) := by
  obtain ⟨mk, methM, hnamed, hmethM, hstM, habM⟩ := Cond.instanceMethod_spec hinst
  obtain ⟨m8, methM', cM, hn8, hmethM', -, -, -, -, -, -, hsigM⟩ := Cond.codeWith_spec hcode
  cases Option.some.inj (hn8.symm.trans hnamed)
  cases hmethM.symm.trans hmethM'
  obtain ⟨c2, r2, m2, q1, q2, q3, q4, kP, hkP, hkPi⟩ := Cond.selects_spec hsel
  cases hcls.symm.trans q1
  cases (State.methodFound?_of_named hnamed hy).symm.trans q2
  cases hnamed.symm.trans q3
  have hselP : selectMethod e.platform s.vm cellB.cls mk = .method mk := by rw [Launch.admits_selectMethod X.admits]; exact q4
  obtain ⟨vm₁, X₁, hstep₁⟩ := X.invokevirtual hexec hown hlink hnamed hmethM hstM hkP hkPi hy (a := b) (cell := cellB) hcell
    (fun z h => by rw [h] at hobj; cases hobj) hselP hmethM habM hkP hkPi (g := g) hg (argsL := argsL) (rest := rest) (hlen _ hsigM) hstack hdg
  rcases hK m meth c ⟨T.setVm vm₁, locs, cells, slots⟩ { g with stack := rest } (.invokevirtual index) mk (Value.ref b :: argsL).toArray X₁ hg hsize hdg hW (X₁.named hnamed) (hpre vm₁ X₁.warmed) with ⟨v, B, X', hpost, hsteps⟩ | ⟨q, B, X', hpost, hsteps⟩
  · exact Or.inl ⟨v, vm₁, B, X₁.warmed, X', hpost, fun target h => hstep₁ _ fun acts => by rw [doInvoke_state]; exact hsteps.trans h⟩
  · exact Or.inr ⟨q, vm₁, B, X₁.warmed, X', hpost, hstep₁ _ fun acts => by rw [doInvoke_state]; exact hsteps⟩
theorem vx_callSX (X : Stand p l e R s m args below meth c T locs cells slots) (hexec : p.tables.exec = Jvm.exec) {own : String} {index : Nat} {y : MethodName} {bytes : ByteArray} {maxL : Nat} {ret : Option FieldType} {hh : List (Nat × Nat × Nat × Nat)}
    (hown : s.vm.findClass own = some m.cls) (hlink : (Cond.methodLink own index y).before args s = true) (hstat : (Cond.static y).before args s = true) (hinit : (Cond.initialized y.cls).before args s = true)
    (hcode : (Cond.codeWith y bytes maxL ret hh).before args s = true) (hy : y.cls ≠ "java/lang/invoke/MethodHandle" ∧ y.cls ≠ "java/lang/invoke/VarHandle")
    {W9 : Nat} {Pre : Pt → Array Value → Prop} {Post : Pt → Array Value → Option Value → Pt → Prop} {PostX : Pt → Array Value → Addr → Pt → Prop} (hK : vx_Back l R p e below s args y 3 W9 Pre Post PostX)
    {g : JFrame} (hg : g.method = m) (hsize : g.locals.size = c.maxLocals) {argsL rest : List Value} (hlen : ∀ sig, parseMethodDescriptor y.desc = some sig → argsL.length = sig.parameters.length)
    (hstack : g.stack = argsL.reverse ++ rest) (hW : 2 * g.monitorRoom + (rest.map fun v => v.category).sum ≤ W9) (hdg : decode c.code g.pc = .ok (.invokestatic index, 3))
    (hpre : ∀ vm₁, s.WarmedH vm₁ → Pre ⟨T.setVm vm₁, locs, cells, slots⟩ argsL.toArray) :
    (∃ (v : Option Value) (vm₁ : Vm) (B : Pt), s.WarmedH vm₁ ∧ Stand p l e R s m args below meth c B.U B.locs B.cells B.slots ∧ Post ⟨T.setVm vm₁, locs, cells, slots⟩ argsL.toArray v B ∧
      ∀ target, Steps p.tables e below (B.U.setTop { g with pc := g.pc + 3, stack := v.toList ++ rest }) target → Steps p.tables e below (T.setTop g) target) ∨
    (∃ (q : Addr) (vm₁ : Vm) (B : Pt), s.WarmedH vm₁ ∧ Stand p l e R s m args below meth c B.U B.locs B.cells B.slots ∧ PostX ⟨T.setVm vm₁, locs, cells, slots⟩ argsL.toArray q B ∧
      Steps p.tables e below (T.setTop g) ((B.U.setTop { g with stack := rest }).pushFrame (.throwing q))) := by
  obtain ⟨mk, methM, cM, hnamed, hmethM, -, -, -, -, -, -, hsigM⟩ := Cond.codeWith_spec hcode
  have hstatic : methM.isStatic = true := Cond.static_spec hnamed hmethM hstat
  obtain ⟨kP, hkP, -⟩ := className_of_methodNamed hnamed
  have hinitP : kP.init = .initialized := Cond.initialized_spec (findClass_of_methodNamed hnamed) hkP hinit
  obtain ⟨vm₁, X₁, hstep₁⟩ := X.invokestatic hexec hown hlink hnamed hmethM hstatic hkP hinitP hy (g := g) hg (argsL := argsL) (rest := rest) (hlen _ hsigM) hstack hdg
  rcases hK m meth c ⟨T.setVm vm₁, locs, cells, slots⟩ { g with stack := rest } (.invokestatic index) mk argsL.toArray X₁ hg hsize hdg hW (X₁.named hnamed) (hpre vm₁ X₁.warmed) with ⟨v, B, X', hpost, hsteps⟩ | ⟨q, B, X', hpost, hsteps⟩
  · exact Or.inl ⟨v, vm₁, B, X₁.warmed, X', hpost, fun target h => hstep₁ _ fun acts => by rw [doInvoke_state]; exact hsteps.trans h⟩
  · exact Or.inr ⟨q, vm₁, B, X₁.warmed, X', hpost, hstep₁ _ fun acts => by rw [doInvoke_state]; exact hsteps⟩
theorem vx_callVW (X : Stand p l e R s m args below meth c T locs cells slots) (hexec : p.tables.exec = Jvm.exec) {own C : String} {index : Nat} {y : MethodName} {bytes : ByteArray} {maxL : Nat} {ret : Option FieldType} {hh : List (Nat × Nat × Nat × Nat)}
    (hown : s.vm.findClass own = some m.cls) (hlink : (Cond.methodLink own index y).before args s = true) (hinst : (Cond.instanceMethod y).before args s = true) (hsel : (Cond.selects C y y).before args s = true)
    (hcode : (Cond.codeWith y bytes maxL ret hh).before args s = true) (hy : y.cls ≠ "java/lang/invoke/MethodHandle" ∧ y.cls ≠ "java/lang/invoke/VarHandle")
    {W9 : Nat} {Pre : Pt → Array Value → Prop} {Post : Pt → Array Value → Option Value → Pt → Prop} (hK : Back l R p e below s args y 3 W9 Pre Post)
    {b : Addr} {cellB : Cell} (hcell : T.heap[b]? = some cellB) (hobj : cellB.vm.isStatics = false) (hcls : s.vm.findClass C = some cellB.cls)
    {g : JFrame} (hg : g.method = m) (hsize : g.locals.size = c.maxLocals) {argsL rest : List Value} (hlen : ∀ sig, parseMethodDescriptor y.desc = some sig → argsL.length = sig.parameters.length)
    (hstack : g.stack = argsL.reverse ++ .ref b :: rest) (hW : 2 * g.monitorRoom + (rest.map fun v => v.category).sum ≤ W9) (hdg : decode c.code g.pc = .ok (.invokevirtual index, 3))
    (hpre : ∀ vm₁, s.WarmedH vm₁ → Pre ⟨T.setVm vm₁, locs, cells, slots⟩ (Value.ref b :: argsL).toArray) :
    ∃ (v : Option Value) (vm₁ : Vm) (B : Pt), s.WarmedH vm₁ ∧ Stand p l e R s m args below meth c B.U B.locs B.cells B.slots ∧ Post ⟨T.setVm vm₁, locs, cells, slots⟩ (Value.ref b :: argsL).toArray v B ∧
      ∀ target, Steps p.tables e below (B.U.setTop { g with pc := g.pc + 3, stack := v.toList ++ rest }) target → Steps p.tables e below (T.setTop g) target := by
  obtain ⟨mk, methM, hnamed, hmethM, hstM, habM⟩ := Cond.instanceMethod_spec hinst
  obtain ⟨m8, methM', cM, hn8, hmethM', -, -, -, -, -, -, hsigM⟩ := Cond.codeWith_spec hcode
  cases Option.some.inj (hn8.symm.trans hnamed)
  cases hmethM.symm.trans hmethM'
  obtain ⟨c2, r2, m2, q1, q2, q3, q4, kP, hkP, hkPi⟩ := Cond.selects_spec hsel
  cases hcls.symm.trans q1
  cases (State.methodFound?_of_named hnamed hy).symm.trans q2
  cases hnamed.symm.trans q3
  have hselP : selectMethod e.platform s.vm cellB.cls mk = .method mk := by rw [Launch.admits_selectMethod X.admits]; exact q4
  obtain ⟨vm₁, X₁, hstep₁⟩ := X.invokevirtual hexec hown hlink hnamed hmethM hstM hkP hkPi hy (a := b) (cell := cellB) hcell
    (fun z h => by rw [h] at hobj; cases hobj) hselP hmethM habM hkP hkPi (g := g) hg (argsL := argsL) (rest := rest) (hlen _ hsigM) hstack hdg
  obtain ⟨v, B, X', hpost, hsteps⟩ := hK m meth c ⟨T.setVm vm₁, locs, cells, slots⟩ { g with stack := rest } (.invokevirtual index) mk (Value.ref b :: argsL).toArray X₁ hg hsize hdg hW (X₁.named hnamed) (hpre vm₁ X₁.warmed)
  exact ⟨v, vm₁, B, X₁.warmed, X', hpost, fun target h => hstep₁ _ fun acts => by rw [doInvoke_state]; exact hsteps.trans h⟩
abbrev vx_CVW (R : Room) (s : State) (args : Array Value) (own C : String) (index : Nat) (y : MethodName) (bytes : ByteArray) (maxL : Nat) (ret : Option FieldType) (hh : List (Nat × Nat × Nat × Nat)) (ws : List Cond) (rm : Room) (mc ms n : Nat) : Prop :=
  (rm.cells = mc ∧ rm.slots = ms ∧ rm.frames + 1 ≤ R.frames ∧ 8 + (maxL + 11) + rm.locals ≤ R.locals ∧ (∀ w ∈ ws, ∀ (a' : Array Value) (U : State), s.WarmedH U.vm → w.before a' U = true) ∧ Cond.codeWith y bytes maxL ret hh ∈ ws) ∧
  (Cond.codeWith y bytes maxL ret hh).before args s = true ∧ (Cond.initialized y.cls).before args s = true ∧ (y.cls ≠ "java/lang/invoke/MethodHandle" ∧ y.cls ≠ "java/lang/invoke/VarHandle") ∧
  (∀ sig, parseMethodDescriptor y.desc = some sig → n = sig.parameters.length) ∧ (Cond.methodLink own index y).before args s = true ∧ (Cond.instanceMethod y).before args s = true ∧ (Cond.selects C y y).before args s = true
theorem vx_cwVW {own C : String} {index maxL mc ms : Nat} {y : MethodName} {bytes : ByteArray} {ret : Option FieldType} {hh : List (Nat × Nat × Nat × Nat)} {Ts ws ws' : List Cond} {rm : Room} (n : Nat) (ht : ∀ w ∈ Ts, w.before args s = true) (hT : GoodIn Ts (wsV own index C y ws)) (hw : ws = Cond.codeWith y bytes maxL ret hh :: ws') (hrc : rm.cells = mc) (hrs : rm.slots = ms)
    (hd : y.cls = C ∧ y.cls ≠ "java/lang/invoke/MethodHandle" ∧ y.cls ≠ "java/lang/invoke/VarHandle" ∧ (parseMethodDescriptor y.desc).map (fun d => d.parameters.length) = some n) (hR : rm.frames + 1 ≤ R.frames ∧ 8 + (maxL + 11) + rm.locals ≤ R.locals) :
    vx_CVW R s args own C index y bytes maxL ret hh ws rm mc ms n := by
  obtain ⟨hC, hd⟩ := hd
  subst hC
  have ok : ∀ w ∈ wsV own index y.cls y ws, w.before args s = true := fun w h => ht w (hT w h).1
  have hG : GoodIn Ts ws := fun w h => hT w (by unfold wsV; exact List.mem_append_right _ h)
  have hc : Cond.codeWith y bytes maxL ret hh ∈ ws := by rw [hw]; exact List.mem_cons_self
  refine ⟨⟨hrc, hrs, hR.1, hR.2, pay_in ht hG, hc⟩, ht _ (hG _ hc).1, ok _ (by simp [wsV]), ⟨hd.1, hd.2.1⟩, fun sig h => ?_, ok _ (by simp [wsV]), ok _ (by simp [wsV]), ok _ (by simp [wsV])⟩
  have h2 := hd.2.2
  rw [h] at h2
  exact (Option.some.inj h2).symm
theorem vx_runVW {y : MethodName} {bytes cc : ByteArray} {maxL nL mc ms n index : Nat} {ret : Option FieldType} {hh : List (Nat × Nat × Nat × Nat)} {ws : List Cond} {rm : Room} {Pc : Array Value → State → Prop} {Qc : Array Value → State → Outcome → State → Prop} {free : Addr → Prop} {Ts : List Cond} {own C : String} {b : Addr} {As rest : List Value} {g : JFrame}
    (S : CallFix p m c cc nL s args Ts own) (hM : Met l y ws rm Pc Qc mc ms free) (cw : vx_CVW R s args own C index y bytes maxL ret hh ws rm mc ms n) (hp : PreV s H C b Pc As)
    (hg : g.method = m) (hn : As.length = n) (hsize : g.locals.size = nL) (hstack : g.stack = As.reverse ++ .ref b :: rest) (hW : 2 * g.monitorRoom + (rest.map fun v => v.category).sum ≤ 8) (hdg : decode cc g.pc = .ok (.invokevirtual index, 3)) (hf : cells + mc ≤ R.cells ∧ slots + ms ≤ R.slots) :
    va_Run p l e R s m args below meth c H locs cells slots mc ms g rest (Qc (Value.ref b :: As).toArray) free := by
  obtain ⟨⟨hrc, hrs, hfr, hlo, hws, hcw⟩, hcode, hini, hy, hlen, hl, hin, hse⟩ := cw
  have hK : Back l R p e below s args y 3 8 (PreOf R mc ms Pc) (PostOf Qc mc ms free) := va_backW (hh := hh) (bytes := bytes) (maxL := maxL) (ret := ret) hM hp.1 hrc hrs hfr hlo hws hcw (fun a' U hW => word_at hW (Or.inl (by first | rfl | simp [Cond.onTables, Cond.keeps, Cond.steady])) hini)
  obtain ⟨hx, hb, hml, ho, -⟩ := S
  obtain ⟨-, ⟨cellB, hcB, hoB, hclB⟩, hPc⟩ := hp
  intro T hT X
  obtain ⟨v, vm₁, ⟨U', l2, c2, s2⟩, hW₁, X', ⟨g', mk, t, L, e1, e2, hq, h1, hL, h2, h3⟩, st⟩ := vx_callVW X hx (C := C) (hh := hh) (bytes := bytes) (maxL := maxL) (ret := ret) ho hl hin hse hcode hy hK (by rw [hT]; exact hcB) hoB hclB hg (hsize.trans hml.symm) (argsL := As) (rest := rest) (fun sig h => hn.trans (hlen sig h)) hstack hW (by rw [hb]; exact hdg)
    (fun vm₁ hW₁ => ⟨hf.1, hf.2, hPc (T.setVm vm₁) hT hW₁⟩)
  dsimp only [Pt.U, Pt.locs, Pt.cells, Pt.slots] at X' e1 e2 h1 h2 h3 st
  subst h1; subst h2; subst h3
  exact ⟨v, (T.setVm vm₁).calling g' mk (Value.ref b :: As).toArray, t, U', L, hT, X', hL, e1, e2, hq, st⟩
section
variable {y : MethodName} {bytes cc : ByteArray} {maxL nL mc ms n index : Nat} {ret : Option FieldType} {ws : List Cond} {rm : Room} {Pc : Array Value → State → Prop} {Qc : Array Value → State → Outcome → State → Prop} {XC : String → State → State → Prop} {free : Addr → Prop} {Ts : List Cond} {own C : String} {b : Addr} {As rest : List Value} {g : JFrame}
theorem vx_runVX {hh : List (Nat × Nat × Nat × Nat)} (S : CallFix p m c cc nL s args Ts own) (hM : vx_Met l y ws rm Pc Qc XC mc ms free) (cw : vx_CVW R s args own C index y bytes maxL ret hh ws rm mc ms n) (hp : PreV s H C b Pc As)
    (hg : g.method = m) (hn : As.length = n) (hsize : g.locals.size = nL) (hstack : g.stack = As.reverse ++ .ref b :: rest) (hW : 2 * g.monitorRoom + (rest.map fun v => v.category).sum ≤ 8) (hdg : decode cc g.pc = .ok (.invokevirtual index, 3)) (hf : cells + mc ≤ R.cells ∧ slots + ms ≤ R.slots) :
    vx_Run p l e R s m args below meth c H locs cells slots mc ms g rest (Qc (Value.ref b :: As).toArray) XC free := by
  obtain ⟨⟨hrc, hrs, hfr, hlo, hws, hcw⟩, hcode, hini, hy, hlen, hl, hin, hse⟩ := cw
  have hK : vx_Back l R p e below s args y 3 8 (PreOf R mc ms Pc) (PostOf Qc mc ms free) (vx_Post XC mc ms free) := vx_backW (hh := hh) (bytes := bytes) (maxL := maxL) (ret := ret) hM hp.1 hrc hrs hfr hlo hws hcw (fun a' U hW => word_at hW (Or.inl (by first | rfl | simp [Cond.onTables, Cond.keeps, Cond.steady])) hini)
  obtain ⟨hx, hb, hml, ho, -⟩ := S
  obtain ⟨-, ⟨cellB, hcB, hoB, hclB⟩, hPc⟩ := hp
  intro T hT X
  rcases vx_callVX X hx (C := C) (hh := hh) (bytes := bytes) (maxL := maxL) (ret := ret) ho hl hin hse hcode hy hK (by rw [hT]; exact hcB) hoB hclB hg (hsize.trans hml.symm) (argsL := As) (rest := rest) (fun sig h => hn.trans (hlen sig h)) hstack hW (by rw [hb]; exact hdg)
    (fun vm₁ hW₁ => ⟨hf.1, hf.2, hPc (T.setVm vm₁) hT hW₁⟩) with ⟨v, vm₁, ⟨U', l2, c2, s2⟩, hW₁, X', ⟨g', mk, t, L, e1, e2, hq, h1, hL, h2, h3⟩, st⟩ | ⟨q, vm₁, ⟨U', l2, c2, s2⟩, hW₁, X', ⟨g', mk, t, L, E, ce, e1, e2, hq, hce, hcv, hcl, h1, hL, h2, h3⟩, st⟩
  · dsimp only [Pt.U, Pt.locs, Pt.cells, Pt.slots] at X' e1 e2 h1 h2 h3 st
    subst h1; subst h2; subst h3
    exact Or.inl ⟨v, (T.setVm vm₁).calling g' mk (Value.ref b :: As).toArray, t, U', L, hT, X', hL, e1, e2, hq, st⟩
  · dsimp only [Pt.U, Pt.locs, Pt.cells, Pt.slots] at X' e1 e2 h1 h2 h3 st hcl
    subst h1; subst h2; subst h3
    exact Or.inr ⟨q, (T.setVm vm₁).calling g' mk (Value.ref b :: As).toArray, t, U', L, E, ce, hT, X', hL, e1, e2, hq, hce, hcv, vx_cls hW₁ hcl, st⟩
theorem vx_runSX {hh : List (Nat × Nat × Nat × Nat)} (S : CallFix p m c cc nL s args Ts own) (hM : vx_Met l y ws rm Pc Qc XC mc ms free) (cw : vx_CSW R s args own index y bytes maxL ret hh ws rm mc ms n) (hp : PreS s H Pc As)
    (hg : g.method = m) (hn : As.length = n) (hsize : g.locals.size = nL) (hstack : g.stack = As.reverse ++ rest) (hW : 2 * g.monitorRoom + (rest.map fun v => v.category).sum ≤ 8) (hdg : decode cc g.pc = .ok (.invokestatic index, 3)) (hf : cells + mc ≤ R.cells ∧ slots + ms ≤ R.slots) :
    vx_Run p l e R s m args below meth c H locs cells slots mc ms g rest (Qc As.toArray) XC free := by
  obtain ⟨⟨hrc, hrs, hfr, hlo, hws, hcw⟩, hcode, hini, hy, hlen, hl, hstt⟩ := cw
  have hK : vx_Back l R p e below s args y 3 8 (PreOf R mc ms Pc) (PostOf Qc mc ms free) (vx_Post XC mc ms free) := vx_backW (hh := hh) (bytes := bytes) (maxL := maxL) (ret := ret) hM hp.1 hrc hrs hfr hlo hws hcw (fun a' U hW => word_at hW (Or.inl (by first | rfl | simp [Cond.onTables, Cond.keeps, Cond.steady])) hini)
  obtain ⟨hx, hb, hml, ho, -⟩ := S
  intro T hT X
  rcases vx_callSX X hx (hh := hh) (bytes := bytes) (maxL := maxL) (ret := ret) ho hl hstt hini hcode hy hK hg (hsize.trans hml.symm) (argsL := As) (rest := rest) (fun sig h => hn.trans (hlen sig h)) hstack hW (by rw [hb]; exact hdg)
    (fun vm₁ hW₁ => ⟨hf.1, hf.2, hp.2 (T.setVm vm₁) hT hW₁⟩) with ⟨v, vm₁, ⟨U', l2, c2, s2⟩, hW₁, X', ⟨g', mk, t, L, e1, e2, hq, h1, hL, h2, h3⟩, st⟩ | ⟨q, vm₁, ⟨U', l2, c2, s2⟩, hW₁, X', ⟨g', mk, t, L, E, ce, e1, e2, hq, hce, hcv, hcl, h1, hL, h2, h3⟩, st⟩
  · dsimp only [Pt.U, Pt.locs, Pt.cells, Pt.slots] at X' e1 e2 h1 h2 h3 st
    subst h1; subst h2; subst h3
    exact Or.inl ⟨v, (T.setVm vm₁).calling g' mk As.toArray, t, U', L, hT, X', hL, e1, e2, hq, st⟩
  · dsimp only [Pt.U, Pt.locs, Pt.cells, Pt.slots] at X' e1 e2 h1 h2 h3 st hcl
    subst h1; subst h2; subst h3
    exact Or.inr ⟨q, (T.setVm vm₁).calling g' mk As.toArray, t, U', L, E, ce, hT, X', hL, e1, e2, hq, hce, hcv, vx_cls hW₁ hcl, st⟩
end
end VXH
theorem vx_ofWH {l : Launch} {y : MethodName} {ws ws' : List Cond} {rm : Room} {Pc : Array Value → State → Prop} {Qc : Array Value → State → Outcome → State → Prop} {XC : String → State → State → Prop} {mc ms : Nat} {free : Addr → Prop} {cc : ByteArray} {maxL : Nat} {ret : Option FieldType} {hh : List (Nat × Nat × Nat × Nat)}
    (hy : plainName y.cls = true) (hw : ws = Cond.codeWith y cc maxL ret hh :: ws')
    (body : ∀ p e s m args below meth c s₁, BodyLoose p l y (headSpec ws rm) cc maxL ret e s m args below meth c s₁ → c.maxLocals = maxL → Pc args s →
      W p l e (headSpec ws rm).room s m args below meth c s.heap [] 0 0 (vx_MQ below Qc XC args s mc ms free) (entryFrame m args maxL)) : vx_Met l y ws rm Pc Qc XC mc ms free := by
  refine MetFree.of_bodyS (code := cc) (maxLocals := maxL) (ret := ret) hy ?_ ?_
  · intro args s m h hn
    obtain ⟨m9, meth, c, hn9, h1, h2, h3, h4, -, h5, h6, -⟩ := Cond.codeWith_spec (atoms_spec (ws := ws) h _ (by rw [hw]; exact List.mem_cons_self))
    cases hn.symm.trans hn9
    exact ⟨meth, c, h1, h2, h3, h4, h5, h6⟩
  · intro p e s m args below meth c s₁ B hml hP _
    have hh0 : s₁.heap = s.heap := by rw [B.state]; rfl
    obtain ⟨t, a1, o, b1, b2, b3⟩ := body p e s m args below meth c s₁ B hml hP s₁ hh0 (Stand.of_body B)
    exact ⟨t, o, a1, b1, b2, b3⟩
/-! ===== END ===== -/

/-! ===== BEGIN printed: names, fields, word lists, decode rows ===== -/
def RX0 : String := "TypingTutor$History"
def TX0 : u_T := fun k => match k with
  | 0 => ("TypingTutor$History", "letters", "[I", true)
  | 1 => ("TypingTutor$History", "cleans", "[I", true)
  | 2 => ("TypingTutor$History", "times", "[I", true)
  | 3 => ("TypingTutor$History", "count", "I", false)
  | 4 => ("TypingTutor$History", "pace", "I", false)
  | 5 => ("TypingTutor$History", "letterSum", "I", false)
  | _ => ("TypingTutor$History", "cleanSum", "I", false)
def tyX0 : Nat → FieldType := fun k => match k with
  | 0 => .array .int
  | 1 => .array .int
  | 2 => .array .int
  | 3 => .int
  | 4 => .int
  | 5 => .int
  | _ => .int
abbrev wsX00 : List Cond := u_ws RX0 TX0 7
theorem nmX0 : ∀ a, a < 7 → ∀ b, b < 7 → a ≠ b → (TX0 a).2.1 ≠ (TX0 b).2.1 := by decide +kernel
theorem tyX0_ok : ∀ k, k < 7 → parseFieldDescriptor (TX0 k).2.2.1 = some (tyX0 k) := by decide +kernel
abbrev cX0_init : ByteArray := prog_2_method_1_code
def yX0_init : MethodName := ⟨RX0, "<init>", "()V"⟩
abbrev cX0_size : ByteArray := prog_2_method_2_code
def yX0_size : MethodName := ⟨RX0, "size", "()I"⟩
abbrev cX0_advisedPace : ByteArray := prog_2_method_3_code
def yX0_advisedPace : MethodName := ⟨RX0, "advisedPace", "()I"⟩
abbrev cX0_letterSum : ByteArray := prog_2_method_4_code
def yX0_letterSum : MethodName := ⟨RX0, "letterSum", "()I"⟩
abbrev cX0_cleanSum : ByteArray := prog_2_method_5_code
def yX0_cleanSum : MethodName := ⟨RX0, "cleanSum", "()I"⟩
abbrev cX0_tell : ByteArray := prog_2_method_6_code
def yX0_tell : MethodName := ⟨RX0, "tell", "(II)I"⟩
abbrev cX0_speedOf : ByteArray := prog_2_method_7_code
def yX0_speedOf : MethodName := ⟨RX0, "speedOf", "(I)I"⟩
abbrev cX0_greatestSpeed : ByteArray := prog_2_method_8_code
def yX0_greatestSpeed : MethodName := ⟨RX0, "greatestSpeed", "(II)I"⟩
abbrev cX0_keep : ByteArray := prog_2_method_9_code
def yX0_keep : MethodName := ⟨RX0, "keep", "(III)V"⟩
abbrev cX0_paceBehind : ByteArray := prog_2_method_10_code
def yX0_paceBehind : MethodName := ⟨RX0, "paceBehind", "(II)I"⟩
def RX1 : String := "TypingTutor$Knowledge"
def TX1 : u_T := fun k => match k with
  | 0 => ("TypingTutor$Knowledge", "tries", "[I", true)
  | 1 => ("TypingTutor$Knowledge", "misses", "[I", true)
  | _ => ("TypingTutor$Knowledge", "levels", "[I", true)
def tyX1 : Nat → FieldType := fun k => match k with
  | 0 => .array .int
  | 1 => .array .int
  | _ => .array .int
abbrev wsX10 : List Cond := u_ws RX1 TX1 3
theorem nmX1 : ∀ a, a < 3 → ∀ b, b < 3 → a ≠ b → (TX1 a).2.1 ≠ (TX1 b).2.1 := by decide +kernel
theorem tyX1_ok : ∀ k, k < 3 → parseFieldDescriptor (TX1 k).2.2.1 = some (tyX1 k) := by decide +kernel
abbrev cX1_init : ByteArray := prog_3_method_1_code
def yX1_init : MethodName := ⟨RX1, "<init>", "(I)V"⟩
abbrev cX1_triesOf : ByteArray := prog_3_method_2_code
def yX1_triesOf : MethodName := ⟨RX1, "triesOf", "(I)I"⟩
abbrev cX1_levelOf : ByteArray := prog_3_method_3_code
def yX1_levelOf : MethodName := ⟨RX1, "levelOf", "(I)I"⟩
abbrev cX1_tell : ByteArray := prog_3_method_4_code
def yX1_tell : MethodName := ⟨RX1, "tell", "(II)I"⟩
abbrev cX1_learn : ByteArray := prog_3_method_5_code
def yX1_learn : MethodName := ⟨RX1, "learn", "(IZI)V"⟩
def RX2 : String := "TypingTutor$Lesson"
def TX2 : u_T := fun k => match k with
  | 0 => ("TypingTutor$Lesson", "numbers", "[I", true)
  | 1 => ("TypingTutor$Lesson", "letters", "[I", true)
  | 2 => ("TypingTutor$Lesson", "owners", "[I", true)
  | 3 => ("TypingTutor$Lesson", "followers", "[I", true)
  | 4 => ("TypingTutor$Lesson", "running", "Z", false)
  | 5 => ("TypingTutor$Lesson", "wordCount", "I", false)
  | 6 => ("TypingTutor$Lesson", "letterCount", "I", false)
  | 7 => ("TypingTutor$Lesson", "tried", "I", false)
  | 8 => ("TypingTutor$Lesson", "clean", "I", false)
  | 9 => ("TypingTutor$Lesson", "times", "I", false)
  | _ => ("TypingTutor$Lesson", "misses", "I", false)
def tyX2 : Nat → FieldType := fun k => match k with
  | 0 => .array .int
  | 1 => .array .int
  | 2 => .array .int
  | 3 => .array .int
  | 4 => .boolean
  | 5 => .int
  | 6 => .int
  | 7 => .int
  | 8 => .int
  | 9 => .int
  | _ => .int
abbrev wsX20 : List Cond := u_ws RX2 TX2 11
theorem nmX2 : ∀ a, a < 11 → ∀ b, b < 11 → a ≠ b → (TX2 a).2.1 ≠ (TX2 b).2.1 := by decide +kernel
theorem tyX2_ok : ∀ k, k < 11 → parseFieldDescriptor (TX2 k).2.2.1 = some (tyX2 k) := by decide +kernel
abbrev cX2_init : ByteArray := prog_4_method_1_code
def yX2_init : MethodName := ⟨RX2, "<init>", "()V"⟩
abbrev cX2_isRunning : ByteArray := prog_4_method_2_code
def yX2_isRunning : MethodName := ⟨RX2, "isRunning", "()Z"⟩
abbrev cX2_wordTotal : ByteArray := prog_4_method_3_code
def yX2_wordTotal : MethodName := ⟨RX2, "wordTotal", "()I"⟩
abbrev cX2_letterTotal : ByteArray := prog_4_method_4_code
def yX2_letterTotal : MethodName := ⟨RX2, "letterTotal", "()I"⟩
abbrev cX2_triedTotal : ByteArray := prog_4_method_5_code
def yX2_triedTotal : MethodName := ⟨RX2, "triedTotal", "()I"⟩
abbrev cX2_cleanTotal : ByteArray := prog_4_method_6_code
def yX2_cleanTotal : MethodName := ⟨RX2, "cleanTotal", "()I"⟩
abbrev cX2_timeSum : ByteArray := prog_4_method_7_code
def yX2_timeSum : MethodName := ⟨RX2, "timeSum", "()I"⟩
abbrev cX2_mistakesHere : ByteArray := prog_4_method_8_code
def yX2_mistakesHere : MethodName := ⟨RX2, "mistakesHere", "()I"⟩
abbrev cX2_numberAt : ByteArray := prog_4_method_9_code
def yX2_numberAt : MethodName := ⟨RX2, "numberAt", "(I)I"⟩
abbrev cX2_letterHere : ByteArray := prog_4_method_10_code
def yX2_letterHere : MethodName := ⟨RX2, "letterHere", "()I"⟩
abbrev cX2_letterBefore : ByteArray := prog_4_method_11_code
def yX2_letterBefore : MethodName := ⟨RX2, "letterBefore", "()I"⟩
abbrev cX2_letterAfter : ByteArray := prog_4_method_12_code
def yX2_letterAfter : MethodName := ⟨RX2, "letterAfter", "()I"⟩
abbrev cX2_letterInSameWord : ByteArray := prog_4_method_13_code
def yX2_letterInSameWord : MethodName := ⟨RX2, "letterInSameWord", "(I)I"⟩
abbrev cX2_hasWord : ByteArray := prog_4_method_14_code
def yX2_hasWord : MethodName := ⟨RX2, "hasWord", "(I)Z"⟩
abbrev cX2_hasPair : ByteArray := prog_4_method_15_code
def yX2_hasPair : MethodName := ⟨RX2, "hasPair", "(II)Z"⟩
abbrev cX2_start : ByteArray := prog_4_method_16_code
def yX2_start : MethodName := ⟨RX2, "start", "()V"⟩
abbrev cX2_append : ByteArray := prog_4_method_17_code
def yX2_append : MethodName := ⟨RX2, "append", "(IJ)V"⟩
abbrev cX2_noteStroke : ByteArray := prog_4_method_18_code
def yX2_noteStroke : MethodName := ⟨RX2, "noteStroke", "(II)V"⟩
abbrev cX2_goOn : ByteArray := prog_4_method_19_code
def yX2_goOn : MethodName := ⟨RX2, "goOn", "(Z)V"⟩
abbrev cX2_stop : ByteArray := prog_4_method_20_code
def yX2_stop : MethodName := ⟨RX2, "stop", "()V"⟩
def RX3 : String := "TypingTutor$WordList"
def TX3 : u_T := fun k => match k with
  | 0 => ("TypingTutor$WordList", "words", "[J", true)
  | _ => ("TypingTutor$WordList", "count", "I", false)
def tyX3 : Nat → FieldType := fun k => match k with
  | 0 => .array .long
  | _ => .int
abbrev wsX30 : List Cond := u_ws RX3 TX3 2
theorem nmX3 : ∀ a, a < 2 → ∀ b, b < 2 → a ≠ b → (TX3 a).2.1 ≠ (TX3 b).2.1 := by decide +kernel
theorem tyX3_ok : ∀ k, k < 2 → parseFieldDescriptor (TX3 k).2.2.1 = some (tyX3 k) := by decide +kernel
abbrev cX3_init : ByteArray := prog_5_method_1_code
def yX3_init : MethodName := ⟨RX3, "<init>", "()V"⟩
abbrev cX3_size : ByteArray := prog_5_method_2_code
def yX3_size : MethodName := ⟨RX3, "size", "()I"⟩
abbrev cX3_isFull : ByteArray := prog_5_method_3_code
def yX3_isFull : MethodName := ⟨RX3, "isFull", "()Z"⟩
abbrev cX3_hasNumber : ByteArray := prog_5_method_4_code
def yX3_hasNumber : MethodName := ⟨RX3, "hasNumber", "(I)Z"⟩
abbrev cX3_holds : ByteArray := prog_5_method_5_code
def yX3_holds : MethodName := ⟨RX3, "holds", "(J)Z"⟩
abbrev cX3_wordAt : ByteArray := prog_5_method_6_code
def yX3_wordAt : MethodName := ⟨RX3, "wordAt", "(I)J"⟩
abbrev cX3_append : ByteArray := prog_5_method_7_code
def yX3_append : MethodName := ⟨RX3, "append", "(J)I"⟩
def RX4 : String := "TypingTutor"
def TX4 : u_T := fun k => match k with
  | 0 => ("TypingTutor", "list", "LTypingTutor$WordList;", true)
  | 1 => ("TypingTutor", "keys", "LTypingTutor$Knowledge;", true)
  | 2 => ("TypingTutor", "pairs", "LTypingTutor$Knowledge;", true)
  | 3 => ("TypingTutor", "current", "LTypingTutor$Lesson;", true)
  | 4 => ("TypingTutor", "past", "LTypingTutor$History;", true)
  | _ => ("TypingTutor", "mistakeCounts", "[I", true)
def tyX4 : Nat → FieldType := fun k => match k with
  | 0 => .object "TypingTutor$WordList"
  | 1 => .object "TypingTutor$Knowledge"
  | 2 => .object "TypingTutor$Knowledge"
  | 3 => .object "TypingTutor$Lesson"
  | 4 => .object "TypingTutor$History"
  | _ => .array .int
abbrev wsX40 : List Cond := u_ws RX4 TX4 6
theorem nmX4 : ∀ a, a < 6 → ∀ b, b < 6 → a ≠ b → (TX4 a).2.1 ≠ (TX4 b).2.1 := by decide +kernel
theorem tyX4_ok : ∀ k, k < 6 → parseFieldDescriptor (TX4 k).2.2.1 = some (tyX4 k) := by decide +kernel
abbrev cX4_init : ByteArray := prog_1_method_1_code
def yX4_init : MethodName := ⟨RX4, "<init>", "()V"⟩
abbrev cX4_addWord : ByteArray := prog_1_method_2_code
def yX4_addWord : MethodName := ⟨RX4, "addWord", "(J)I"⟩
abbrev cX4_wordCount : ByteArray := prog_1_method_3_code
def yX4_wordCount : MethodName := ⟨RX4, "wordCount", "()I"⟩
abbrev cX4_word : ByteArray := prog_1_method_4_code
def yX4_word : MethodName := ⟨RX4, "word", "(I)J"⟩
abbrev cX4_weight : ByteArray := prog_1_method_5_code
def yX4_weight : MethodName := ⟨RX4, "weight", "(I)I"⟩
abbrev cX4_areNeighbours : ByteArray := prog_1_method_6_code
def yX4_areNeighbours : MethodName := ⟨RX4, "areNeighbours", "(II)Z"⟩
abbrev cX4_open : ByteArray := prog_1_method_7_code
def yX4_open : MethodName := ⟨RX4, "open", "(I)I"⟩
abbrev cX4_openWord : ByteArray := prog_1_method_8_code
def yX4_openWord : MethodName := ⟨RX4, "openWord", "(I)I"⟩
abbrev cX4_giveUp : ByteArray := prog_1_method_9_code
def yX4_giveUp : MethodName := ⟨RX4, "giveUp", "()I"⟩
abbrev cX4_isOpen : ByteArray := prog_1_method_10_code
def yX4_isOpen : MethodName := ⟨RX4, "isOpen", "()Z"⟩
abbrev cX4_lessonWord : ByteArray := prog_1_method_11_code
def yX4_lessonWord : MethodName := ⟨RX4, "lessonWord", "(I)I"⟩
abbrev cX4_wanted : ByteArray := prog_1_method_12_code
def yX4_wanted : MethodName := ⟨RX4, "wanted", "()I"⟩
abbrev cX4_done : ByteArray := prog_1_method_13_code
def yX4_done : MethodName := ⟨RX4, "done", "()I"⟩
abbrev cX4_strike : ByteArray := prog_1_method_14_code
def yX4_strike : MethodName := ⟨RX4, "strike", "(II)I"⟩
abbrev cX4_key : ByteArray := prog_1_method_15_code
def yX4_key : MethodName := ⟨RX4, "key", "(II)I"⟩
abbrev cX4_pair : ByteArray := prog_1_method_16_code
def yX4_pair : MethodName := ⟨RX4, "pair", "(III)I"⟩
abbrev cX4_weakest : ByteArray := prog_1_method_17_code
def yX4_weakest : MethodName := ⟨RX4, "weakest", "()I"⟩
abbrev cX4_mistakes : ByteArray := prog_1_method_18_code
def yX4_mistakes : MethodName := ⟨RX4, "mistakes", "(I)I"⟩
abbrev cX4_lessons : ByteArray := prog_1_method_19_code
def yX4_lessons : MethodName := ⟨RX4, "lessons", "()I"⟩
abbrev cX4_lesson : ByteArray := prog_1_method_20_code
def yX4_lesson : MethodName := ⟨RX4, "lesson", "(II)I"⟩
abbrev cX4_pace : ByteArray := prog_1_method_21_code
def yX4_pace : MethodName := ⟨RX4, "pace", "()I"⟩
abbrev cX4_isPlateau : ByteArray := prog_1_method_22_code
def yX4_isPlateau : MethodName := ⟨RX4, "isPlateau", "()Z"⟩
abbrev cX4_accuracy : ByteArray := prog_1_method_23_code
def yX4_accuracy : MethodName := ⟨RX4, "accuracy", "()D"⟩
abbrev cX4_digest : ByteArray := prog_1_method_24_code
def yX4_digest : MethodName := ⟨RX4, "digest", "()J"⟩
abbrev cX4_read : ByteArray := prog_1_method_25_code
def yX4_read : MethodName := ⟨RX4, "read", "([II)I"⟩
abbrev cX4_write : ByteArray := prog_1_method_26_code
def yX4_write : MethodName := ⟨RX4, "write", "([III)V"⟩
abbrev cX4_isKey : ByteArray := prog_1_method_27_code
def yX4_isKey : MethodName := ⟨RX4, "isKey", "(I)Z"⟩
abbrev cX4_pairOf : ByteArray := prog_1_method_28_code
def yX4_pairOf : MethodName := ⟨RX4, "pairOf", "(II)I"⟩
abbrev cX4_standSideBySide : ByteArray := prog_1_method_29_code
def yX4_standSideBySide : MethodName := ⟨RX4, "standSideBySide", "(II)Z"⟩
abbrev cX4_tellsWord : ByteArray := prog_1_method_30_code
def yX4_tellsWord : MethodName := ⟨RX4, "tellsWord", "(J)Z"⟩
abbrev cX4_lengthOf : ByteArray := prog_1_method_31_code
def yX4_lengthOf : MethodName := ⟨RX4, "lengthOf", "(J)I"⟩
abbrev cX4_letterOf : ByteArray := prog_1_method_32_code
def yX4_letterOf : MethodName := ⟨RX4, "letterOf", "(JII)I"⟩
abbrev cX4_pairAt : ByteArray := prog_1_method_33_code
def yX4_pairAt : MethodName := ⟨RX4, "pairAt", "(JII)I"⟩
abbrev cX4_weaknessOf : ByteArray := prog_1_method_34_code
def yX4_weaknessOf : MethodName := ⟨RX4, "weaknessOf", "(I)I"⟩
abbrev cX4_weightOf : ByteArray := prog_1_method_35_code
def yX4_weightOf : MethodName := ⟨RX4, "weightOf", "(J)I"⟩
abbrev cX4_weakestWordLeft : ByteArray := prog_1_method_36_code
def yX4_weakestWordLeft : MethodName := ⟨RX4, "weakestWordLeft", "()I"⟩
abbrev cX4_weightInLesson : ByteArray := prog_1_method_37_code
def yX4_weightInLesson : MethodName := ⟨RX4, "weightInLesson", "(J)I"⟩
abbrev cX4_kindOfStroke : ByteArray := prog_1_method_38_code
def yX4_kindOfStroke : MethodName := ⟨RX4, "kindOfStroke", "(I)I"⟩
abbrev cX4_tryLetter : ByteArray := prog_1_method_39_code
def yX4_tryLetter : MethodName := ⟨RX4, "tryLetter", "(I)V"⟩
abbrev cX4_mixed : ByteArray := prog_1_method_40_code
def yX4_mixed : MethodName := ⟨RX4, "mixed", "(JJ)J"⟩
abbrev cX4_digestOfWords : ByteArray := prog_1_method_41_code
def yX4_digestOfWords : MethodName := ⟨RX4, "digestOfWords", "(J)J"⟩
abbrev cX4_digestOfKnowledge : ByteArray := prog_1_method_42_code
def yX4_digestOfKnowledge : MethodName := ⟨RX4, "digestOfKnowledge", "(J)J"⟩
abbrev cX4_digestOfRecord : ByteArray := prog_1_method_43_code
def yX4_digestOfRecord : MethodName := ⟨RX4, "digestOfRecord", "(JLTypingTutor$Knowledge;I)J"⟩
abbrev cX4_digestOfLesson : ByteArray := prog_1_method_44_code
def yX4_digestOfLesson : MethodName := ⟨RX4, "digestOfLesson", "(J)J"⟩
abbrev cX4_digestOfHistory : ByteArray := prog_1_method_45_code
def yX4_digestOfHistory : MethodName := ⟨RX4, "digestOfHistory", "(J)J"⟩
def RX5 : String := "TypingTutorModel"
def TX5 : u_T := fun k => match k with
  | 0 => ("TypingTutorModel", "thrown", "I", false)
  | 1 => ("TypingTutorModel", "words", "I", false)
  | 2 => ("TypingTutorModel", "list", "[J", true)
  | 3 => ("TypingTutorModel", "tries", "[I", true)
  | 4 => ("TypingTutorModel", "misses", "[I", true)
  | 5 => ("TypingTutorModel", "levels", "[I", true)
  | 6 => ("TypingTutorModel", "kindCounts", "[I", true)
  | 7 => ("TypingTutorModel", "isOpen", "Z", false)
  | 8 => ("TypingTutorModel", "lessonWords", "I", false)
  | 9 => ("TypingTutorModel", "chosen", "[I", true)
  | 10 => ("TypingTutorModel", "letters", "I", false)
  | 11 => ("TypingTutorModel", "text", "[I", true)
  | 12 => ("TypingTutorModel", "areFirst", "[Z", true)
  | 13 => ("TypingTutorModel", "at", "I", false)
  | 14 => ("TypingTutorModel", "slips", "I", false)
  | 15 => ("TypingTutorModel", "clean", "I", false)
  | 16 => ("TypingTutorModel", "time", "I", false)
  | 17 => ("TypingTutorModel", "finished", "I", false)
  | 18 => ("TypingTutorModel", "history", "[I", false)
  | _ => ("TypingTutorModel", "pace", "I", false)
def tyX5 : Nat → FieldType := fun k => match k with
  | 0 => .int
  | 1 => .int
  | 2 => .array .long
  | 3 => .array .int
  | 4 => .array .int
  | 5 => .array .int
  | 6 => .array .int
  | 7 => .boolean
  | 8 => .int
  | 9 => .array .int
  | 10 => .int
  | 11 => .array .int
  | 12 => .array .boolean
  | 13 => .int
  | 14 => .int
  | 15 => .int
  | 16 => .int
  | 17 => .int
  | 18 => .array .int
  | _ => .int
abbrev wsX50 : List Cond := u_ws RX5 TX5 20
theorem nmX5 : ∀ a, a < 20 → ∀ b, b < 20 → a ≠ b → (TX5 a).2.1 ≠ (TX5 b).2.1 := by decide +kernel
theorem tyX5_ok : ∀ k, k < 20 → parseFieldDescriptor (TX5 k).2.2.1 = some (tyX5 k) := by decide +kernel
abbrev cX5_init : ByteArray := prog_7_method_1_code
def yX5_init : MethodName := ⟨RX5, "<init>", "()V"⟩
abbrev cX5_thrown : ByteArray := prog_7_method_2_code
def yX5_thrown : MethodName := ⟨RX5, "thrown", "()I"⟩
abbrev cX5_fail : ByteArray := prog_7_method_3_code
def yX5_fail : MethodName := ⟨RX5, "fail", "(I)I"⟩
abbrev cX5_isKey : ByteArray := prog_7_method_4_code
def yX5_isKey : MethodName := ⟨RX5, "isKey", "(I)Z"⟩
abbrev cX5_isNumber : ByteArray := prog_7_method_5_code
def yX5_isNumber : MethodName := ⟨RX5, "isNumber", "(I)Z"⟩
abbrev cX5_pairOf : ByteArray := prog_7_method_6_code
def yX5_pairOf : MethodName := ⟨RX5, "pairOf", "(II)I"⟩
abbrev cX5_size : ByteArray := prog_7_method_7_code
def yX5_size : MethodName := ⟨RX5, "size", "(J)I"⟩
abbrev cX5_letter : ByteArray := prog_7_method_8_code
def yX5_letter : MethodName := ⟨RX5, "letter", "(JI)I"⟩
abbrev cX5_isWord : ByteArray := prog_7_method_9_code
def yX5_isWord : MethodName := ⟨RX5, "isWord", "(J)Z"⟩
abbrev cX5_addWord : ByteArray := prog_7_method_10_code
def yX5_addWord : MethodName := ⟨RX5, "addWord", "(J)I"⟩
abbrev cX5_wordCount : ByteArray := prog_7_method_11_code
def yX5_wordCount : MethodName := ⟨RX5, "wordCount", "()I"⟩
abbrev cX5_word : ByteArray := prog_7_method_12_code
def yX5_word : MethodName := ⟨RX5, "word", "(I)J"⟩
abbrev cX5_weakness : ByteArray := prog_7_method_13_code
def yX5_weakness : MethodName := ⟨RX5, "weakness", "(II)I"⟩
abbrev cX5_weightOf : ByteArray := prog_7_method_14_code
def yX5_weightOf : MethodName := ⟨RX5, "weightOf", "(J)I"⟩
abbrev cX5_weight : ByteArray := prog_7_method_15_code
def yX5_weight : MethodName := ⟨RX5, "weight", "(I)I"⟩
abbrev cX5_nearTo : ByteArray := prog_7_method_16_code
def yX5_nearTo : MethodName := ⟨RX5, "nearTo", "(II)Z"⟩
abbrev cX5_areNeighbours : ByteArray := prog_7_method_17_code
def yX5_areNeighbours : MethodName := ⟨RX5, "areNeighbours", "(II)Z"⟩
abbrev cX5_put : ByteArray := prog_7_method_18_code
def yX5_put : MethodName := ⟨RX5, "put", "(I)V"⟩
abbrev cX5_begin : ByteArray := prog_7_method_19_code
def yX5_begin : MethodName := ⟨RX5, "begin", "()V"⟩
abbrev cX5_hasPair : ByteArray := prog_7_method_20_code
def yX5_hasPair : MethodName := ⟨RX5, "hasPair", "(II)Z"⟩
abbrev cX5_isChosen : ByteArray := prog_7_method_21_code
def yX5_isChosen : MethodName := ⟨RX5, "isChosen", "(I)Z"⟩
abbrev cX5_open : ByteArray := prog_7_method_22_code
def yX5_open : MethodName := ⟨RX5, "open", "(I)I"⟩
abbrev cX5_openWord : ByteArray := prog_7_method_23_code
def yX5_openWord : MethodName := ⟨RX5, "openWord", "(I)I"⟩
abbrev cX5_giveUp : ByteArray := prog_7_method_24_code
def yX5_giveUp : MethodName := ⟨RX5, "giveUp", "()I"⟩
abbrev cX5_isOpen : ByteArray := prog_7_method_25_code
def yX5_isOpen : MethodName := ⟨RX5, "isOpen", "()Z"⟩
abbrev cX5_lessonWord : ByteArray := prog_7_method_26_code
def yX5_lessonWord : MethodName := ⟨RX5, "lessonWord", "(I)I"⟩
abbrev cX5_wanted : ByteArray := prog_7_method_27_code
def yX5_wanted : MethodName := ⟨RX5, "wanted", "()I"⟩
abbrev cX5_done : ByteArray := prog_7_method_28_code
def yX5_done : MethodName := ⟨RX5, "done", "()I"⟩
abbrev cX5_kindOf : ByteArray := prog_7_method_29_code
def yX5_kindOf : MethodName := ⟨RX5, "kindOf", "(I)I"⟩
abbrev cX5_learn : ByteArray := prog_7_method_30_code
def yX5_learn : MethodName := ⟨RX5, "learn", "(IZI)V"⟩
abbrev cX5_tryLetter : ByteArray := prog_7_method_31_code
def yX5_tryLetter : MethodName := ⟨RX5, "tryLetter", "(I)V"⟩
abbrev cX5_finish : ByteArray := prog_7_method_32_code
def yX5_finish : MethodName := ⟨RX5, "finish", "()V"⟩
abbrev cX5_strike : ByteArray := prog_7_method_33_code
def yX5_strike : MethodName := ⟨RX5, "strike", "(II)I"⟩
abbrev cX5_known : ByteArray := prog_7_method_34_code
def yX5_known : MethodName := ⟨RX5, "known", "(II)I"⟩
abbrev cX5_key : ByteArray := prog_7_method_35_code
def yX5_key : MethodName := ⟨RX5, "key", "(II)I"⟩
abbrev cX5_pair : ByteArray := prog_7_method_36_code
def yX5_pair : MethodName := ⟨RX5, "pair", "(III)I"⟩
abbrev cX5_weakest : ByteArray := prog_7_method_37_code
def yX5_weakest : MethodName := ⟨RX5, "weakest", "()I"⟩
abbrev cX5_mistakes : ByteArray := prog_7_method_38_code
def yX5_mistakes : MethodName := ⟨RX5, "mistakes", "(I)I"⟩
abbrev cX5_lessons : ByteArray := prog_7_method_39_code
def yX5_lessons : MethodName := ⟨RX5, "lessons", "()I"⟩
abbrev cX5_told : ByteArray := prog_7_method_40_code
def yX5_told : MethodName := ⟨RX5, "told", "(II)I"⟩
abbrev cX5_lesson : ByteArray := prog_7_method_41_code
def yX5_lesson : MethodName := ⟨RX5, "lesson", "(II)I"⟩
abbrev cX5_pace : ByteArray := prog_7_method_42_code
def yX5_pace : MethodName := ⟨RX5, "pace", "()I"⟩
abbrev cX5_greatest : ByteArray := prog_7_method_43_code
def yX5_greatest : MethodName := ⟨RX5, "greatest", "(I)I"⟩
abbrev cX5_isPlateau : ByteArray := prog_7_method_44_code
def yX5_isPlateau : MethodName := ⟨RX5, "isPlateau", "()Z"⟩
abbrev cX5_accuracy : ByteArray := prog_7_method_45_code
def yX5_accuracy : MethodName := ⟨RX5, "accuracy", "()D"⟩
abbrev cX5_digest : ByteArray := prog_7_method_46_code
def yX5_digest : MethodName := ⟨RX5, "digest", "()J"⟩
def RJx145de : String := "java/io/Serializable"
def TJx145de : u_T := fun k => match k with
  | _ => ("", "", "", false)
def tyJx145de : Nat → FieldType := fun k => match k with
  | _ => .int
abbrev wsJx145de0 : List Cond := u_ws RJx145de TJx145de 0
theorem nmJx145de : ∀ a, a < 0 → ∀ b, b < 0 → a ≠ b → (TJx145de a).2.1 ≠ (TJx145de b).2.1 := by decide +kernel
theorem tyJx145de_ok : ∀ k, k < 0 → parseFieldDescriptor (TJx145de k).2.2.1 = some (tyJx145de k) := by decide +kernel
def RJx9f9b0 : String := "java/lang/CharSequence"
def TJx9f9b0 : u_T := fun k => match k with
  | _ => ("", "", "", false)
def tyJx9f9b0 : Nat → FieldType := fun k => match k with
  | _ => .int
abbrev wsJx9f9b00 : List Cond := u_ws RJx9f9b0 TJx9f9b0 0
theorem nmJx9f9b0 : ∀ a, a < 0 → ∀ b, b < 0 → a ≠ b → (TJx9f9b0 a).2.1 ≠ (TJx9f9b0 b).2.1 := by decide +kernel
theorem tyJx9f9b0_ok : ∀ k, k < 0 → parseFieldDescriptor (TJx9f9b0 k).2.2.1 = some (tyJx9f9b0 k) := by decide +kernel
def RJ11 : String := "java/lang/Character"
def TJ11 : u_T := fun k => match k with
  | _ => ("", "", "", false)
def tyJ11 : Nat → FieldType := fun k => match k with
  | _ => .int
abbrev wsJ110 : List Cond := u_ws RJ11 TJ11 0
theorem nmJ11 : ∀ a, a < 0 → ∀ b, b < 0 → a ≠ b → (TJ11 a).2.1 ≠ (TJ11 b).2.1 := by decide +kernel
theorem tyJ11_ok : ∀ k, k < 0 → parseFieldDescriptor (TJ11 k).2.2.1 = some (tyJ11 k) := by decide +kernel
abbrev cJ11_isValidCodePoint_9a6ad : ByteArray := prog_8_method_11_code
def yJ11_isValidCodePoint_9a6ad : MethodName := ⟨RJ11, "isValidCodePoint", "(I)Z"⟩
abbrev cJ11_highSurrogate_5068e : ByteArray := prog_8_method_28_code
def yJ11_highSurrogate_5068e : MethodName := ⟨RJ11, "highSurrogate", "(I)C"⟩
abbrev cJ11_lowSurrogate_5068e : ByteArray := prog_8_method_29_code
def yJ11_lowSurrogate_5068e : MethodName := ⟨RJ11, "lowSurrogate", "(I)C"⟩
def RJxb160c : String := "java/lang/Comparable"
def TJxb160c : u_T := fun k => match k with
  | _ => ("", "", "", false)
def tyJxb160c : Nat → FieldType := fun k => match k with
  | _ => .int
abbrev wsJxb160c0 : List Cond := u_ws RJxb160c TJxb160c 0
theorem nmJxb160c : ∀ a, a < 0 → ∀ b, b < 0 → a ≠ b → (TJxb160c a).2.1 ≠ (TJxb160c b).2.1 := by decide +kernel
theorem tyJxb160c_ok : ∀ k, k < 0 → parseFieldDescriptor (TJxb160c k).2.2.1 = some (tyJxb160c k) := by decide +kernel
def RJ9 : String := "java/lang/Math"
def TJ9 : u_T := fun k => match k with
  | _ => ("", "", "", false)
def tyJ9 : Nat → FieldType := fun k => match k with
  | _ => .int
abbrev wsJ90 : List Cond := u_ws RJ9 TJ9 0
theorem nmJ9 : ∀ a, a < 0 → ∀ b, b < 0 → a ≠ b → (TJ9 a).2.1 ≠ (TJ9 b).2.1 := by decide +kernel
theorem tyJ9_ok : ∀ k, k < 0 → parseFieldDescriptor (TJ9 k).2.2.1 = some (tyJ9 k) := by decide +kernel
abbrev cJ9_abs_0f7a4 : ByteArray := prog_13_method_59_code
def yJ9_abs_0f7a4 : MethodName := ⟨RJ9, "abs", "(I)I"⟩
abbrev cJ9_max_7cf53 : ByteArray := prog_13_method_65_code
def yJ9_max_7cf53 : MethodName := ⟨RJ9, "max", "(II)I"⟩
abbrev cJ9_min_7cf53 : ByteArray := prog_13_method_69_code
def yJ9_min_7cf53 : MethodName := ⟨RJ9, "min", "(II)I"⟩
def RJ0 : String := "java/lang/String"
def TJ0 : u_T := fun k => match k with
  | _ => ("", "", "", false)
def tyJ0 : Nat → FieldType := fun k => match k with
  | _ => .int
abbrev wsJ00 : List Cond := u_ws RJ0 TJ0 0
theorem nmJ0 : ∀ a, a < 0 → ∀ b, b < 0 → a ≠ b → (TJ0 a).2.1 ≠ (TJ0 b).2.1 := by decide +kernel
theorem tyJ0_ok : ∀ k, k < 0 → parseFieldDescriptor (TJ0 k).2.2.1 = some (tyJ0 k) := by decide +kernel
abbrev cJ0_length_8abf5 : ByteArray := prog_15_method_54_code
def yJ0_length_8abf5 : MethodName := ⟨RJ0, "length", "()I"⟩
abbrev cJ0_indexOf_0f7a4 : ByteArray := prog_15_method_79_code
def yJ0_indexOf_0f7a4 : MethodName := ⟨RJ0, "indexOf", "(I)I"⟩
abbrev cJ0_indexOf_7cf53 : ByteArray := prog_15_method_80_code
def yJ0_indexOf_7cf53 : MethodName := ⟨RJ0, "indexOf", "(II)I"⟩
abbrev cJ0_coder_7d493 : ByteArray := prog_15_method_152_code
def yJ0_coder_7d493 : MethodName := ⟨RJ0, "coder", "()B"⟩
abbrev cJ0_isLatin1_aae02 : ByteArray := prog_15_method_154_code
def yJ0_isLatin1_aae02 : MethodName := ⟨RJ0, "isLatin1", "()Z"⟩
abbrev cJ0_checkBoundsBeginEnd_23922 : ByteArray := prog_15_method_158_code
def yJ0_checkBoundsBeginEnd_23922 : MethodName := ⟨RJ0, "checkBoundsBeginEnd", "(III)V"⟩
def RJ1 : String := "java/lang/StringLatin1"
def TJ1 : u_T := fun k => match k with
  | _ => ("", "", "", false)
def tyJ1 : Nat → FieldType := fun k => match k with
  | _ => .int
abbrev wsJ10 : List Cond := u_ws RJ1 TJ1 0
theorem nmJ1 : ∀ a, a < 0 → ∀ b, b < 0 → a ≠ b → (TJ1 a).2.1 ≠ (TJ1 b).2.1 := by decide +kernel
theorem tyJ1_ok : ∀ k, k < 0 → parseFieldDescriptor (TJ1 k).2.2.1 = some (tyJ1 k) := by decide +kernel
abbrev cJ1_canEncode_9a6ad : ByteArray := prog_16_method_4_code
def yJ1_canEncode_9a6ad : MethodName := ⟨RJ1, "canEncode", "(I)Z"⟩
abbrev cJ1_indexOf_4cfef : ByteArray := prog_16_method_22_code
def yJ1_indexOf_4cfef : MethodName := ⟨RJ1, "indexOf", "([BIII)I"⟩
abbrev cJ1_indexOfChar_4cfef : ByteArray := prog_16_method_23_code
def yJ1_indexOfChar_4cfef : MethodName := ⟨RJ1, "indexOfChar", "([BIII)I"⟩
def RJ2 : String := "java/lang/StringUTF16"
def TJ2 : u_T := fun k => match k with
  | _ => ("", "", "", false)
def tyJ2 : Nat → FieldType := fun k => match k with
  | _ => .int
abbrev wsJ20 : List Cond := u_ws RJ2 TJ2 0
theorem nmJ2 : ∀ a, a < 0 → ∀ b, b < 0 → a ≠ b → (TJ2 a).2.1 ≠ (TJ2 b).2.1 := by decide +kernel
theorem tyJ2_ok : ∀ k, k < 0 → parseFieldDescriptor (TJ2 k).2.2.1 = some (tyJ2 k) := by decide +kernel
abbrev cJ2_getChar_3b067 : ByteArray := prog_17_method_5_code
def yJ2_getChar_3b067 : MethodName := ⟨RJ2, "getChar", "([BI)C"⟩
abbrev cJ2_length_9d52b : ByteArray := prog_17_method_6_code
def yJ2_length_9d52b : MethodName := ⟨RJ2, "length", "([B)I"⟩
abbrev cJ2_indexOf_4cfef : ByteArray := prog_17_method_40_code
def yJ2_indexOf_4cfef : MethodName := ⟨RJ2, "indexOf", "([BIII)I"⟩
abbrev cJ2_indexOfChar_4cfef : ByteArray := prog_17_method_47_code
def yJ2_indexOfChar_4cfef : MethodName := ⟨RJ2, "indexOfChar", "([BIII)I"⟩
abbrev cJ2_indexOfCharUnsafe_4cfef : ByteArray := prog_17_method_48_code
def yJ2_indexOfCharUnsafe_4cfef : MethodName := ⟨RJ2, "indexOfCharUnsafe", "([BIII)I"⟩
abbrev cJ2_indexOfSupplementary_4cfef : ByteArray := prog_17_method_49_code
def yJ2_indexOfSupplementary_4cfef : MethodName := ⟨RJ2, "indexOfSupplementary", "([BIII)I"⟩
abbrev cJ2_checkBoundsBeginEnd_d044e : ByteArray := prog_17_method_93_code
def yJ2_checkBoundsBeginEnd_d044e : MethodName := ⟨RJ2, "checkBoundsBeginEnd", "(II[B)V"⟩
def RJ10 : String := "java/lang/System"
def TJ10 : u_T := fun k => match k with
  | _ => ("", "", "", false)
def tyJ10 : Nat → FieldType := fun k => match k with
  | _ => .int
abbrev wsJ100 : List Cond := u_ws RJ10 TJ10 0
theorem nmJ10 : ∀ a, a < 0 → ∀ b, b < 0 → a ≠ b → (TJ10 a).2.1 ≠ (TJ10 b).2.1 := by decide +kernel
theorem tyJ10_ok : ∀ k, k < 0 → parseFieldDescriptor (TJ10 k).2.2.1 = some (tyJ10 k) := by decide +kernel
def RJxfd54e : String := "java/lang/constant/Constable"
def TJxfd54e : u_T := fun k => match k with
  | _ => ("", "", "", false)
def tyJxfd54e : Nat → FieldType := fun k => match k with
  | _ => .int
abbrev wsJxfd54e0 : List Cond := u_ws RJxfd54e TJxfd54e 0
theorem nmJxfd54e : ∀ a, a < 0 → ∀ b, b < 0 → a ≠ b → (TJxfd54e a).2.1 ≠ (TJxfd54e b).2.1 := by decide +kernel
theorem tyJxfd54e_ok : ∀ k, k < 0 → parseFieldDescriptor (TJxfd54e k).2.2.1 = some (tyJxfd54e k) := by decide +kernel
def RJx3cf43 : String := "java/lang/constant/ConstantDesc"
def TJx3cf43 : u_T := fun k => match k with
  | _ => ("", "", "", false)
def tyJx3cf43 : Nat → FieldType := fun k => match k with
  | _ => .int
abbrev wsJx3cf430 : List Cond := u_ws RJx3cf43 TJx3cf43 0
theorem nmJx3cf43 : ∀ a, a < 0 → ∀ b, b < 0 → a ≠ b → (TJx3cf43 a).2.1 ≠ (TJx3cf43 b).2.1 := by decide +kernel
theorem tyJx3cf43_ok : ∀ k, k < 0 → parseFieldDescriptor (TJx3cf43 k).2.2.1 = some (tyJx3cf43 k) := by decide +kernel
def RJ7 : String := "java/util/Arrays"
def TJ7 : u_T := fun k => match k with
  | _ => ("", "", "", false)
def tyJ7 : Nat → FieldType := fun k => match k with
  | _ => .int
abbrev wsJ70 : List Cond := u_ws RJ7 TJ7 0
theorem nmJ7 : ∀ a, a < 0 → ∀ b, b < 0 → a ≠ b → (TJ7 a).2.1 ≠ (TJ7 b).2.1 := by decide +kernel
theorem tyJ7_ok : ∀ k, k < 0 → parseFieldDescriptor (TJ7 k).2.2.1 = some (tyJ7 k) := by decide +kernel
abbrev cJ7_fill_53178 : ByteArray := prog_20_method_103_code
def yJ7_fill_53178 : MethodName := ⟨RJ7, "fill", "([II)V"⟩
def RJ3 : String := "jdk/internal/util/Preconditions"
def TJ3 : u_T := fun k => match k with
  | _ => ("", "", "", false)
def tyJ3 : Nat → FieldType := fun k => match k with
  | _ => .int
abbrev wsJ30 : List Cond := u_ws RJ3 TJ3 0
theorem nmJ3 : ∀ a, a < 0 → ∀ b, b < 0 → a ≠ b → (TJ3 a).2.1 ≠ (TJ3 b).2.1 := by decide +kernel
theorem tyJ3_ok : ∀ k, k < 0 → parseFieldDescriptor (TJ3 k).2.2.1 = some (tyJ3 k) := by decide +kernel
abbrev cJ3_checkFromToIndex_8c36e : ByteArray := prog_21_method_12_code
def yJ3_checkFromToIndex_8c36e : MethodName := ⟨RJ3, "checkFromToIndex", "(IIILjava/util/function/BiFunction;)I"⟩
def RL : String := "TypingTutorLaw"
abbrev cL_addWord : ByteArray := method_3_code
def yL_addWord : MethodName := ⟨RL, "addWord", "(LTypingTutor;J[J)I"⟩
abbrev cL_word : ByteArray := method_4_code
def yL_word : MethodName := ⟨RL, "word", "(LTypingTutor;I[J)I"⟩
abbrev cL_weight : ByteArray := method_5_code
def yL_weight : MethodName := ⟨RL, "weight", "(LTypingTutor;I[J)I"⟩
abbrev cL_areNeighbours : ByteArray := method_6_code
def yL_areNeighbours : MethodName := ⟨RL, "areNeighbours", "(LTypingTutor;II[J)I"⟩
abbrev cL_open : ByteArray := method_7_code
def yL_open : MethodName := ⟨RL, "open", "(LTypingTutor;I[J)I"⟩
abbrev cL_openWord : ByteArray := method_8_code
def yL_openWord : MethodName := ⟨RL, "openWord", "(LTypingTutor;I[J)I"⟩
abbrev cL_giveUp : ByteArray := method_9_code
def yL_giveUp : MethodName := ⟨RL, "giveUp", "(LTypingTutor;[J)I"⟩
abbrev cL_lessonWord : ByteArray := method_10_code
def yL_lessonWord : MethodName := ⟨RL, "lessonWord", "(LTypingTutor;I[J)I"⟩
abbrev cL_wanted : ByteArray := method_11_code
def yL_wanted : MethodName := ⟨RL, "wanted", "(LTypingTutor;[J)I"⟩
abbrev cL_done : ByteArray := method_12_code
def yL_done : MethodName := ⟨RL, "done", "(LTypingTutor;[J)I"⟩
abbrev cL_strike : ByteArray := method_13_code
def yL_strike : MethodName := ⟨RL, "strike", "(LTypingTutor;II[J)I"⟩
abbrev cL_key : ByteArray := method_14_code
def yL_key : MethodName := ⟨RL, "key", "(LTypingTutor;II[J)I"⟩
abbrev cL_pair : ByteArray := method_15_code
def yL_pair : MethodName := ⟨RL, "pair", "(LTypingTutor;III[J)I"⟩
abbrev cL_mistakes : ByteArray := method_16_code
def yL_mistakes : MethodName := ⟨RL, "mistakes", "(LTypingTutor;I[J)I"⟩
abbrev cL_lesson : ByteArray := method_17_code
def yL_lesson : MethodName := ⟨RL, "lesson", "(LTypingTutor;II[J)I"⟩
abbrev cL_law : ByteArray := code
def yL_law : MethodName := ⟨RL, "law", "([I)Z"⟩
def wsX0_init : List Cond := .code yX0_init cX0_init 1 none :: ([.methodLink RX0 3 objectInit, .instanceMethod objectInit, .code objectInit ⟨#[0xb1]⟩ 1 none, .arrayClass .int, .fieldLink RX0 9 "TypingTutor$History" "letters" "[I", .fieldLink RX0 15 "TypingTutor$History" "cleans" "[I", .fieldLink RX0 18 "TypingTutor$History" "times" "[I", .fieldLink RX0 21 "TypingTutor$History" "count" "I", .fieldLink RX0 25 "TypingTutor$History" "pace" "I", .fieldLink RX0 28 "TypingTutor$History" "letterSum" "I", .fieldLink RX0 31 "TypingTutor$History" "cleanSum" "I"] ++ wsX00)
def wsX0_size : List Cond := .code yX0_size cX0_size 1 (some .int) :: ([.fieldLink RX0 21 "TypingTutor$History" "count" "I"] ++ wsX00)
def wsX0_advisedPace : List Cond := .code yX0_advisedPace cX0_advisedPace 1 (some .int) :: ([.fieldLink RX0 25 "TypingTutor$History" "pace" "I"] ++ wsX00)
def wsX0_letterSum : List Cond := .code yX0_letterSum cX0_letterSum 1 (some .int) :: ([.fieldLink RX0 28 "TypingTutor$History" "letterSum" "I"] ++ wsX00)
def wsX0_cleanSum : List Cond := .code yX0_cleanSum cX0_cleanSum 1 (some .int) :: ([.fieldLink RX0 31 "TypingTutor$History" "cleanSum" "I"] ++ wsX00)
def wsX4_read : List Cond := .code yX4_read cX4_read 2 (some .int) :: ([])
def wsX0_speedOf : List Cond := .code yX0_speedOf cX0_speedOf 3 (some .int) :: ([.fieldLink RX0 18 "TypingTutor$History" "times" "[I", .fieldLink RX0 9 "TypingTutor$History" "letters" "[I", .constant RX0 42 (60000), .static yX4_read, .initialized RX4, .code yX4_read cX4_read 2 (some .int)] ++ wsX00)
def wsX0_tell : List Cond := .code yX0_tell cX0_tell 3 (some .int) :: ([.fieldLink RX0 9 "TypingTutor$History" "letters" "[I", .fieldLink RX0 15 "TypingTutor$History" "cleans" "[I", .fieldLink RX0 18 "TypingTutor$History" "times" "[I", .static yX4_read, .initialized RX4, .code yX4_read cX4_read 2 (some .int), .methodLink RX0 38 yX0_speedOf, .instanceMethod yX0_speedOf, .selects RX0 yX0_speedOf yX0_speedOf, .initialized RX0, .code yX0_speedOf cX0_speedOf 3 (some .int), .constant RX0 42 (60000)] ++ wsX00)
def wsX0_greatestSpeed : List Cond := .code yX0_greatestSpeed cX0_greatestSpeed 5 (some .int) :: ([.methodLink RX0 43 Lib.Math.max.name, .static Lib.Math.max.name, .initialized "java/lang/Math", .code Lib.Math.max.name Lib.Math.max.code 2 (some .int), .methodLink RX0 38 yX0_speedOf, .instanceMethod yX0_speedOf, .selects RX0 yX0_speedOf yX0_speedOf, .initialized RX0, .code yX0_speedOf cX0_speedOf 3 (some .int), .fieldLink RX0 18 "TypingTutor$History" "times" "[I", .fieldLink RX0 9 "TypingTutor$History" "letters" "[I", .constant RX0 42 (60000), .static yX4_read, .initialized RX4, .code yX4_read cX4_read 2 (some .int)] ++ wsX00)
def wsX4_write : List Cond := .code yX4_write cX4_write 3 none :: ([])
def wsX0_paceBehind : List Cond := .code yX0_paceBehind cX0_paceBehind 4 (some .int) :: ([.fieldLink RX0 25 "TypingTutor$History" "pace" "I", .methodLink RX0 43 Lib.Math.max.name, .static Lib.Math.max.name, .initialized "java/lang/Math", .code Lib.Math.max.name Lib.Math.max.code 2 (some .int), .methodLink RX0 56 Lib.Math.min.name, .static Lib.Math.min.name, .code Lib.Math.min.name Lib.Math.min.code 2 (some .int)] ++ wsX00)
def wsX0_keep : List Cond := .code yX0_keep cX0_keep 4 none :: ([.fieldLink RX0 21 "TypingTutor$History" "count" "I", .fieldLink RX0 9 "TypingTutor$History" "letters" "[I", .fieldLink RX0 15 "TypingTutor$History" "cleans" "[I", .fieldLink RX0 18 "TypingTutor$History" "times" "[I", .fieldLink RX0 28 "TypingTutor$History" "letterSum" "I", .fieldLink RX0 31 "TypingTutor$History" "cleanSum" "I", .fieldLink RX0 25 "TypingTutor$History" "pace" "I", .static yX4_write, .initialized RX4, .code yX4_write cX4_write 3 none, .methodLink RX0 53 yX0_paceBehind, .instanceMethod yX0_paceBehind, .selects RX0 yX0_paceBehind yX0_paceBehind, .initialized RX0, .code yX0_paceBehind cX0_paceBehind 4 (some .int), .methodLink RX0 43 Lib.Math.max.name, .static Lib.Math.max.name, .initialized "java/lang/Math", .code Lib.Math.max.name Lib.Math.max.code 2 (some .int), .methodLink RX0 56 Lib.Math.min.name, .static Lib.Math.min.name, .code Lib.Math.min.name Lib.Math.min.code 2 (some .int)] ++ wsX00)
def wsJ7_fill_53178 : List Cond := .code yJ7_fill_53178 cJ7_fill_53178 4 none :: ([])
def wsX1_init : List Cond := .code yX1_init cX1_init 3 none :: ([.methodLink RX1 3 objectInit, .instanceMethod objectInit, .code objectInit ⟨#[0xb1]⟩ 1 none, .methodLink RX1 9 Lib.Math.max.name, .static Lib.Math.max.name, .initialized "java/lang/Math", .code Lib.Math.max.name Lib.Math.max.code 2 (some .int), .arrayClass .int, .fieldLink RX1 15 "TypingTutor$Knowledge" "tries" "[I", .fieldLink RX1 21 "TypingTutor$Knowledge" "misses" "[I", .fieldLink RX1 24 "TypingTutor$Knowledge" "levels" "[I", .methodLink RX1 27 yJ7_fill_53178, .static yJ7_fill_53178, .initialized RJ7, .code yJ7_fill_53178 cJ7_fill_53178 4 none] ++ wsX10)
def wsX1_triesOf : List Cond := .code yX1_triesOf cX1_triesOf 2 (some .int) :: ([.fieldLink RX1 15 "TypingTutor$Knowledge" "tries" "[I", .static yX4_read, .initialized RX4, .code yX4_read cX4_read 2 (some .int)] ++ wsX10)
def wsX1_levelOf : List Cond := .code yX1_levelOf cX1_levelOf 2 (some .int) :: ([.fieldLink RX1 24 "TypingTutor$Knowledge" "levels" "[I", .static yX4_read, .initialized RX4, .code yX4_read cX4_read 2 (some .int)] ++ wsX10)
def wsX1_tell : List Cond := .code yX1_tell cX1_tell 3 (some .int) :: ([.fieldLink RX1 15 "TypingTutor$Knowledge" "tries" "[I", .fieldLink RX1 21 "TypingTutor$Knowledge" "misses" "[I", .fieldLink RX1 24 "TypingTutor$Knowledge" "levels" "[I", .static yX4_read, .initialized RX4, .code yX4_read cX4_read 2 (some .int)] ++ wsX10)
def wsX1_learn : List Cond := .code yX1_learn cX1_learn 6 none :: ([.methodLink RX1 9 Lib.Math.max.name, .static Lib.Math.max.name, .initialized "java/lang/Math", .code Lib.Math.max.name Lib.Math.max.code 2 (some .int), .fieldLink RX1 24 "TypingTutor$Knowledge" "levels" "[I", .fieldLink RX1 15 "TypingTutor$Knowledge" "tries" "[I", .fieldLink RX1 21 "TypingTutor$Knowledge" "misses" "[I", .static yX4_read, .initialized RX4, .code yX4_read cX4_read 2 (some .int), .static yX4_write, .code yX4_write cX4_write 3 none] ++ wsX10)
def wsX2_init : List Cond := .code yX2_init cX2_init 1 none :: ([.methodLink RX2 3 objectInit, .instanceMethod objectInit, .code objectInit ⟨#[0xb1]⟩ 1 none, .arrayClass .int, .fieldLink RX2 9 "TypingTutor$Lesson" "numbers" "[I", .fieldLink RX2 15 "TypingTutor$Lesson" "letters" "[I", .fieldLink RX2 18 "TypingTutor$Lesson" "owners" "[I", .fieldLink RX2 21 "TypingTutor$Lesson" "followers" "[I", .fieldLink RX2 24 "TypingTutor$Lesson" "running" "Z", .fieldLink RX2 28 "TypingTutor$Lesson" "wordCount" "I", .fieldLink RX2 32 "TypingTutor$Lesson" "letterCount" "I", .fieldLink RX2 35 "TypingTutor$Lesson" "tried" "I", .fieldLink RX2 38 "TypingTutor$Lesson" "clean" "I", .fieldLink RX2 41 "TypingTutor$Lesson" "times" "I", .fieldLink RX2 44 "TypingTutor$Lesson" "misses" "I"] ++ wsX20)
def wsX2_isRunning : List Cond := .code yX2_isRunning cX2_isRunning 1 (some .boolean) :: ([.fieldLink RX2 24 "TypingTutor$Lesson" "running" "Z"] ++ wsX20)
def wsX2_wordTotal : List Cond := .code yX2_wordTotal cX2_wordTotal 1 (some .int) :: ([.fieldLink RX2 28 "TypingTutor$Lesson" "wordCount" "I"] ++ wsX20)
def wsX2_letterTotal : List Cond := .code yX2_letterTotal cX2_letterTotal 1 (some .int) :: ([.fieldLink RX2 32 "TypingTutor$Lesson" "letterCount" "I"] ++ wsX20)
def wsX2_triedTotal : List Cond := .code yX2_triedTotal cX2_triedTotal 1 (some .int) :: ([.fieldLink RX2 35 "TypingTutor$Lesson" "tried" "I"] ++ wsX20)
def wsX2_cleanTotal : List Cond := .code yX2_cleanTotal cX2_cleanTotal 1 (some .int) :: ([.fieldLink RX2 38 "TypingTutor$Lesson" "clean" "I"] ++ wsX20)
def wsX2_timeSum : List Cond := .code yX2_timeSum cX2_timeSum 1 (some .int) :: ([.fieldLink RX2 41 "TypingTutor$Lesson" "times" "I"] ++ wsX20)
def wsX2_mistakesHere : List Cond := .code yX2_mistakesHere cX2_mistakesHere 1 (some .int) :: ([.fieldLink RX2 44 "TypingTutor$Lesson" "misses" "I"] ++ wsX20)
def wsX2_numberAt : List Cond := .code yX2_numberAt cX2_numberAt 2 (some .int) :: ([.fieldLink RX2 9 "TypingTutor$Lesson" "numbers" "[I", .static yX4_read, .initialized RX4, .code yX4_read cX4_read 2 (some .int)] ++ wsX20)
def wsX2_letterHere : List Cond := .code yX2_letterHere cX2_letterHere 1 (some .int) :: ([.fieldLink RX2 15 "TypingTutor$Lesson" "letters" "[I", .fieldLink RX2 35 "TypingTutor$Lesson" "tried" "I", .static yX4_read, .initialized RX4, .code yX4_read cX4_read 2 (some .int)] ++ wsX20)
def wsX2_letterInSameWord : List Cond := .code yX2_letterInSameWord cX2_letterInSameWord 2 (some .int) :: ([.fieldLink RX2 32 "TypingTutor$Lesson" "letterCount" "I", .fieldLink RX2 18 "TypingTutor$Lesson" "owners" "[I", .fieldLink RX2 35 "TypingTutor$Lesson" "tried" "I", .fieldLink RX2 15 "TypingTutor$Lesson" "letters" "[I", .static yX4_read, .initialized RX4, .code yX4_read cX4_read 2 (some .int)] ++ wsX20)
def wsX2_letterBefore : List Cond := .code yX2_letterBefore cX2_letterBefore 1 (some .int) :: ([.fieldLink RX2 35 "TypingTutor$Lesson" "tried" "I", .methodLink RX2 51 yX2_letterInSameWord, .instanceMethod yX2_letterInSameWord, .selects RX2 yX2_letterInSameWord yX2_letterInSameWord, .initialized RX2, .code yX2_letterInSameWord cX2_letterInSameWord 2 (some .int), .fieldLink RX2 32 "TypingTutor$Lesson" "letterCount" "I", .fieldLink RX2 18 "TypingTutor$Lesson" "owners" "[I", .fieldLink RX2 15 "TypingTutor$Lesson" "letters" "[I", .static yX4_read, .initialized RX4, .code yX4_read cX4_read 2 (some .int)] ++ wsX20)
def wsX2_letterAfter : List Cond := .code yX2_letterAfter cX2_letterAfter 1 (some .int) :: ([.fieldLink RX2 35 "TypingTutor$Lesson" "tried" "I", .methodLink RX2 51 yX2_letterInSameWord, .instanceMethod yX2_letterInSameWord, .selects RX2 yX2_letterInSameWord yX2_letterInSameWord, .initialized RX2, .code yX2_letterInSameWord cX2_letterInSameWord 2 (some .int), .fieldLink RX2 32 "TypingTutor$Lesson" "letterCount" "I", .fieldLink RX2 18 "TypingTutor$Lesson" "owners" "[I", .fieldLink RX2 15 "TypingTutor$Lesson" "letters" "[I", .static yX4_read, .initialized RX4, .code yX4_read cX4_read 2 (some .int)] ++ wsX20)
def wsX2_hasWord : List Cond := .code yX2_hasWord cX2_hasWord 3 (some .boolean) :: ([.fieldLink RX2 28 "TypingTutor$Lesson" "wordCount" "I", .fieldLink RX2 9 "TypingTutor$Lesson" "numbers" "[I", .static yX4_read, .initialized RX4, .code yX4_read cX4_read 2 (some .int)] ++ wsX20)
def wsX2_hasPair : List Cond := .code yX2_hasPair cX2_hasPair 3 (some .boolean) :: ([.fieldLink RX2 21 "TypingTutor$Lesson" "followers" "[I", .static yX4_read, .initialized RX4, .code yX4_read cX4_read 2 (some .int)] ++ wsX20)
def wsX2_start : List Cond := .code yX2_start cX2_start 1 none :: ([.fieldLink RX2 21 "TypingTutor$Lesson" "followers" "[I", .fieldLink RX2 24 "TypingTutor$Lesson" "running" "Z", .fieldLink RX2 28 "TypingTutor$Lesson" "wordCount" "I", .fieldLink RX2 32 "TypingTutor$Lesson" "letterCount" "I", .fieldLink RX2 35 "TypingTutor$Lesson" "tried" "I", .fieldLink RX2 38 "TypingTutor$Lesson" "clean" "I", .fieldLink RX2 41 "TypingTutor$Lesson" "times" "I", .fieldLink RX2 44 "TypingTutor$Lesson" "misses" "I", .methodLink RX2 55 yJ7_fill_53178, .static yJ7_fill_53178, .initialized RJ7, .code yJ7_fill_53178 cJ7_fill_53178 4 none] ++ wsX20)
def wsX4_lengthOf : List Cond := .code yX4_lengthOf cX4_lengthOf 3 (some .int) :: ([])
def wsX4_letterOf : List Cond := .code yX4_letterOf cX4_letterOf 4 (some .int) :: ([.constantLong RX4 227 (255)])
def wsX2_append : List Cond := .code yX2_append cX2_append 8 none :: ([.fieldLink RX2 21 "TypingTutor$Lesson" "followers" "[I", .fieldLink RX2 15 "TypingTutor$Lesson" "letters" "[I", .fieldLink RX2 32 "TypingTutor$Lesson" "letterCount" "I", .fieldLink RX2 18 "TypingTutor$Lesson" "owners" "[I", .fieldLink RX2 28 "TypingTutor$Lesson" "wordCount" "I", .fieldLink RX2 9 "TypingTutor$Lesson" "numbers" "[I", .static yX4_lengthOf, .initialized RX4, .code yX4_lengthOf cX4_lengthOf 3 (some .int), .static yX4_letterOf, .code yX4_letterOf cX4_letterOf 4 (some .int), .constantLong RX4 227 (255), .static yX4_read, .code yX4_read cX4_read 2 (some .int), .static yX4_write, .code yX4_write cX4_write 3 none] ++ wsX20)
def wsX2_noteStroke : List Cond := .code yX2_noteStroke cX2_noteStroke 3 none :: ([.fieldLink RX2 41 "TypingTutor$Lesson" "times" "I", .fieldLink RX2 44 "TypingTutor$Lesson" "misses" "I"] ++ wsX20)
def wsX2_goOn : List Cond := .code yX2_goOn cX2_goOn 2 none :: ([.fieldLink RX2 35 "TypingTutor$Lesson" "tried" "I", .fieldLink RX2 44 "TypingTutor$Lesson" "misses" "I", .fieldLink RX2 38 "TypingTutor$Lesson" "clean" "I"] ++ wsX20)
def wsX2_stop : List Cond := .code yX2_stop cX2_stop 1 none :: ([.fieldLink RX2 24 "TypingTutor$Lesson" "running" "Z"] ++ wsX20)
def wsX3_init : List Cond := .code yX3_init cX3_init 1 none :: ([.methodLink RX3 3 objectInit, .instanceMethod objectInit, .code objectInit ⟨#[0xb1]⟩ 1 none, .arrayClass .long, .fieldLink RX3 9 "TypingTutor$WordList" "words" "[J", .fieldLink RX3 15 "TypingTutor$WordList" "count" "I"] ++ wsX30)
def wsX3_size : List Cond := .code yX3_size cX3_size 1 (some .int) :: ([.fieldLink RX3 15 "TypingTutor$WordList" "count" "I"] ++ wsX30)
def wsX3_isFull : List Cond := .code yX3_isFull cX3_isFull 1 (some .boolean) :: ([.fieldLink RX3 15 "TypingTutor$WordList" "count" "I", .fieldLink RX3 9 "TypingTutor$WordList" "words" "[J"] ++ wsX30)
def wsX3_hasNumber : List Cond := .code yX3_hasNumber cX3_hasNumber 2 (some .boolean) :: ([.fieldLink RX3 15 "TypingTutor$WordList" "count" "I"] ++ wsX30)
def wsX3_wordAt : List Cond := .code yX3_wordAt cX3_wordAt 2 (some .long) :: ([.fieldLink RX3 9 "TypingTutor$WordList" "words" "[J"] ++ wsX30)
def wsX3_holds : List Cond := .code yX3_holds cX3_holds 4 (some .boolean) :: ([.fieldLink RX3 15 "TypingTutor$WordList" "count" "I", .methodLink RX3 19 yX3_wordAt, .instanceMethod yX3_wordAt, .selects RX3 yX3_wordAt yX3_wordAt, .initialized RX3, .code yX3_wordAt cX3_wordAt 2 (some .long), .fieldLink RX3 9 "TypingTutor$WordList" "words" "[J"] ++ wsX30)
def wsX3_append : List Cond := .code yX3_append cX3_append 3 (some .int) :: ([.fieldLink RX3 15 "TypingTutor$WordList" "count" "I", .fieldLink RX3 9 "TypingTutor$WordList" "words" "[J"] ++ wsX30)
def wsX4_init_r1 : List Cond := [Cond.methodLink RX4 3 objectInit, Cond.instanceMethod objectInit, Cond.code objectInit ⟨#[0xb1]⟩ 1 none, Cond.classLink RX4 9 RX3, Cond.instantiable RX3 2, Cond.initialized RX3, Cond.fieldLink RX4 12 "TypingTutor" "list" "LTypingTutor$WordList;", Cond.classLink RX4 16 RX1, Cond.instantiable RX1 3, Cond.initialized RX1, Cond.fieldLink RX4 21 "TypingTutor" "keys" "LTypingTutor$Knowledge;", Cond.fieldLink RX4 25 "TypingTutor" "pairs" "LTypingTutor$Knowledge;", Cond.classLink RX4 28 RX2, Cond.instantiable RX2 11, Cond.initialized RX2, Cond.fieldLink RX4 31 "TypingTutor" "current" "LTypingTutor$Lesson;", Cond.classLink RX4 35 RX0, Cond.instantiable RX0 7, Cond.initialized RX0, Cond.fieldLink RX4 38 "TypingTutor" "past" "LTypingTutor$History;", Cond.arrayClass .int, Cond.fieldLink RX4 42 "TypingTutor" "mistakeCounts" "[I", Cond.instanceMethod yX3_init, Cond.code yX3_init cX3_init 1 none]
def wsX4_init_r2 : List Cond := [Cond.methodLink RX3 3 objectInit, Cond.arrayClass .long, Cond.fieldLink RX3 9 "TypingTutor$WordList" "words" "[J", Cond.fieldLink RX3 15 "TypingTutor$WordList" "count" "I", Cond.methodLink RX4 18 yX1_init, Cond.instanceMethod yX1_init, Cond.code yX1_init cX1_init 3 none, Cond.methodLink RX1 3 objectInit, Cond.methodLink RX1 9 Lib.Math.max.name, Cond.static Lib.Math.max.name, Cond.initialized "java/lang/Math", Cond.code Lib.Math.max.name Lib.Math.max.code 2 (some .int), Cond.fieldLink RX1 15 "TypingTutor$Knowledge" "tries" "[I", Cond.fieldLink RX1 21 "TypingTutor$Knowledge" "misses" "[I", Cond.fieldLink RX1 24 "TypingTutor$Knowledge" "levels" "[I", Cond.methodLink RX1 27 yJ7_fill_53178, Cond.static yJ7_fill_53178, Cond.initialized RJ7, Cond.code yJ7_fill_53178 cJ7_fill_53178 4 none, Cond.instanceMethod yX2_init, Cond.code yX2_init cX2_init 1 none, Cond.methodLink RX2 3 objectInit, Cond.fieldLink RX2 9 "TypingTutor$Lesson" "numbers" "[I", Cond.fieldLink RX2 15 "TypingTutor$Lesson" "letters" "[I"]
def wsX4_init_r3 : List Cond := [Cond.fieldLink RX2 18 "TypingTutor$Lesson" "owners" "[I", Cond.fieldLink RX2 21 "TypingTutor$Lesson" "followers" "[I", Cond.fieldLink RX2 24 "TypingTutor$Lesson" "running" "Z", Cond.fieldLink RX2 28 "TypingTutor$Lesson" "wordCount" "I", Cond.fieldLink RX2 32 "TypingTutor$Lesson" "letterCount" "I", Cond.fieldLink RX2 35 "TypingTutor$Lesson" "tried" "I", Cond.fieldLink RX2 38 "TypingTutor$Lesson" "clean" "I", Cond.fieldLink RX2 41 "TypingTutor$Lesson" "times" "I", Cond.fieldLink RX2 44 "TypingTutor$Lesson" "misses" "I", Cond.instanceMethod yX0_init, Cond.code yX0_init cX0_init 1 none, Cond.methodLink RX0 3 objectInit, Cond.fieldLink RX0 9 "TypingTutor$History" "letters" "[I", Cond.fieldLink RX0 15 "TypingTutor$History" "cleans" "[I", Cond.fieldLink RX0 18 "TypingTutor$History" "times" "[I", Cond.fieldLink RX0 21 "TypingTutor$History" "count" "I", Cond.fieldLink RX0 25 "TypingTutor$History" "pace" "I", Cond.fieldLink RX0 28 "TypingTutor$History" "letterSum" "I", Cond.fieldLink RX0 31 "TypingTutor$History" "cleanSum" "I"]
def wsX4_init : List Cond := .code yX4_init cX4_init 1 none :: ((wsX4_init_r1 ++ (wsX4_init_r2 ++ wsX4_init_r3)) ++ wsX30 ++ wsX40 ++ wsX10 ++ wsX20 ++ wsX00)
def wsX4_tellsWord : List Cond := .code yX4_tellsWord cX4_tellsWord 7 (some .boolean) :: ([.constantLong RX4 227 (255), .constantLong RX4 229 (97), .constantLong RX4 231 (122)])
def wsX4_addWord_r1 : List Cond := [Cond.classLink RX4 50 "java/lang/IllegalArgumentException", Cond.initialized "java/lang/IllegalArgumentException", Cond.classLink RX4 64 "java/lang/IllegalStateException", Cond.initialized "java/lang/IllegalStateException", Cond.fieldLink RX4 12 "TypingTutor" "list" "LTypingTutor$WordList;", Cond.methodLink RX4 46 yX4_tellsWord, Cond.static yX4_tellsWord, Cond.initialized RX4, Cond.code yX4_tellsWord cX4_tellsWord 7 (some .boolean), Cond.constantLong RX4 227 (255), Cond.constantLong RX4 229 (97), Cond.constantLong RX4 231 (122), Cond.methodLink RX4 57 yX3_isFull, Cond.instanceMethod yX3_isFull, Cond.selects RX3 yX3_isFull yX3_isFull, Cond.initialized RX3, Cond.code yX3_isFull cX3_isFull 1 (some .boolean), Cond.fieldLink RX3 15 "TypingTutor$WordList" "count" "I", Cond.fieldLink RX3 9 "TypingTutor$WordList" "words" "[J", Cond.methodLink RX4 61 yX3_holds, Cond.instanceMethod yX3_holds, Cond.selects RX3 yX3_holds yX3_holds, Cond.code yX3_holds cX3_holds 4 (some .boolean), Cond.methodLink RX3 19 yX3_wordAt]
def wsX4_addWord_r2 : List Cond := [Cond.instanceMethod yX3_wordAt, Cond.selects RX3 yX3_wordAt yX3_wordAt, Cond.code yX3_wordAt cX3_wordAt 2 (some .long), Cond.methodLink RX4 69 yX3_append, Cond.instanceMethod yX3_append, Cond.selects RX3 yX3_append yX3_append, Cond.code yX3_append cX3_append 3 (some .int)]
def wsX4_addWord : List Cond := .code yX4_addWord cX4_addWord 3 (some .int) :: ((wsX4_addWord_r1 ++ wsX4_addWord_r2) ++ wsX40 ++ wsX30 ++ (vx_atS RX4 54 "java/lang/IllegalArgumentException" ["java/lang/RuntimeException", "java/lang/Exception"]).filter goodWord ++ (vx_atS RX4 68 "java/lang/IllegalStateException" ["java/lang/RuntimeException", "java/lang/Exception"]).filter goodWord)
def wsX4_wordCount : List Cond := .code yX4_wordCount cX4_wordCount 1 (some .int) :: ([.fieldLink RX4 12 "TypingTutor" "list" "LTypingTutor$WordList;", .methodLink RX4 73 yX3_size, .instanceMethod yX3_size, .selects RX3 yX3_size yX3_size, .initialized RX3, .code yX3_size cX3_size 1 (some .int), .fieldLink RX3 15 "TypingTutor$WordList" "count" "I"] ++ wsX40 ++ wsX30)
def wsX4_word : List Cond := .code yX4_word cX4_word 2 (some .long) :: ([.classLink RX4 81 "java/lang/IndexOutOfBoundsException", .initialized "java/lang/IndexOutOfBoundsException", .fieldLink RX4 12 "TypingTutor" "list" "LTypingTutor$WordList;", .methodLink RX4 77 yX3_hasNumber, .instanceMethod yX3_hasNumber, .selects RX3 yX3_hasNumber yX3_hasNumber, .initialized RX3, .code yX3_hasNumber cX3_hasNumber 2 (some .boolean), .fieldLink RX3 15 "TypingTutor$WordList" "count" "I", .methodLink RX4 86 yX3_wordAt, .instanceMethod yX3_wordAt, .selects RX3 yX3_wordAt yX3_wordAt, .code yX3_wordAt cX3_wordAt 2 (some .long), .fieldLink RX3 9 "TypingTutor$WordList" "words" "[J"] ++ wsX40 ++ wsX30 ++ (vx_atS RX4 85 "java/lang/IndexOutOfBoundsException" ["java/lang/RuntimeException", "java/lang/Exception"]).filter goodWord)
def wsX4_pairOf : List Cond := .code yX4_pairOf cX4_pairOf 2 (some .int) :: ([])
def wsX4_pairAt : List Cond := .code yX4_pairAt cX4_pairAt 4 (some .int) :: ([.methodLink RX4 233 yX4_letterOf, .static yX4_letterOf, .initialized RX4, .code yX4_letterOf cX4_letterOf 4 (some .int), .constantLong RX4 227 (255), .methodLink RX4 174 yX4_pairOf, .static yX4_pairOf, .code yX4_pairOf cX4_pairOf 2 (some .int)])
def wsX4_weaknessOf : List Cond := .code yX4_weaknessOf cX4_weaknessOf 3 (some .int) :: ([.fieldLink RX4 25 "TypingTutor" "pairs" "LTypingTutor$Knowledge;", .methodLink RX4 237 yX1_levelOf, .instanceMethod yX1_levelOf, .selects RX1 yX1_levelOf yX1_levelOf, .initialized RX1, .code yX1_levelOf cX1_levelOf 2 (some .int), .fieldLink RX1 24 "TypingTutor$Knowledge" "levels" "[I", .static yX4_read, .initialized RX4, .code yX4_read cX4_read 2 (some .int), .methodLink RX4 180 yX1_triesOf, .instanceMethod yX1_triesOf, .selects RX1 yX1_triesOf yX1_triesOf, .code yX1_triesOf cX1_triesOf 2 (some .int), .fieldLink RX1 15 "TypingTutor$Knowledge" "tries" "[I"] ++ wsX40 ++ wsX10)
def wsX4_weightOf_r1 : List Cond := [Cond.fieldLink RX4 21 "TypingTutor" "keys" "LTypingTutor$Knowledge;", Cond.methodLink RX4 240 yX4_lengthOf, Cond.static yX4_lengthOf, Cond.initialized RX4, Cond.code yX4_lengthOf cX4_lengthOf 3 (some .int), Cond.methodLink RX4 233 yX4_letterOf, Cond.static yX4_letterOf, Cond.code yX4_letterOf cX4_letterOf 4 (some .int), Cond.constantLong RX4 227 (255), Cond.methodLink RX4 237 yX1_levelOf, Cond.instanceMethod yX1_levelOf, Cond.selects RX1 yX1_levelOf yX1_levelOf, Cond.initialized RX1, Cond.code yX1_levelOf cX1_levelOf 2 (some .int), Cond.fieldLink RX1 24 "TypingTutor$Knowledge" "levels" "[I", Cond.static yX4_read, Cond.code yX4_read cX4_read 2 (some .int), Cond.methodLink RX4 243 yX4_pairAt, Cond.static yX4_pairAt, Cond.code yX4_pairAt cX4_pairAt 4 (some .int), Cond.methodLink RX4 174 yX4_pairOf, Cond.static yX4_pairOf, Cond.code yX4_pairOf cX4_pairOf 2 (some .int), Cond.methodLink RX4 177 yX4_weaknessOf]
def wsX4_weightOf_r2 : List Cond := [Cond.instanceMethod yX4_weaknessOf, Cond.selects RX4 yX4_weaknessOf yX4_weaknessOf, Cond.code yX4_weaknessOf cX4_weaknessOf 3 (some .int), Cond.fieldLink RX4 25 "TypingTutor" "pairs" "LTypingTutor$Knowledge;", Cond.methodLink RX4 180 yX1_triesOf, Cond.instanceMethod yX1_triesOf, Cond.selects RX1 yX1_triesOf yX1_triesOf, Cond.code yX1_triesOf cX1_triesOf 2 (some .int), Cond.fieldLink RX1 15 "TypingTutor$Knowledge" "tries" "[I"]
def wsX4_weightOf : List Cond := .code yX4_weightOf cX4_weightOf 6 (some .int) :: ((wsX4_weightOf_r1 ++ wsX4_weightOf_r2) ++ wsX40 ++ wsX10)
def wsX4_weight_r1 : List Cond := [Cond.classLink RX4 81 "java/lang/IndexOutOfBoundsException", Cond.initialized "java/lang/IndexOutOfBoundsException", Cond.fieldLink RX4 12 "TypingTutor" "list" "LTypingTutor$WordList;", Cond.methodLink RX4 77 yX3_hasNumber, Cond.instanceMethod yX3_hasNumber, Cond.selects RX3 yX3_hasNumber yX3_hasNumber, Cond.initialized RX3, Cond.code yX3_hasNumber cX3_hasNumber 2 (some .boolean), Cond.fieldLink RX3 15 "TypingTutor$WordList" "count" "I", Cond.methodLink RX4 86 yX3_wordAt, Cond.instanceMethod yX3_wordAt, Cond.selects RX3 yX3_wordAt yX3_wordAt, Cond.code yX3_wordAt cX3_wordAt 2 (some .long), Cond.fieldLink RX3 9 "TypingTutor$WordList" "words" "[J", Cond.methodLink RX4 90 yX4_weightOf, Cond.instanceMethod yX4_weightOf, Cond.selects RX4 yX4_weightOf yX4_weightOf, Cond.initialized RX4, Cond.code yX4_weightOf cX4_weightOf 6 (some .int), Cond.fieldLink RX4 21 "TypingTutor" "keys" "LTypingTutor$Knowledge;", Cond.methodLink RX4 240 yX4_lengthOf, Cond.static yX4_lengthOf, Cond.code yX4_lengthOf cX4_lengthOf 3 (some .int), Cond.methodLink RX4 233 yX4_letterOf]
def wsX4_weight_r2 : List Cond := [Cond.static yX4_letterOf, Cond.code yX4_letterOf cX4_letterOf 4 (some .int), Cond.constantLong RX4 227 (255), Cond.methodLink RX4 237 yX1_levelOf, Cond.instanceMethod yX1_levelOf, Cond.selects RX1 yX1_levelOf yX1_levelOf, Cond.initialized RX1, Cond.code yX1_levelOf cX1_levelOf 2 (some .int), Cond.fieldLink RX1 24 "TypingTutor$Knowledge" "levels" "[I", Cond.static yX4_read, Cond.code yX4_read cX4_read 2 (some .int), Cond.methodLink RX4 243 yX4_pairAt, Cond.static yX4_pairAt, Cond.code yX4_pairAt cX4_pairAt 4 (some .int), Cond.methodLink RX4 174 yX4_pairOf, Cond.static yX4_pairOf, Cond.code yX4_pairOf cX4_pairOf 2 (some .int), Cond.methodLink RX4 177 yX4_weaknessOf, Cond.instanceMethod yX4_weaknessOf, Cond.selects RX4 yX4_weaknessOf yX4_weaknessOf, Cond.code yX4_weaknessOf cX4_weaknessOf 3 (some .int), Cond.fieldLink RX4 25 "TypingTutor" "pairs" "LTypingTutor$Knowledge;", Cond.methodLink RX4 180 yX1_triesOf, Cond.instanceMethod yX1_triesOf]
def wsX4_weight_r3 : List Cond := [Cond.selects RX1 yX1_triesOf yX1_triesOf, Cond.code yX1_triesOf cX1_triesOf 2 (some .int), Cond.fieldLink RX1 15 "TypingTutor$Knowledge" "tries" "[I"]
def wsX4_weight : List Cond := .code yX4_weight cX4_weight 2 (some .int) :: ((wsX4_weight_r1 ++ (wsX4_weight_r2 ++ wsX4_weight_r3)) ++ wsX40 ++ wsX30 ++ wsX10 ++ (vx_atS RX4 85 "java/lang/IndexOutOfBoundsException" ["java/lang/RuntimeException", "java/lang/Exception"]).filter goodWord)
def wsX4_isKey : List Cond := .code yX4_isKey cX4_isKey 1 (some .boolean) :: ([])
def wsX4_standSideBySide : List Cond := .code yX4_standSideBySide cX4_standSideBySide 4 (some .boolean) :: ([.fieldLink RX4 216 "TypingTutor" "KEY_ROW" "[I", .methodLink RX4 219 Lib.Math.abs.name, .static Lib.Math.abs.name, .initialized "java/lang/Math", .code Lib.Math.abs.name Lib.Math.abs.code 1 (some .int), .fieldLink RX4 224 "TypingTutor" "KEY_PLACE" "[I", .methodLink RX4 152 yX4_read, .static yX4_read, .initialized RX4, .code yX4_read cX4_read 2 (some .int)])
def wsX4_areNeighbours : List Cond := .code yX4_areNeighbours cX4_areNeighbours 3 (some .boolean) :: ([.classLink RX4 81 "java/lang/IndexOutOfBoundsException", .initialized "java/lang/IndexOutOfBoundsException", .methodLink RX4 93 yX4_isKey, .static yX4_isKey, .initialized RX4, .code yX4_isKey cX4_isKey 1 (some .boolean), .methodLink RX4 98 yX4_standSideBySide, .static yX4_standSideBySide, .code yX4_standSideBySide cX4_standSideBySide 4 (some .boolean), .fieldLink RX4 216 "TypingTutor" "KEY_ROW" "[I", .methodLink RX4 219 Lib.Math.abs.name, .static Lib.Math.abs.name, .initialized "java/lang/Math", .code Lib.Math.abs.name Lib.Math.abs.code 1 (some .int), .fieldLink RX4 224 "TypingTutor" "KEY_PLACE" "[I", .methodLink RX4 152 yX4_read, .static yX4_read, .code yX4_read cX4_read 2 (some .int)] ++ (vx_atS RX4 85 "java/lang/IndexOutOfBoundsException" ["java/lang/RuntimeException", "java/lang/Exception"]).filter goodWord)
def wsX4_weightInLesson_r1 : List Cond := [Cond.fieldLink RX4 31 "TypingTutor" "current" "LTypingTutor$Lesson;", Cond.methodLink RX4 240 yX4_lengthOf, Cond.static yX4_lengthOf, Cond.initialized RX4, Cond.code yX4_lengthOf cX4_lengthOf 3 (some .int), Cond.methodLink RX4 90 yX4_weightOf, Cond.instanceMethod yX4_weightOf, Cond.selects RX4 yX4_weightOf yX4_weightOf, Cond.code yX4_weightOf cX4_weightOf 6 (some .int), Cond.fieldLink RX4 21 "TypingTutor" "keys" "LTypingTutor$Knowledge;", Cond.methodLink RX4 233 yX4_letterOf, Cond.static yX4_letterOf, Cond.code yX4_letterOf cX4_letterOf 4 (some .int), Cond.constantLong RX4 227 (255), Cond.methodLink RX4 237 yX1_levelOf, Cond.instanceMethod yX1_levelOf, Cond.selects RX1 yX1_levelOf yX1_levelOf, Cond.initialized RX1, Cond.code yX1_levelOf cX1_levelOf 2 (some .int), Cond.fieldLink RX1 24 "TypingTutor$Knowledge" "levels" "[I", Cond.static yX4_read, Cond.code yX4_read cX4_read 2 (some .int), Cond.methodLink RX4 243 yX4_pairAt, Cond.static yX4_pairAt]
def wsX4_weightInLesson_r2 : List Cond := [Cond.code yX4_pairAt cX4_pairAt 4 (some .int), Cond.methodLink RX4 174 yX4_pairOf, Cond.static yX4_pairOf, Cond.code yX4_pairOf cX4_pairOf 2 (some .int), Cond.methodLink RX4 177 yX4_weaknessOf, Cond.instanceMethod yX4_weaknessOf, Cond.selects RX4 yX4_weaknessOf yX4_weaknessOf, Cond.code yX4_weaknessOf cX4_weaknessOf 3 (some .int), Cond.fieldLink RX4 25 "TypingTutor" "pairs" "LTypingTutor$Knowledge;", Cond.methodLink RX4 180 yX1_triesOf, Cond.instanceMethod yX1_triesOf, Cond.selects RX1 yX1_triesOf yX1_triesOf, Cond.code yX1_triesOf cX1_triesOf 2 (some .int), Cond.fieldLink RX1 15 "TypingTutor$Knowledge" "tries" "[I", Cond.methodLink RX4 252 yX2_hasPair, Cond.instanceMethod yX2_hasPair, Cond.selects RX2 yX2_hasPair yX2_hasPair, Cond.initialized RX2, Cond.code yX2_hasPair cX2_hasPair 3 (some .boolean), Cond.fieldLink RX2 21 "TypingTutor$Lesson" "followers" "[I"]
def wsX4_weightInLesson : List Cond := .code yX4_weightInLesson cX4_weightInLesson 8 (some .int) :: ((wsX4_weightInLesson_r1 ++ wsX4_weightInLesson_r2) ++ wsX40 ++ wsX10 ++ wsX20)
def wsX4_weakestWordLeft_r1 : List Cond := [Cond.fieldLink RX4 12 "TypingTutor" "list" "LTypingTutor$WordList;", Cond.fieldLink RX4 31 "TypingTutor" "current" "LTypingTutor$Lesson;", Cond.methodLink RX4 73 yX3_size, Cond.instanceMethod yX3_size, Cond.selects RX3 yX3_size yX3_size, Cond.initialized RX3, Cond.code yX3_size cX3_size 1 (some .int), Cond.fieldLink RX3 15 "TypingTutor$WordList" "count" "I", Cond.methodLink RX4 246 yX2_hasWord, Cond.instanceMethod yX2_hasWord, Cond.selects RX2 yX2_hasWord yX2_hasWord, Cond.initialized RX2, Cond.code yX2_hasWord cX2_hasWord 3 (some .boolean), Cond.fieldLink RX2 28 "TypingTutor$Lesson" "wordCount" "I", Cond.fieldLink RX2 9 "TypingTutor$Lesson" "numbers" "[I", Cond.static yX4_read, Cond.initialized RX4, Cond.code yX4_read cX4_read 2 (some .int), Cond.methodLink RX4 86 yX3_wordAt, Cond.instanceMethod yX3_wordAt, Cond.selects RX3 yX3_wordAt yX3_wordAt, Cond.code yX3_wordAt cX3_wordAt 2 (some .long), Cond.fieldLink RX3 9 "TypingTutor$WordList" "words" "[J", Cond.methodLink RX4 249 yX4_weightInLesson]
def wsX4_weakestWordLeft_r2 : List Cond := [Cond.instanceMethod yX4_weightInLesson, Cond.selects RX4 yX4_weightInLesson yX4_weightInLesson, Cond.code yX4_weightInLesson cX4_weightInLesson 8 (some .int), Cond.methodLink RX4 240 yX4_lengthOf, Cond.static yX4_lengthOf, Cond.code yX4_lengthOf cX4_lengthOf 3 (some .int), Cond.methodLink RX4 90 yX4_weightOf, Cond.instanceMethod yX4_weightOf, Cond.selects RX4 yX4_weightOf yX4_weightOf, Cond.code yX4_weightOf cX4_weightOf 6 (some .int), Cond.fieldLink RX4 21 "TypingTutor" "keys" "LTypingTutor$Knowledge;", Cond.methodLink RX4 233 yX4_letterOf, Cond.static yX4_letterOf, Cond.code yX4_letterOf cX4_letterOf 4 (some .int), Cond.constantLong RX4 227 (255), Cond.methodLink RX4 237 yX1_levelOf, Cond.instanceMethod yX1_levelOf, Cond.selects RX1 yX1_levelOf yX1_levelOf, Cond.initialized RX1, Cond.code yX1_levelOf cX1_levelOf 2 (some .int), Cond.fieldLink RX1 24 "TypingTutor$Knowledge" "levels" "[I", Cond.methodLink RX4 243 yX4_pairAt, Cond.static yX4_pairAt, Cond.code yX4_pairAt cX4_pairAt 4 (some .int)]
def wsX4_weakestWordLeft_r3 : List Cond := [Cond.methodLink RX4 174 yX4_pairOf, Cond.static yX4_pairOf, Cond.code yX4_pairOf cX4_pairOf 2 (some .int), Cond.methodLink RX4 177 yX4_weaknessOf, Cond.instanceMethod yX4_weaknessOf, Cond.selects RX4 yX4_weaknessOf yX4_weaknessOf, Cond.code yX4_weaknessOf cX4_weaknessOf 3 (some .int), Cond.fieldLink RX4 25 "TypingTutor" "pairs" "LTypingTutor$Knowledge;", Cond.methodLink RX4 180 yX1_triesOf, Cond.instanceMethod yX1_triesOf, Cond.selects RX1 yX1_triesOf yX1_triesOf, Cond.code yX1_triesOf cX1_triesOf 2 (some .int), Cond.fieldLink RX1 15 "TypingTutor$Knowledge" "tries" "[I", Cond.methodLink RX4 252 yX2_hasPair, Cond.instanceMethod yX2_hasPair, Cond.selects RX2 yX2_hasPair yX2_hasPair, Cond.code yX2_hasPair cX2_hasPair 3 (some .boolean), Cond.fieldLink RX2 21 "TypingTutor$Lesson" "followers" "[I"]
def wsX4_weakestWordLeft : List Cond := .code yX4_weakestWordLeft cX4_weakestWordLeft 5 (some .int) :: ((wsX4_weakestWordLeft_r1 ++ (wsX4_weakestWordLeft_r2 ++ wsX4_weakestWordLeft_r3)) ++ wsX40 ++ wsX30 ++ wsX20 ++ wsX10)
def wsX4_open_r1 : List Cond := [Cond.classLink RX4 50 "java/lang/IllegalArgumentException", Cond.initialized "java/lang/IllegalArgumentException", Cond.classLink RX4 64 "java/lang/IllegalStateException", Cond.initialized "java/lang/IllegalStateException", Cond.fieldLink RX4 31 "TypingTutor" "current" "LTypingTutor$Lesson;", Cond.fieldLink RX4 12 "TypingTutor" "list" "LTypingTutor$WordList;", Cond.methodLink RX4 104 yX2_isRunning, Cond.instanceMethod yX2_isRunning, Cond.selects RX2 yX2_isRunning yX2_isRunning, Cond.initialized RX2, Cond.code yX2_isRunning cX2_isRunning 1 (some .boolean), Cond.fieldLink RX2 24 "TypingTutor$Lesson" "running" "Z", Cond.methodLink RX4 73 yX3_size, Cond.instanceMethod yX3_size, Cond.selects RX3 yX3_size yX3_size, Cond.initialized RX3, Cond.code yX3_size cX3_size 1 (some .int), Cond.fieldLink RX3 15 "TypingTutor$WordList" "count" "I", Cond.methodLink RX4 109 yX2_start, Cond.instanceMethod yX2_start, Cond.selects RX2 yX2_start yX2_start, Cond.code yX2_start cX2_start 1 none, Cond.fieldLink RX2 21 "TypingTutor$Lesson" "followers" "[I", Cond.fieldLink RX2 28 "TypingTutor$Lesson" "wordCount" "I"]
def wsX4_open_r2 : List Cond := [Cond.fieldLink RX2 32 "TypingTutor$Lesson" "letterCount" "I", Cond.fieldLink RX2 35 "TypingTutor$Lesson" "tried" "I", Cond.fieldLink RX2 38 "TypingTutor$Lesson" "clean" "I", Cond.fieldLink RX2 41 "TypingTutor$Lesson" "times" "I", Cond.fieldLink RX2 44 "TypingTutor$Lesson" "misses" "I", Cond.methodLink RX2 55 yJ7_fill_53178, Cond.static yJ7_fill_53178, Cond.initialized RJ7, Cond.code yJ7_fill_53178 cJ7_fill_53178 4 none, Cond.methodLink RX4 112 yX4_weakestWordLeft, Cond.instanceMethod yX4_weakestWordLeft, Cond.selects RX4 yX4_weakestWordLeft yX4_weakestWordLeft, Cond.initialized RX4, Cond.code yX4_weakestWordLeft cX4_weakestWordLeft 5 (some .int), Cond.methodLink RX4 246 yX2_hasWord, Cond.instanceMethod yX2_hasWord, Cond.selects RX2 yX2_hasWord yX2_hasWord, Cond.code yX2_hasWord cX2_hasWord 3 (some .boolean), Cond.fieldLink RX2 9 "TypingTutor$Lesson" "numbers" "[I", Cond.static yX4_read, Cond.code yX4_read cX4_read 2 (some .int), Cond.methodLink RX4 86 yX3_wordAt, Cond.instanceMethod yX3_wordAt, Cond.selects RX3 yX3_wordAt yX3_wordAt]
def wsX4_open_r3 : List Cond := [Cond.code yX3_wordAt cX3_wordAt 2 (some .long), Cond.fieldLink RX3 9 "TypingTutor$WordList" "words" "[J", Cond.methodLink RX4 249 yX4_weightInLesson, Cond.instanceMethod yX4_weightInLesson, Cond.selects RX4 yX4_weightInLesson yX4_weightInLesson, Cond.code yX4_weightInLesson cX4_weightInLesson 8 (some .int), Cond.methodLink RX4 240 yX4_lengthOf, Cond.static yX4_lengthOf, Cond.code yX4_lengthOf cX4_lengthOf 3 (some .int), Cond.methodLink RX4 90 yX4_weightOf, Cond.instanceMethod yX4_weightOf, Cond.selects RX4 yX4_weightOf yX4_weightOf, Cond.code yX4_weightOf cX4_weightOf 6 (some .int), Cond.fieldLink RX4 21 "TypingTutor" "keys" "LTypingTutor$Knowledge;", Cond.methodLink RX4 233 yX4_letterOf, Cond.static yX4_letterOf, Cond.code yX4_letterOf cX4_letterOf 4 (some .int), Cond.constantLong RX4 227 (255), Cond.methodLink RX4 237 yX1_levelOf, Cond.instanceMethod yX1_levelOf, Cond.selects RX1 yX1_levelOf yX1_levelOf, Cond.initialized RX1, Cond.code yX1_levelOf cX1_levelOf 2 (some .int), Cond.fieldLink RX1 24 "TypingTutor$Knowledge" "levels" "[I"]
def wsX4_open_r4 : List Cond := [Cond.methodLink RX4 243 yX4_pairAt, Cond.static yX4_pairAt, Cond.code yX4_pairAt cX4_pairAt 4 (some .int), Cond.methodLink RX4 174 yX4_pairOf, Cond.static yX4_pairOf, Cond.code yX4_pairOf cX4_pairOf 2 (some .int), Cond.methodLink RX4 177 yX4_weaknessOf, Cond.instanceMethod yX4_weaknessOf, Cond.selects RX4 yX4_weaknessOf yX4_weaknessOf, Cond.code yX4_weaknessOf cX4_weaknessOf 3 (some .int), Cond.fieldLink RX4 25 "TypingTutor" "pairs" "LTypingTutor$Knowledge;", Cond.methodLink RX4 180 yX1_triesOf, Cond.instanceMethod yX1_triesOf, Cond.selects RX1 yX1_triesOf yX1_triesOf, Cond.code yX1_triesOf cX1_triesOf 2 (some .int), Cond.fieldLink RX1 15 "TypingTutor$Knowledge" "tries" "[I", Cond.methodLink RX4 252 yX2_hasPair, Cond.instanceMethod yX2_hasPair, Cond.selects RX2 yX2_hasPair yX2_hasPair, Cond.code yX2_hasPair cX2_hasPair 3 (some .boolean), Cond.methodLink RX4 115 yX2_append, Cond.instanceMethod yX2_append, Cond.selects RX2 yX2_append yX2_append, Cond.code yX2_append cX2_append 8 none]
def wsX4_open_r5 : List Cond := [Cond.fieldLink RX2 15 "TypingTutor$Lesson" "letters" "[I", Cond.fieldLink RX2 18 "TypingTutor$Lesson" "owners" "[I", Cond.static yX4_write, Cond.code yX4_write cX4_write 3 none, Cond.methodLink RX4 118 yX2_wordTotal, Cond.instanceMethod yX2_wordTotal, Cond.selects RX2 yX2_wordTotal yX2_wordTotal, Cond.code yX2_wordTotal cX2_wordTotal 1 (some .int)]
def wsX4_open : List Cond := .code yX4_open cX4_open 4 (some .int) :: ((wsX4_open_r1 ++ (wsX4_open_r2 ++ (wsX4_open_r3 ++ (wsX4_open_r4 ++ wsX4_open_r5)))) ++ wsX40 ++ wsX20 ++ wsX30 ++ wsX10 ++ (vx_atS RX4 54 "java/lang/IllegalArgumentException" ["java/lang/RuntimeException", "java/lang/Exception"]).filter goodWord ++ (vx_atS RX4 68 "java/lang/IllegalStateException" ["java/lang/RuntimeException", "java/lang/Exception"]).filter goodWord)
def wsX4_openWord_r1 : List Cond := [Cond.classLink RX4 81 "java/lang/IndexOutOfBoundsException", Cond.initialized "java/lang/IndexOutOfBoundsException", Cond.classLink RX4 64 "java/lang/IllegalStateException", Cond.initialized "java/lang/IllegalStateException", Cond.fieldLink RX4 12 "TypingTutor" "list" "LTypingTutor$WordList;", Cond.fieldLink RX4 31 "TypingTutor" "current" "LTypingTutor$Lesson;", Cond.methodLink RX4 77 yX3_hasNumber, Cond.instanceMethod yX3_hasNumber, Cond.selects RX3 yX3_hasNumber yX3_hasNumber, Cond.initialized RX3, Cond.code yX3_hasNumber cX3_hasNumber 2 (some .boolean), Cond.fieldLink RX3 15 "TypingTutor$WordList" "count" "I", Cond.methodLink RX4 104 yX2_isRunning, Cond.instanceMethod yX2_isRunning, Cond.selects RX2 yX2_isRunning yX2_isRunning, Cond.initialized RX2, Cond.code yX2_isRunning cX2_isRunning 1 (some .boolean), Cond.fieldLink RX2 24 "TypingTutor$Lesson" "running" "Z", Cond.methodLink RX4 109 yX2_start, Cond.instanceMethod yX2_start, Cond.selects RX2 yX2_start yX2_start, Cond.code yX2_start cX2_start 1 none, Cond.fieldLink RX2 21 "TypingTutor$Lesson" "followers" "[I", Cond.fieldLink RX2 28 "TypingTutor$Lesson" "wordCount" "I"]
def wsX4_openWord_r2 : List Cond := [Cond.fieldLink RX2 32 "TypingTutor$Lesson" "letterCount" "I", Cond.fieldLink RX2 35 "TypingTutor$Lesson" "tried" "I", Cond.fieldLink RX2 38 "TypingTutor$Lesson" "clean" "I", Cond.fieldLink RX2 41 "TypingTutor$Lesson" "times" "I", Cond.fieldLink RX2 44 "TypingTutor$Lesson" "misses" "I", Cond.methodLink RX2 55 yJ7_fill_53178, Cond.static yJ7_fill_53178, Cond.initialized RJ7, Cond.code yJ7_fill_53178 cJ7_fill_53178 4 none, Cond.methodLink RX4 86 yX3_wordAt, Cond.instanceMethod yX3_wordAt, Cond.selects RX3 yX3_wordAt yX3_wordAt, Cond.code yX3_wordAt cX3_wordAt 2 (some .long), Cond.fieldLink RX3 9 "TypingTutor$WordList" "words" "[J", Cond.methodLink RX4 115 yX2_append, Cond.instanceMethod yX2_append, Cond.selects RX2 yX2_append yX2_append, Cond.code yX2_append cX2_append 8 none, Cond.fieldLink RX2 15 "TypingTutor$Lesson" "letters" "[I", Cond.fieldLink RX2 18 "TypingTutor$Lesson" "owners" "[I", Cond.fieldLink RX2 9 "TypingTutor$Lesson" "numbers" "[I", Cond.static yX4_lengthOf, Cond.initialized RX4, Cond.code yX4_lengthOf cX4_lengthOf 3 (some .int)]
def wsX4_openWord_r3 : List Cond := [Cond.static yX4_letterOf, Cond.code yX4_letterOf cX4_letterOf 4 (some .int), Cond.constantLong RX4 227 (255), Cond.static yX4_read, Cond.code yX4_read cX4_read 2 (some .int), Cond.static yX4_write, Cond.code yX4_write cX4_write 3 none, Cond.methodLink RX4 123 yX2_letterTotal, Cond.instanceMethod yX2_letterTotal, Cond.selects RX2 yX2_letterTotal yX2_letterTotal, Cond.code yX2_letterTotal cX2_letterTotal 1 (some .int)]
def wsX4_openWord : List Cond := .code yX4_openWord cX4_openWord 2 (some .int) :: ((wsX4_openWord_r1 ++ (wsX4_openWord_r2 ++ wsX4_openWord_r3)) ++ wsX40 ++ wsX30 ++ wsX20 ++ (vx_atS RX4 85 "java/lang/IndexOutOfBoundsException" ["java/lang/RuntimeException", "java/lang/Exception"]).filter goodWord ++ (vx_atS RX4 68 "java/lang/IllegalStateException" ["java/lang/RuntimeException", "java/lang/Exception"]).filter goodWord)
def wsX4_giveUp : List Cond := .code yX4_giveUp cX4_giveUp 1 (some .int) :: ([.classLink RX4 64 "java/lang/IllegalStateException", .initialized "java/lang/IllegalStateException", .fieldLink RX4 31 "TypingTutor" "current" "LTypingTutor$Lesson;", .methodLink RX4 104 yX2_isRunning, .instanceMethod yX2_isRunning, .selects RX2 yX2_isRunning yX2_isRunning, .initialized RX2, .code yX2_isRunning cX2_isRunning 1 (some .boolean), .fieldLink RX2 24 "TypingTutor$Lesson" "running" "Z", .methodLink RX4 128 yX2_stop, .instanceMethod yX2_stop, .selects RX2 yX2_stop yX2_stop, .code yX2_stop cX2_stop 1 none, .methodLink RX4 123 yX2_letterTotal, .instanceMethod yX2_letterTotal, .selects RX2 yX2_letterTotal yX2_letterTotal, .code yX2_letterTotal cX2_letterTotal 1 (some .int), .fieldLink RX2 32 "TypingTutor$Lesson" "letterCount" "I", .methodLink RX4 131 yX2_triedTotal, .instanceMethod yX2_triedTotal, .selects RX2 yX2_triedTotal yX2_triedTotal, .code yX2_triedTotal cX2_triedTotal 1 (some .int), .fieldLink RX2 35 "TypingTutor$Lesson" "tried" "I"] ++ wsX40 ++ wsX20 ++ (vx_atS RX4 68 "java/lang/IllegalStateException" ["java/lang/RuntimeException", "java/lang/Exception"]).filter goodWord)
def wsX4_isOpen : List Cond := .code yX4_isOpen cX4_isOpen 1 (some .boolean) :: ([.fieldLink RX4 31 "TypingTutor" "current" "LTypingTutor$Lesson;", .methodLink RX4 104 yX2_isRunning, .instanceMethod yX2_isRunning, .selects RX2 yX2_isRunning yX2_isRunning, .initialized RX2, .code yX2_isRunning cX2_isRunning 1 (some .boolean), .fieldLink RX2 24 "TypingTutor$Lesson" "running" "Z"] ++ wsX40 ++ wsX20)
def wsX4_lessonWord : List Cond := .code yX4_lessonWord cX4_lessonWord 2 (some .int) :: ([.classLink RX4 64 "java/lang/IllegalStateException", .initialized "java/lang/IllegalStateException", .classLink RX4 81 "java/lang/IndexOutOfBoundsException", .initialized "java/lang/IndexOutOfBoundsException", .fieldLink RX4 31 "TypingTutor" "current" "LTypingTutor$Lesson;", .methodLink RX4 104 yX2_isRunning, .instanceMethod yX2_isRunning, .selects RX2 yX2_isRunning yX2_isRunning, .initialized RX2, .code yX2_isRunning cX2_isRunning 1 (some .boolean), .fieldLink RX2 24 "TypingTutor$Lesson" "running" "Z", .methodLink RX4 118 yX2_wordTotal, .instanceMethod yX2_wordTotal, .selects RX2 yX2_wordTotal yX2_wordTotal, .code yX2_wordTotal cX2_wordTotal 1 (some .int), .fieldLink RX2 28 "TypingTutor$Lesson" "wordCount" "I", .methodLink RX4 136 yX2_numberAt, .instanceMethod yX2_numberAt, .selects RX2 yX2_numberAt yX2_numberAt, .code yX2_numberAt cX2_numberAt 2 (some .int), .fieldLink RX2 9 "TypingTutor$Lesson" "numbers" "[I", .static yX4_read, .initialized RX4, .code yX4_read cX4_read 2 (some .int)] ++ wsX40 ++ wsX20 ++ (vx_atS RX4 68 "java/lang/IllegalStateException" ["java/lang/RuntimeException", "java/lang/Exception"]).filter goodWord ++ (vx_atS RX4 85 "java/lang/IndexOutOfBoundsException" ["java/lang/RuntimeException", "java/lang/Exception"]).filter goodWord)
def wsX4_wanted : List Cond := .code yX4_wanted cX4_wanted 1 (some .int) :: ([.classLink RX4 64 "java/lang/IllegalStateException", .initialized "java/lang/IllegalStateException", .fieldLink RX4 31 "TypingTutor" "current" "LTypingTutor$Lesson;", .methodLink RX4 104 yX2_isRunning, .instanceMethod yX2_isRunning, .selects RX2 yX2_isRunning yX2_isRunning, .initialized RX2, .code yX2_isRunning cX2_isRunning 1 (some .boolean), .fieldLink RX2 24 "TypingTutor$Lesson" "running" "Z", .methodLink RX4 140 yX2_letterHere, .instanceMethod yX2_letterHere, .selects RX2 yX2_letterHere yX2_letterHere, .code yX2_letterHere cX2_letterHere 1 (some .int), .fieldLink RX2 15 "TypingTutor$Lesson" "letters" "[I", .fieldLink RX2 35 "TypingTutor$Lesson" "tried" "I", .static yX4_read, .initialized RX4, .code yX4_read cX4_read 2 (some .int)] ++ wsX40 ++ wsX20 ++ (vx_atS RX4 68 "java/lang/IllegalStateException" ["java/lang/RuntimeException", "java/lang/Exception"]).filter goodWord)
def wsX4_done : List Cond := .code yX4_done cX4_done 1 (some .int) :: ([.classLink RX4 64 "java/lang/IllegalStateException", .initialized "java/lang/IllegalStateException", .fieldLink RX4 31 "TypingTutor" "current" "LTypingTutor$Lesson;", .methodLink RX4 104 yX2_isRunning, .instanceMethod yX2_isRunning, .selects RX2 yX2_isRunning yX2_isRunning, .initialized RX2, .code yX2_isRunning cX2_isRunning 1 (some .boolean), .fieldLink RX2 24 "TypingTutor$Lesson" "running" "Z", .methodLink RX4 131 yX2_triedTotal, .instanceMethod yX2_triedTotal, .selects RX2 yX2_triedTotal yX2_triedTotal, .code yX2_triedTotal cX2_triedTotal 1 (some .int), .fieldLink RX2 35 "TypingTutor$Lesson" "tried" "I"] ++ wsX40 ++ wsX20 ++ (vx_atS RX4 68 "java/lang/IllegalStateException" ["java/lang/RuntimeException", "java/lang/Exception"]).filter goodWord)
def wsX4_kindOfStroke_r1 : List Cond := [Cond.fieldLink RX4 31 "TypingTutor" "current" "LTypingTutor$Lesson;", Cond.methodLink RX4 140 yX2_letterHere, Cond.instanceMethod yX2_letterHere, Cond.selects RX2 yX2_letterHere yX2_letterHere, Cond.initialized RX2, Cond.code yX2_letterHere cX2_letterHere 1 (some .int), Cond.fieldLink RX2 15 "TypingTutor$Lesson" "letters" "[I", Cond.fieldLink RX2 35 "TypingTutor$Lesson" "tried" "I", Cond.static yX4_read, Cond.initialized RX4, Cond.code yX4_read cX4_read 2 (some .int), Cond.methodLink RX4 255 yX2_letterAfter, Cond.instanceMethod yX2_letterAfter, Cond.selects RX2 yX2_letterAfter yX2_letterAfter, Cond.code yX2_letterAfter cX2_letterAfter 1 (some .int), Cond.methodLink RX2 51 yX2_letterInSameWord, Cond.instanceMethod yX2_letterInSameWord, Cond.selects RX2 yX2_letterInSameWord yX2_letterInSameWord, Cond.code yX2_letterInSameWord cX2_letterInSameWord 2 (some .int), Cond.fieldLink RX2 32 "TypingTutor$Lesson" "letterCount" "I", Cond.fieldLink RX2 18 "TypingTutor$Lesson" "owners" "[I", Cond.methodLink RX4 258 yX2_letterBefore, Cond.instanceMethod yX2_letterBefore, Cond.selects RX2 yX2_letterBefore yX2_letterBefore]
def wsX4_kindOfStroke_r2 : List Cond := [Cond.code yX2_letterBefore cX2_letterBefore 1 (some .int), Cond.methodLink RX4 98 yX4_standSideBySide, Cond.static yX4_standSideBySide, Cond.code yX4_standSideBySide cX4_standSideBySide 4 (some .boolean), Cond.fieldLink RX4 216 "TypingTutor" "KEY_ROW" "[I", Cond.methodLink RX4 219 Lib.Math.abs.name, Cond.static Lib.Math.abs.name, Cond.initialized "java/lang/Math", Cond.code Lib.Math.abs.name Lib.Math.abs.code 1 (some .int), Cond.fieldLink RX4 224 "TypingTutor" "KEY_PLACE" "[I", Cond.methodLink RX4 152 yX4_read]
def wsX4_kindOfStroke : List Cond := .code yX4_kindOfStroke cX4_kindOfStroke 3 (some .int) :: ((wsX4_kindOfStroke_r1 ++ wsX4_kindOfStroke_r2) ++ wsX40 ++ wsX20)
def wsX4_tryLetter_r1 : List Cond := [Cond.fieldLink RX4 31 "TypingTutor" "current" "LTypingTutor$Lesson;", Cond.fieldLink RX4 21 "TypingTutor" "keys" "LTypingTutor$Knowledge;", Cond.fieldLink RX4 25 "TypingTutor" "pairs" "LTypingTutor$Knowledge;", Cond.fieldLink RX4 38 "TypingTutor" "past" "LTypingTutor$History;", Cond.methodLink RX4 160 yX2_mistakesHere, Cond.instanceMethod yX2_mistakesHere, Cond.selects RX2 yX2_mistakesHere yX2_mistakesHere, Cond.initialized RX2, Cond.code yX2_mistakesHere cX2_mistakesHere 1 (some .int), Cond.fieldLink RX2 44 "TypingTutor$Lesson" "misses" "I", Cond.methodLink RX4 140 yX2_letterHere, Cond.instanceMethod yX2_letterHere, Cond.selects RX2 yX2_letterHere yX2_letterHere, Cond.code yX2_letterHere cX2_letterHere 1 (some .int), Cond.fieldLink RX2 15 "TypingTutor$Lesson" "letters" "[I", Cond.fieldLink RX2 35 "TypingTutor$Lesson" "tried" "I", Cond.static yX4_read, Cond.initialized RX4, Cond.code yX4_read cX4_read 2 (some .int), Cond.methodLink RX4 258 yX2_letterBefore, Cond.instanceMethod yX2_letterBefore, Cond.selects RX2 yX2_letterBefore yX2_letterBefore, Cond.code yX2_letterBefore cX2_letterBefore 1 (some .int), Cond.methodLink RX2 51 yX2_letterInSameWord]
def wsX4_tryLetter_r2 : List Cond := [Cond.instanceMethod yX2_letterInSameWord, Cond.selects RX2 yX2_letterInSameWord yX2_letterInSameWord, Cond.code yX2_letterInSameWord cX2_letterInSameWord 2 (some .int), Cond.fieldLink RX2 32 "TypingTutor$Lesson" "letterCount" "I", Cond.fieldLink RX2 18 "TypingTutor$Lesson" "owners" "[I", Cond.methodLink RX4 261 yX1_learn, Cond.instanceMethod yX1_learn, Cond.selects RX1 yX1_learn yX1_learn, Cond.initialized RX1, Cond.code yX1_learn cX1_learn 6 none, Cond.methodLink RX1 9 Lib.Math.max.name, Cond.static Lib.Math.max.name, Cond.initialized "java/lang/Math", Cond.code Lib.Math.max.name Lib.Math.max.code 2 (some .int), Cond.fieldLink RX1 24 "TypingTutor$Knowledge" "levels" "[I", Cond.fieldLink RX1 15 "TypingTutor$Knowledge" "tries" "[I", Cond.fieldLink RX1 21 "TypingTutor$Knowledge" "misses" "[I", Cond.static yX4_write, Cond.code yX4_write cX4_write 3 none, Cond.methodLink RX4 174 yX4_pairOf, Cond.static yX4_pairOf, Cond.code yX4_pairOf cX4_pairOf 2 (some .int), Cond.methodLink RX4 265 yX2_goOn, Cond.instanceMethod yX2_goOn]
def wsX4_tryLetter_r3 : List Cond := [Cond.selects RX2 yX2_goOn yX2_goOn, Cond.code yX2_goOn cX2_goOn 2 none, Cond.fieldLink RX2 38 "TypingTutor$Lesson" "clean" "I", Cond.methodLink RX4 131 yX2_triedTotal, Cond.instanceMethod yX2_triedTotal, Cond.selects RX2 yX2_triedTotal yX2_triedTotal, Cond.code yX2_triedTotal cX2_triedTotal 1 (some .int), Cond.methodLink RX4 123 yX2_letterTotal, Cond.instanceMethod yX2_letterTotal, Cond.selects RX2 yX2_letterTotal yX2_letterTotal, Cond.code yX2_letterTotal cX2_letterTotal 1 (some .int), Cond.methodLink RX4 128 yX2_stop, Cond.instanceMethod yX2_stop, Cond.selects RX2 yX2_stop yX2_stop, Cond.code yX2_stop cX2_stop 1 none, Cond.fieldLink RX2 24 "TypingTutor$Lesson" "running" "Z", Cond.methodLink RX4 269 yX2_cleanTotal, Cond.instanceMethod yX2_cleanTotal, Cond.selects RX2 yX2_cleanTotal yX2_cleanTotal, Cond.code yX2_cleanTotal cX2_cleanTotal 1 (some .int), Cond.methodLink RX4 272 yX2_timeSum, Cond.instanceMethod yX2_timeSum, Cond.selects RX2 yX2_timeSum yX2_timeSum, Cond.code yX2_timeSum cX2_timeSum 1 (some .int)]
def wsX4_tryLetter_r4 : List Cond := [Cond.fieldLink RX2 41 "TypingTutor$Lesson" "times" "I", Cond.methodLink RX4 275 yX0_keep, Cond.instanceMethod yX0_keep, Cond.selects RX0 yX0_keep yX0_keep, Cond.initialized RX0, Cond.code yX0_keep cX0_keep 4 none, Cond.fieldLink RX0 21 "TypingTutor$History" "count" "I", Cond.fieldLink RX0 9 "TypingTutor$History" "letters" "[I", Cond.fieldLink RX0 15 "TypingTutor$History" "cleans" "[I", Cond.fieldLink RX0 18 "TypingTutor$History" "times" "[I", Cond.fieldLink RX0 28 "TypingTutor$History" "letterSum" "I", Cond.fieldLink RX0 31 "TypingTutor$History" "cleanSum" "I", Cond.fieldLink RX0 25 "TypingTutor$History" "pace" "I", Cond.methodLink RX0 53 yX0_paceBehind, Cond.instanceMethod yX0_paceBehind, Cond.selects RX0 yX0_paceBehind yX0_paceBehind, Cond.code yX0_paceBehind cX0_paceBehind 4 (some .int), Cond.methodLink RX0 43 Lib.Math.max.name, Cond.methodLink RX0 56 Lib.Math.min.name, Cond.static Lib.Math.min.name, Cond.code Lib.Math.min.name Lib.Math.min.code 2 (some .int)]
def wsX4_tryLetter : List Cond := .code yX4_tryLetter cX4_tryLetter 5 none :: ((wsX4_tryLetter_r1 ++ (wsX4_tryLetter_r2 ++ (wsX4_tryLetter_r3 ++ wsX4_tryLetter_r4))) ++ wsX40 ++ wsX20 ++ wsX10 ++ wsX00)
def wsX4_strike_r1 : List Cond := [Cond.classLink RX4 81 "java/lang/IndexOutOfBoundsException", Cond.initialized "java/lang/IndexOutOfBoundsException", Cond.classLink RX4 50 "java/lang/IllegalArgumentException", Cond.initialized "java/lang/IllegalArgumentException", Cond.classLink RX4 64 "java/lang/IllegalStateException", Cond.initialized "java/lang/IllegalStateException", Cond.fieldLink RX4 31 "TypingTutor" "current" "LTypingTutor$Lesson;", Cond.fieldLink RX4 42 "TypingTutor" "mistakeCounts" "[I", Cond.methodLink RX4 93 yX4_isKey, Cond.static yX4_isKey, Cond.initialized RX4, Cond.code yX4_isKey cX4_isKey 1 (some .boolean), Cond.methodLink RX4 104 yX2_isRunning, Cond.instanceMethod yX2_isRunning, Cond.selects RX2 yX2_isRunning yX2_isRunning, Cond.initialized RX2, Cond.code yX2_isRunning cX2_isRunning 1 (some .boolean), Cond.fieldLink RX2 24 "TypingTutor$Lesson" "running" "Z", Cond.methodLink RX4 145 yX4_kindOfStroke, Cond.instanceMethod yX4_kindOfStroke, Cond.selects RX4 yX4_kindOfStroke yX4_kindOfStroke, Cond.code yX4_kindOfStroke cX4_kindOfStroke 3 (some .int), Cond.methodLink RX4 140 yX2_letterHere, Cond.instanceMethod yX2_letterHere]
def wsX4_strike_r2 : List Cond := [Cond.selects RX2 yX2_letterHere yX2_letterHere, Cond.code yX2_letterHere cX2_letterHere 1 (some .int), Cond.fieldLink RX2 15 "TypingTutor$Lesson" "letters" "[I", Cond.fieldLink RX2 35 "TypingTutor$Lesson" "tried" "I", Cond.static yX4_read, Cond.code yX4_read cX4_read 2 (some .int), Cond.methodLink RX4 255 yX2_letterAfter, Cond.instanceMethod yX2_letterAfter, Cond.selects RX2 yX2_letterAfter yX2_letterAfter, Cond.code yX2_letterAfter cX2_letterAfter 1 (some .int), Cond.methodLink RX2 51 yX2_letterInSameWord, Cond.instanceMethod yX2_letterInSameWord, Cond.selects RX2 yX2_letterInSameWord yX2_letterInSameWord, Cond.code yX2_letterInSameWord cX2_letterInSameWord 2 (some .int), Cond.fieldLink RX2 32 "TypingTutor$Lesson" "letterCount" "I", Cond.fieldLink RX2 18 "TypingTutor$Lesson" "owners" "[I", Cond.methodLink RX4 258 yX2_letterBefore, Cond.instanceMethod yX2_letterBefore, Cond.selects RX2 yX2_letterBefore yX2_letterBefore, Cond.code yX2_letterBefore cX2_letterBefore 1 (some .int), Cond.methodLink RX4 98 yX4_standSideBySide, Cond.static yX4_standSideBySide, Cond.code yX4_standSideBySide cX4_standSideBySide 4 (some .boolean), Cond.fieldLink RX4 216 "TypingTutor" "KEY_ROW" "[I"]
def wsX4_strike_r3 : List Cond := [Cond.methodLink RX4 219 Lib.Math.abs.name, Cond.static Lib.Math.abs.name, Cond.initialized "java/lang/Math", Cond.code Lib.Math.abs.name Lib.Math.abs.code 1 (some .int), Cond.fieldLink RX4 224 "TypingTutor" "KEY_PLACE" "[I", Cond.methodLink RX4 152 yX4_read, Cond.methodLink RX4 148 yX2_noteStroke, Cond.instanceMethod yX2_noteStroke, Cond.selects RX2 yX2_noteStroke yX2_noteStroke, Cond.code yX2_noteStroke cX2_noteStroke 3 none, Cond.fieldLink RX2 41 "TypingTutor$Lesson" "times" "I", Cond.fieldLink RX2 44 "TypingTutor$Lesson" "misses" "I", Cond.methodLink RX4 156 yX4_write, Cond.static yX4_write, Cond.code yX4_write cX4_write 3 none, Cond.methodLink RX4 160 yX2_mistakesHere, Cond.instanceMethod yX2_mistakesHere, Cond.selects RX2 yX2_mistakesHere yX2_mistakesHere, Cond.code yX2_mistakesHere cX2_mistakesHere 1 (some .int), Cond.methodLink RX4 163 yX4_tryLetter, Cond.instanceMethod yX4_tryLetter, Cond.selects RX4 yX4_tryLetter yX4_tryLetter, Cond.code yX4_tryLetter cX4_tryLetter 5 none, Cond.fieldLink RX4 21 "TypingTutor" "keys" "LTypingTutor$Knowledge;"]
def wsX4_strike_r4 : List Cond := [Cond.fieldLink RX4 25 "TypingTutor" "pairs" "LTypingTutor$Knowledge;", Cond.fieldLink RX4 38 "TypingTutor" "past" "LTypingTutor$History;", Cond.methodLink RX4 261 yX1_learn, Cond.instanceMethod yX1_learn, Cond.selects RX1 yX1_learn yX1_learn, Cond.initialized RX1, Cond.code yX1_learn cX1_learn 6 none, Cond.methodLink RX1 9 Lib.Math.max.name, Cond.static Lib.Math.max.name, Cond.code Lib.Math.max.name Lib.Math.max.code 2 (some .int), Cond.fieldLink RX1 24 "TypingTutor$Knowledge" "levels" "[I", Cond.fieldLink RX1 15 "TypingTutor$Knowledge" "tries" "[I", Cond.fieldLink RX1 21 "TypingTutor$Knowledge" "misses" "[I", Cond.methodLink RX4 174 yX4_pairOf, Cond.static yX4_pairOf, Cond.code yX4_pairOf cX4_pairOf 2 (some .int), Cond.methodLink RX4 265 yX2_goOn, Cond.instanceMethod yX2_goOn, Cond.selects RX2 yX2_goOn yX2_goOn, Cond.code yX2_goOn cX2_goOn 2 none, Cond.fieldLink RX2 38 "TypingTutor$Lesson" "clean" "I", Cond.methodLink RX4 131 yX2_triedTotal, Cond.instanceMethod yX2_triedTotal, Cond.selects RX2 yX2_triedTotal yX2_triedTotal]
def wsX4_strike_r5 : List Cond := [Cond.code yX2_triedTotal cX2_triedTotal 1 (some .int), Cond.methodLink RX4 123 yX2_letterTotal, Cond.instanceMethod yX2_letterTotal, Cond.selects RX2 yX2_letterTotal yX2_letterTotal, Cond.code yX2_letterTotal cX2_letterTotal 1 (some .int), Cond.methodLink RX4 128 yX2_stop, Cond.instanceMethod yX2_stop, Cond.selects RX2 yX2_stop yX2_stop, Cond.code yX2_stop cX2_stop 1 none, Cond.methodLink RX4 269 yX2_cleanTotal, Cond.instanceMethod yX2_cleanTotal, Cond.selects RX2 yX2_cleanTotal yX2_cleanTotal, Cond.code yX2_cleanTotal cX2_cleanTotal 1 (some .int), Cond.methodLink RX4 272 yX2_timeSum, Cond.instanceMethod yX2_timeSum, Cond.selects RX2 yX2_timeSum yX2_timeSum, Cond.code yX2_timeSum cX2_timeSum 1 (some .int), Cond.methodLink RX4 275 yX0_keep, Cond.instanceMethod yX0_keep, Cond.selects RX0 yX0_keep yX0_keep, Cond.initialized RX0, Cond.code yX0_keep cX0_keep 4 none, Cond.fieldLink RX0 21 "TypingTutor$History" "count" "I", Cond.fieldLink RX0 9 "TypingTutor$History" "letters" "[I"]
def wsX4_strike_r6 : List Cond := [Cond.fieldLink RX0 15 "TypingTutor$History" "cleans" "[I", Cond.fieldLink RX0 18 "TypingTutor$History" "times" "[I", Cond.fieldLink RX0 28 "TypingTutor$History" "letterSum" "I", Cond.fieldLink RX0 31 "TypingTutor$History" "cleanSum" "I", Cond.fieldLink RX0 25 "TypingTutor$History" "pace" "I", Cond.methodLink RX0 53 yX0_paceBehind, Cond.instanceMethod yX0_paceBehind, Cond.selects RX0 yX0_paceBehind yX0_paceBehind, Cond.code yX0_paceBehind cX0_paceBehind 4 (some .int), Cond.methodLink RX0 43 Lib.Math.max.name, Cond.methodLink RX0 56 Lib.Math.min.name, Cond.static Lib.Math.min.name, Cond.code Lib.Math.min.name Lib.Math.min.code 2 (some .int)]
def wsX4_strike : List Cond := .code yX4_strike cX4_strike 4 (some .int) :: ((wsX4_strike_r1 ++ (wsX4_strike_r2 ++ (wsX4_strike_r3 ++ (wsX4_strike_r4 ++ (wsX4_strike_r5 ++ wsX4_strike_r6))))) ++ wsX40 ++ wsX20 ++ wsX10 ++ wsX00 ++ (vx_atS RX4 85 "java/lang/IndexOutOfBoundsException" ["java/lang/RuntimeException", "java/lang/Exception"]).filter goodWord ++ (vx_atS RX4 54 "java/lang/IllegalArgumentException" ["java/lang/RuntimeException", "java/lang/Exception"]).filter goodWord ++ (vx_atS RX4 68 "java/lang/IllegalStateException" ["java/lang/RuntimeException", "java/lang/Exception"]).filter goodWord)
def wsX4_key : List Cond := .code yX4_key cX4_key 3 (some .int) :: ([.classLink RX4 81 "java/lang/IndexOutOfBoundsException", .initialized "java/lang/IndexOutOfBoundsException", .fieldLink RX4 21 "TypingTutor" "keys" "LTypingTutor$Knowledge;", .methodLink RX4 93 yX4_isKey, .static yX4_isKey, .initialized RX4, .code yX4_isKey cX4_isKey 1 (some .boolean), .methodLink RX4 168 yX1_tell, .instanceMethod yX1_tell, .selects RX1 yX1_tell yX1_tell, .initialized RX1, .code yX1_tell cX1_tell 3 (some .int), .fieldLink RX1 15 "TypingTutor$Knowledge" "tries" "[I", .fieldLink RX1 21 "TypingTutor$Knowledge" "misses" "[I", .fieldLink RX1 24 "TypingTutor$Knowledge" "levels" "[I", .static yX4_read, .code yX4_read cX4_read 2 (some .int)] ++ wsX40 ++ wsX10 ++ (vx_atS RX4 85 "java/lang/IndexOutOfBoundsException" ["java/lang/RuntimeException", "java/lang/Exception"]).filter goodWord)
def wsX4_pair_r1 : List Cond := [Cond.classLink RX4 81 "java/lang/IndexOutOfBoundsException", Cond.initialized "java/lang/IndexOutOfBoundsException", Cond.fieldLink RX4 25 "TypingTutor" "pairs" "LTypingTutor$Knowledge;", Cond.methodLink RX4 93 yX4_isKey, Cond.static yX4_isKey, Cond.initialized RX4, Cond.code yX4_isKey cX4_isKey 1 (some .boolean), Cond.methodLink RX4 174 yX4_pairOf, Cond.static yX4_pairOf, Cond.code yX4_pairOf cX4_pairOf 2 (some .int), Cond.methodLink RX4 177 yX4_weaknessOf, Cond.instanceMethod yX4_weaknessOf, Cond.selects RX4 yX4_weaknessOf yX4_weaknessOf, Cond.code yX4_weaknessOf cX4_weaknessOf 3 (some .int), Cond.methodLink RX4 237 yX1_levelOf, Cond.instanceMethod yX1_levelOf, Cond.selects RX1 yX1_levelOf yX1_levelOf, Cond.initialized RX1, Cond.code yX1_levelOf cX1_levelOf 2 (some .int), Cond.fieldLink RX1 24 "TypingTutor$Knowledge" "levels" "[I", Cond.static yX4_read, Cond.code yX4_read cX4_read 2 (some .int), Cond.methodLink RX4 180 yX1_triesOf, Cond.instanceMethod yX1_triesOf]
def wsX4_pair_r2 : List Cond := [Cond.selects RX1 yX1_triesOf yX1_triesOf, Cond.code yX1_triesOf cX1_triesOf 2 (some .int), Cond.fieldLink RX1 15 "TypingTutor$Knowledge" "tries" "[I", Cond.methodLink RX4 168 yX1_tell, Cond.instanceMethod yX1_tell, Cond.selects RX1 yX1_tell yX1_tell, Cond.code yX1_tell cX1_tell 3 (some .int), Cond.fieldLink RX1 21 "TypingTutor$Knowledge" "misses" "[I"]
def wsX4_pair : List Cond := .code yX4_pair cX4_pair 5 (some .int) :: ((wsX4_pair_r1 ++ wsX4_pair_r2) ++ wsX40 ++ wsX10 ++ (vx_atS RX4 85 "java/lang/IndexOutOfBoundsException" ["java/lang/RuntimeException", "java/lang/Exception"]).filter goodWord)
def wsX4_weakest : List Cond := .code yX4_weakest cX4_weakest 3 (some .int) :: ([.fieldLink RX4 25 "TypingTutor" "pairs" "LTypingTutor$Knowledge;", .methodLink RX4 180 yX1_triesOf, .instanceMethod yX1_triesOf, .selects RX1 yX1_triesOf yX1_triesOf, .initialized RX1, .code yX1_triesOf cX1_triesOf 2 (some .int), .fieldLink RX1 15 "TypingTutor$Knowledge" "tries" "[I", .static yX4_read, .initialized RX4, .code yX4_read cX4_read 2 (some .int), .methodLink RX4 177 yX4_weaknessOf, .instanceMethod yX4_weaknessOf, .selects RX4 yX4_weaknessOf yX4_weaknessOf, .code yX4_weaknessOf cX4_weaknessOf 3 (some .int), .methodLink RX4 237 yX1_levelOf, .instanceMethod yX1_levelOf, .selects RX1 yX1_levelOf yX1_levelOf, .code yX1_levelOf cX1_levelOf 2 (some .int), .fieldLink RX1 24 "TypingTutor$Knowledge" "levels" "[I"] ++ wsX40 ++ wsX10)
def wsX4_mistakes : List Cond := .code yX4_mistakes cX4_mistakes 2 (some .int) :: ([.classLink RX4 81 "java/lang/IndexOutOfBoundsException", .initialized "java/lang/IndexOutOfBoundsException", .fieldLink RX4 42 "TypingTutor" "mistakeCounts" "[I", .methodLink RX4 152 yX4_read, .static yX4_read, .initialized RX4, .code yX4_read cX4_read 2 (some .int)] ++ wsX40 ++ (vx_atS RX4 85 "java/lang/IndexOutOfBoundsException" ["java/lang/RuntimeException", "java/lang/Exception"]).filter goodWord)
def wsX4_lessons : List Cond := .code yX4_lessons cX4_lessons 1 (some .int) :: ([.fieldLink RX4 38 "TypingTutor" "past" "LTypingTutor$History;", .methodLink RX4 185 yX0_size, .instanceMethod yX0_size, .selects RX0 yX0_size yX0_size, .initialized RX0, .code yX0_size cX0_size 1 (some .int), .fieldLink RX0 21 "TypingTutor$History" "count" "I"] ++ wsX40 ++ wsX00)
def wsX4_lesson : List Cond := .code yX4_lesson cX4_lesson 3 (some .int) :: ([.classLink RX4 81 "java/lang/IndexOutOfBoundsException", .initialized "java/lang/IndexOutOfBoundsException", .fieldLink RX4 38 "TypingTutor" "past" "LTypingTutor$History;", .methodLink RX4 185 yX0_size, .instanceMethod yX0_size, .selects RX0 yX0_size yX0_size, .initialized RX0, .code yX0_size cX0_size 1 (some .int), .fieldLink RX0 21 "TypingTutor$History" "count" "I", .methodLink RX4 188 yX0_tell, .instanceMethod yX0_tell, .selects RX0 yX0_tell yX0_tell, .code yX0_tell cX0_tell 3 (some .int), .fieldLink RX0 9 "TypingTutor$History" "letters" "[I", .fieldLink RX0 15 "TypingTutor$History" "cleans" "[I", .fieldLink RX0 18 "TypingTutor$History" "times" "[I", .static yX4_read, .initialized RX4, .code yX4_read cX4_read 2 (some .int), .methodLink RX0 38 yX0_speedOf, .instanceMethod yX0_speedOf, .selects RX0 yX0_speedOf yX0_speedOf, .code yX0_speedOf cX0_speedOf 3 (some .int), .constant RX0 42 (60000)] ++ wsX40 ++ wsX00 ++ (vx_atS RX4 85 "java/lang/IndexOutOfBoundsException" ["java/lang/RuntimeException", "java/lang/Exception"]).filter goodWord)
def wsX4_pace : List Cond := .code yX4_pace cX4_pace 1 (some .int) :: ([.fieldLink RX4 38 "TypingTutor" "past" "LTypingTutor$History;", .methodLink RX4 189 yX0_advisedPace, .instanceMethod yX0_advisedPace, .selects RX0 yX0_advisedPace yX0_advisedPace, .initialized RX0, .code yX0_advisedPace cX0_advisedPace 1 (some .int), .fieldLink RX0 25 "TypingTutor$History" "pace" "I"] ++ wsX40 ++ wsX00)
def wsX4_isPlateau_r1 : List Cond := [Cond.fieldLink RX4 38 "TypingTutor" "past" "LTypingTutor$History;", Cond.methodLink RX4 185 yX0_size, Cond.instanceMethod yX0_size, Cond.selects RX0 yX0_size yX0_size, Cond.initialized RX0, Cond.code yX0_size cX0_size 1 (some .int), Cond.fieldLink RX0 21 "TypingTutor$History" "count" "I", Cond.methodLink RX4 192 yX0_greatestSpeed, Cond.instanceMethod yX0_greatestSpeed, Cond.selects RX0 yX0_greatestSpeed yX0_greatestSpeed, Cond.code yX0_greatestSpeed cX0_greatestSpeed 5 (some .int), Cond.methodLink RX0 43 Lib.Math.max.name, Cond.static Lib.Math.max.name, Cond.initialized "java/lang/Math", Cond.code Lib.Math.max.name Lib.Math.max.code 2 (some .int), Cond.methodLink RX0 38 yX0_speedOf, Cond.instanceMethod yX0_speedOf, Cond.selects RX0 yX0_speedOf yX0_speedOf, Cond.code yX0_speedOf cX0_speedOf 3 (some .int), Cond.fieldLink RX0 18 "TypingTutor$History" "times" "[I", Cond.fieldLink RX0 9 "TypingTutor$History" "letters" "[I", Cond.constant RX0 42 (60000), Cond.static yX4_read, Cond.initialized RX4]
def wsX4_isPlateau_r2 : List Cond := [Cond.code yX4_read cX4_read 2 (some .int)]
def wsX4_isPlateau : List Cond := .code yX4_isPlateau cX4_isPlateau 4 (some .boolean) :: ((wsX4_isPlateau_r1 ++ wsX4_isPlateau_r2) ++ wsX40 ++ wsX00)
def wsX4_accuracy : List Cond := .code yX4_accuracy cX4_accuracy 2 (some .double) :: ([.fieldLink RX4 38 "TypingTutor" "past" "LTypingTutor$History;", .methodLink RX4 195 yX0_letterSum, .instanceMethod yX0_letterSum, .selects RX0 yX0_letterSum yX0_letterSum, .initialized RX0, .code yX0_letterSum cX0_letterSum 1 (some .int), .fieldLink RX0 28 "TypingTutor$History" "letterSum" "I", .methodLink RX4 198 yX0_cleanSum, .instanceMethod yX0_cleanSum, .selects RX0 yX0_cleanSum yX0_cleanSum, .code yX0_cleanSum cX0_cleanSum 1 (some .int), .fieldLink RX0 31 "TypingTutor$History" "cleanSum" "I"] ++ wsX40 ++ wsX00)
def wsX4_mixed : List Cond := .code yX4_mixed cX4_mixed 4 (some .long) :: ([.constantLong RX4 279 (31)])
def wsX4_digestOfWords : List Cond := .code yX4_digestOfWords cX4_digestOfWords 6 (some .long) :: ([.fieldLink RX4 12 "TypingTutor" "list" "LTypingTutor$WordList;", .methodLink RX4 73 yX3_size, .instanceMethod yX3_size, .selects RX3 yX3_size yX3_size, .initialized RX3, .code yX3_size cX3_size 1 (some .int), .fieldLink RX3 15 "TypingTutor$WordList" "count" "I", .methodLink RX4 281 yX4_mixed, .static yX4_mixed, .initialized RX4, .code yX4_mixed cX4_mixed 4 (some .long), .constantLong RX4 279 (31), .methodLink RX4 86 yX3_wordAt, .instanceMethod yX3_wordAt, .selects RX3 yX3_wordAt yX3_wordAt, .code yX3_wordAt cX3_wordAt 2 (some .long), .fieldLink RX3 9 "TypingTutor$WordList" "words" "[J"] ++ wsX40 ++ wsX30)
def wsX4_digestOfRecord : List Cond := .code yX4_digestOfRecord cX4_digestOfRecord 7 (some .long) :: ([.methodLink RX4 168 yX1_tell, .instanceMethod yX1_tell, .selects RX1 yX1_tell yX1_tell, .initialized RX1, .code yX1_tell cX1_tell 3 (some .int), .fieldLink RX1 15 "TypingTutor$Knowledge" "tries" "[I", .fieldLink RX1 21 "TypingTutor$Knowledge" "misses" "[I", .fieldLink RX1 24 "TypingTutor$Knowledge" "levels" "[I", .static yX4_read, .initialized RX4, .code yX4_read cX4_read 2 (some .int), .methodLink RX4 281 yX4_mixed, .static yX4_mixed, .code yX4_mixed cX4_mixed 4 (some .long), .constantLong RX4 279 (31)] ++ wsX10)
def wsX4_digestOfKnowledge_r1 : List Cond := [Cond.fieldLink RX4 21 "TypingTutor" "keys" "LTypingTutor$Knowledge;", Cond.fieldLink RX4 25 "TypingTutor" "pairs" "LTypingTutor$Knowledge;", Cond.fieldLink RX4 42 "TypingTutor" "mistakeCounts" "[I", Cond.methodLink RX4 285 yX4_digestOfRecord, Cond.static yX4_digestOfRecord, Cond.initialized RX4, Cond.code yX4_digestOfRecord cX4_digestOfRecord 7 (some .long), Cond.methodLink RX4 168 yX1_tell, Cond.instanceMethod yX1_tell, Cond.selects RX1 yX1_tell yX1_tell, Cond.initialized RX1, Cond.code yX1_tell cX1_tell 3 (some .int), Cond.fieldLink RX1 15 "TypingTutor$Knowledge" "tries" "[I", Cond.fieldLink RX1 21 "TypingTutor$Knowledge" "misses" "[I", Cond.fieldLink RX1 24 "TypingTutor$Knowledge" "levels" "[I", Cond.static yX4_read, Cond.code yX4_read cX4_read 2 (some .int), Cond.methodLink RX4 281 yX4_mixed, Cond.static yX4_mixed, Cond.code yX4_mixed cX4_mixed 4 (some .long), Cond.constantLong RX4 279 (31), Cond.methodLink RX4 180 yX1_triesOf, Cond.instanceMethod yX1_triesOf, Cond.selects RX1 yX1_triesOf yX1_triesOf]
def wsX4_digestOfKnowledge_r2 : List Cond := [Cond.code yX1_triesOf cX1_triesOf 2 (some .int), Cond.methodLink RX4 152 yX4_read]
def wsX4_digestOfKnowledge : List Cond := .code yX4_digestOfKnowledge cX4_digestOfKnowledge 6 (some .long) :: ((wsX4_digestOfKnowledge_r1 ++ wsX4_digestOfKnowledge_r2) ++ wsX40 ++ wsX10)
def wsX4_digestOfLesson_r1 : List Cond := [Cond.fieldLink RX4 31 "TypingTutor" "current" "LTypingTutor$Lesson;", Cond.methodLink RX4 104 yX2_isRunning, Cond.instanceMethod yX2_isRunning, Cond.selects RX2 yX2_isRunning yX2_isRunning, Cond.initialized RX2, Cond.code yX2_isRunning cX2_isRunning 1 (some .boolean), Cond.fieldLink RX2 24 "TypingTutor$Lesson" "running" "Z", Cond.methodLink RX4 281 yX4_mixed, Cond.static yX4_mixed, Cond.initialized RX4, Cond.code yX4_mixed cX4_mixed 4 (some .long), Cond.constantLong RX4 279 (31), Cond.methodLink RX4 118 yX2_wordTotal, Cond.instanceMethod yX2_wordTotal, Cond.selects RX2 yX2_wordTotal yX2_wordTotal, Cond.code yX2_wordTotal cX2_wordTotal 1 (some .int), Cond.fieldLink RX2 28 "TypingTutor$Lesson" "wordCount" "I", Cond.methodLink RX4 136 yX2_numberAt, Cond.instanceMethod yX2_numberAt, Cond.selects RX2 yX2_numberAt yX2_numberAt, Cond.code yX2_numberAt cX2_numberAt 2 (some .int), Cond.fieldLink RX2 9 "TypingTutor$Lesson" "numbers" "[I", Cond.static yX4_read, Cond.code yX4_read cX4_read 2 (some .int)]
def wsX4_digestOfLesson_r2 : List Cond := [Cond.methodLink RX4 131 yX2_triedTotal, Cond.instanceMethod yX2_triedTotal, Cond.selects RX2 yX2_triedTotal yX2_triedTotal, Cond.code yX2_triedTotal cX2_triedTotal 1 (some .int), Cond.fieldLink RX2 35 "TypingTutor$Lesson" "tried" "I"]
def wsX4_digestOfLesson : List Cond := .code yX4_digestOfLesson cX4_digestOfLesson 6 (some .long) :: ((wsX4_digestOfLesson_r1 ++ wsX4_digestOfLesson_r2) ++ wsX40 ++ wsX20)
def wsX4_digestOfHistory_r1 : List Cond := [Cond.fieldLink RX4 38 "TypingTutor" "past" "LTypingTutor$History;", Cond.methodLink RX4 185 yX0_size, Cond.instanceMethod yX0_size, Cond.selects RX0 yX0_size yX0_size, Cond.initialized RX0, Cond.code yX0_size cX0_size 1 (some .int), Cond.fieldLink RX0 21 "TypingTutor$History" "count" "I", Cond.methodLink RX4 281 yX4_mixed, Cond.static yX4_mixed, Cond.initialized RX4, Cond.code yX4_mixed cX4_mixed 4 (some .long), Cond.constantLong RX4 279 (31), Cond.methodLink RX4 188 yX0_tell, Cond.instanceMethod yX0_tell, Cond.selects RX0 yX0_tell yX0_tell, Cond.code yX0_tell cX0_tell 3 (some .int), Cond.fieldLink RX0 9 "TypingTutor$History" "letters" "[I", Cond.fieldLink RX0 15 "TypingTutor$History" "cleans" "[I", Cond.fieldLink RX0 18 "TypingTutor$History" "times" "[I", Cond.static yX4_read, Cond.code yX4_read cX4_read 2 (some .int), Cond.methodLink RX0 38 yX0_speedOf, Cond.instanceMethod yX0_speedOf, Cond.selects RX0 yX0_speedOf yX0_speedOf]
def wsX4_digestOfHistory_r2 : List Cond := [Cond.code yX0_speedOf cX0_speedOf 3 (some .int), Cond.constant RX0 42 (60000), Cond.methodLink RX4 189 yX0_advisedPace, Cond.instanceMethod yX0_advisedPace, Cond.selects RX0 yX0_advisedPace yX0_advisedPace, Cond.code yX0_advisedPace cX0_advisedPace 1 (some .int), Cond.fieldLink RX0 25 "TypingTutor$History" "pace" "I"]
def wsX4_digestOfHistory : List Cond := .code yX4_digestOfHistory cX4_digestOfHistory 7 (some .long) :: ((wsX4_digestOfHistory_r1 ++ wsX4_digestOfHistory_r2) ++ wsX40 ++ wsX00)
def wsX4_digest_r1 : List Cond := [Cond.constantLong RX4 201 (191), Cond.methodLink RX4 203 yX4_digestOfWords, Cond.instanceMethod yX4_digestOfWords, Cond.selects RX4 yX4_digestOfWords yX4_digestOfWords, Cond.initialized RX4, Cond.code yX4_digestOfWords cX4_digestOfWords 6 (some .long), Cond.fieldLink RX4 12 "TypingTutor" "list" "LTypingTutor$WordList;", Cond.methodLink RX4 73 yX3_size, Cond.instanceMethod yX3_size, Cond.selects RX3 yX3_size yX3_size, Cond.initialized RX3, Cond.code yX3_size cX3_size 1 (some .int), Cond.fieldLink RX3 15 "TypingTutor$WordList" "count" "I", Cond.methodLink RX4 281 yX4_mixed, Cond.static yX4_mixed, Cond.code yX4_mixed cX4_mixed 4 (some .long), Cond.constantLong RX4 279 (31), Cond.methodLink RX4 86 yX3_wordAt, Cond.instanceMethod yX3_wordAt, Cond.selects RX3 yX3_wordAt yX3_wordAt, Cond.code yX3_wordAt cX3_wordAt 2 (some .long), Cond.fieldLink RX3 9 "TypingTutor$WordList" "words" "[J", Cond.methodLink RX4 207 yX4_digestOfKnowledge, Cond.instanceMethod yX4_digestOfKnowledge]
def wsX4_digest_r2 : List Cond := [Cond.selects RX4 yX4_digestOfKnowledge yX4_digestOfKnowledge, Cond.code yX4_digestOfKnowledge cX4_digestOfKnowledge 6 (some .long), Cond.fieldLink RX4 21 "TypingTutor" "keys" "LTypingTutor$Knowledge;", Cond.fieldLink RX4 25 "TypingTutor" "pairs" "LTypingTutor$Knowledge;", Cond.fieldLink RX4 42 "TypingTutor" "mistakeCounts" "[I", Cond.methodLink RX4 285 yX4_digestOfRecord, Cond.static yX4_digestOfRecord, Cond.code yX4_digestOfRecord cX4_digestOfRecord 7 (some .long), Cond.methodLink RX4 168 yX1_tell, Cond.instanceMethod yX1_tell, Cond.selects RX1 yX1_tell yX1_tell, Cond.initialized RX1, Cond.code yX1_tell cX1_tell 3 (some .int), Cond.fieldLink RX1 15 "TypingTutor$Knowledge" "tries" "[I", Cond.fieldLink RX1 21 "TypingTutor$Knowledge" "misses" "[I", Cond.fieldLink RX1 24 "TypingTutor$Knowledge" "levels" "[I", Cond.static yX4_read, Cond.code yX4_read cX4_read 2 (some .int), Cond.methodLink RX4 180 yX1_triesOf, Cond.instanceMethod yX1_triesOf, Cond.selects RX1 yX1_triesOf yX1_triesOf, Cond.code yX1_triesOf cX1_triesOf 2 (some .int), Cond.methodLink RX4 152 yX4_read, Cond.methodLink RX4 210 yX4_digestOfLesson]
def wsX4_digest_r3 : List Cond := [Cond.instanceMethod yX4_digestOfLesson, Cond.selects RX4 yX4_digestOfLesson yX4_digestOfLesson, Cond.code yX4_digestOfLesson cX4_digestOfLesson 6 (some .long), Cond.fieldLink RX4 31 "TypingTutor" "current" "LTypingTutor$Lesson;", Cond.methodLink RX4 104 yX2_isRunning, Cond.instanceMethod yX2_isRunning, Cond.selects RX2 yX2_isRunning yX2_isRunning, Cond.initialized RX2, Cond.code yX2_isRunning cX2_isRunning 1 (some .boolean), Cond.fieldLink RX2 24 "TypingTutor$Lesson" "running" "Z", Cond.methodLink RX4 118 yX2_wordTotal, Cond.instanceMethod yX2_wordTotal, Cond.selects RX2 yX2_wordTotal yX2_wordTotal, Cond.code yX2_wordTotal cX2_wordTotal 1 (some .int), Cond.fieldLink RX2 28 "TypingTutor$Lesson" "wordCount" "I", Cond.methodLink RX4 136 yX2_numberAt, Cond.instanceMethod yX2_numberAt, Cond.selects RX2 yX2_numberAt yX2_numberAt, Cond.code yX2_numberAt cX2_numberAt 2 (some .int), Cond.fieldLink RX2 9 "TypingTutor$Lesson" "numbers" "[I", Cond.methodLink RX4 131 yX2_triedTotal, Cond.instanceMethod yX2_triedTotal, Cond.selects RX2 yX2_triedTotal yX2_triedTotal, Cond.code yX2_triedTotal cX2_triedTotal 1 (some .int)]
def wsX4_digest_r4 : List Cond := [Cond.fieldLink RX2 35 "TypingTutor$Lesson" "tried" "I", Cond.methodLink RX4 213 yX4_digestOfHistory, Cond.instanceMethod yX4_digestOfHistory, Cond.selects RX4 yX4_digestOfHistory yX4_digestOfHistory, Cond.code yX4_digestOfHistory cX4_digestOfHistory 7 (some .long), Cond.fieldLink RX4 38 "TypingTutor" "past" "LTypingTutor$History;", Cond.methodLink RX4 185 yX0_size, Cond.instanceMethod yX0_size, Cond.selects RX0 yX0_size yX0_size, Cond.initialized RX0, Cond.code yX0_size cX0_size 1 (some .int), Cond.fieldLink RX0 21 "TypingTutor$History" "count" "I", Cond.methodLink RX4 188 yX0_tell, Cond.instanceMethod yX0_tell, Cond.selects RX0 yX0_tell yX0_tell, Cond.code yX0_tell cX0_tell 3 (some .int), Cond.fieldLink RX0 9 "TypingTutor$History" "letters" "[I", Cond.fieldLink RX0 15 "TypingTutor$History" "cleans" "[I", Cond.fieldLink RX0 18 "TypingTutor$History" "times" "[I", Cond.methodLink RX0 38 yX0_speedOf, Cond.instanceMethod yX0_speedOf, Cond.selects RX0 yX0_speedOf yX0_speedOf, Cond.code yX0_speedOf cX0_speedOf 3 (some .int), Cond.constant RX0 42 (60000)]
def wsX4_digest_r5 : List Cond := [Cond.methodLink RX4 189 yX0_advisedPace, Cond.instanceMethod yX0_advisedPace, Cond.selects RX0 yX0_advisedPace yX0_advisedPace, Cond.code yX0_advisedPace cX0_advisedPace 1 (some .int), Cond.fieldLink RX0 25 "TypingTutor$History" "pace" "I"]
def wsX4_digest : List Cond := .code yX4_digest cX4_digest 3 (some .long) :: ((wsX4_digest_r1 ++ (wsX4_digest_r2 ++ (wsX4_digest_r3 ++ (wsX4_digest_r4 ++ wsX4_digest_r5)))) ++ wsX40 ++ wsX30 ++ wsX10 ++ wsX20 ++ wsX00)
def wsX5_init : List Cond := .code yX5_init cX5_init 2 none :: ([.methodLink RX5 1 objectInit, .instanceMethod objectInit, .code objectInit ⟨#[0xb1]⟩ 1 none, .arrayClass .long, .fieldLink RX5 9 "TypingTutorModel" "list" "[J", .arrayClass .int, .fieldLink RX5 13 "TypingTutorModel" "tries" "[I", .fieldLink RX5 17 "TypingTutorModel" "misses" "[I", .fieldLink RX5 20 "TypingTutorModel" "levels" "[I", .fieldLink RX5 23 "TypingTutorModel" "kindCounts" "[I", .fieldLink RX5 26 "TypingTutorModel" "chosen" "[I", .fieldLink RX5 29 "TypingTutorModel" "text" "[I", .arrayClass .boolean, .fieldLink RX5 32 "TypingTutorModel" "areFirst" "[Z", .fieldLink RX5 36 "TypingTutorModel" "history" "[I", .fieldLink RX5 39 "TypingTutorModel" "pace" "I"] ++ wsX50)
def wsX5_thrown : List Cond := .code yX5_thrown cX5_thrown 1 (some .int) :: ([.fieldLink RX5 43 "TypingTutorModel" "thrown" "I"] ++ wsX50)
def wsX5_fail : List Cond := .code yX5_fail cX5_fail 2 (some .int) :: ([.fieldLink RX5 43 "TypingTutorModel" "thrown" "I"] ++ wsX50)
def wsX5_isKey : List Cond := .code yX5_isKey cX5_isKey 1 (some .boolean) :: ([])
def wsX5_isNumber : List Cond := .code yX5_isNumber cX5_isNumber 2 (some .boolean) :: ([.fieldLink RX5 46 "TypingTutorModel" "words" "I"] ++ wsX50)
def wsX5_pairOf : List Cond := .code yX5_pairOf cX5_pairOf 2 (some .int) :: ([])
def wsX5_size : List Cond := .code yX5_size cX5_size 3 (some .int) :: ([])
def wsX5_letter : List Cond := .code yX5_letter cX5_letter 3 (some .int) :: ([.constantLong RX5 53 (255), .methodLink RX5 49 yX5_size, .static yX5_size, .initialized RX5, .code yX5_size cX5_size 3 (some .int)])
def wsX5_isWord : List Cond := .code yX5_isWord cX5_isWord 4 (some .boolean) :: ([.methodLink RX5 49 yX5_size, .static yX5_size, .initialized RX5, .code yX5_size cX5_size 3 (some .int), .methodLink RX5 55 yX5_letter, .static yX5_letter, .code yX5_letter cX5_letter 3 (some .int), .constantLong RX5 53 (255), .methodLink RX5 59 yX5_isKey, .static yX5_isKey, .code yX5_isKey cX5_isKey 1 (some .boolean)])
def wsX5_addWord : List Cond := .code yX5_addWord cX5_addWord 4 (some .int) :: ([.fieldLink RX5 43 "TypingTutorModel" "thrown" "I", .fieldLink RX5 46 "TypingTutorModel" "words" "I", .fieldLink RX5 9 "TypingTutorModel" "list" "[J", .methodLink RX5 63 yX5_isWord, .static yX5_isWord, .initialized RX5, .code yX5_isWord cX5_isWord 4 (some .boolean), .methodLink RX5 49 yX5_size, .static yX5_size, .code yX5_size cX5_size 3 (some .int), .methodLink RX5 55 yX5_letter, .static yX5_letter, .code yX5_letter cX5_letter 3 (some .int), .constantLong RX5 53 (255), .methodLink RX5 59 yX5_isKey, .static yX5_isKey, .code yX5_isKey cX5_isKey 1 (some .boolean), .methodLink RX5 67 yX5_fail, .instanceMethod yX5_fail, .selects RX5 yX5_fail yX5_fail, .code yX5_fail cX5_fail 2 (some .int)] ++ wsX50)
def wsX5_wordCount : List Cond := .code yX5_wordCount cX5_wordCount 1 (some .int) :: ([.fieldLink RX5 43 "TypingTutorModel" "thrown" "I", .fieldLink RX5 46 "TypingTutorModel" "words" "I"] ++ wsX50)
def wsX5_word : List Cond := .code yX5_word cX5_word 2 (some .long) :: ([.fieldLink RX5 43 "TypingTutorModel" "thrown" "I", .fieldLink RX5 9 "TypingTutorModel" "list" "[J", .methodLink RX5 71 yX5_isNumber, .instanceMethod yX5_isNumber, .selects RX5 yX5_isNumber yX5_isNumber, .initialized RX5, .code yX5_isNumber cX5_isNumber 2 (some .boolean), .fieldLink RX5 46 "TypingTutorModel" "words" "I"] ++ wsX50)
def wsX5_weakness : List Cond := .code yX5_weakness cX5_weakness 4 (some .int) :: ([.fieldLink RX5 20 "TypingTutorModel" "levels" "[I", .fieldLink RX5 13 "TypingTutorModel" "tries" "[I", .methodLink RX5 74 yX5_pairOf, .static yX5_pairOf, .initialized RX5, .code yX5_pairOf cX5_pairOf 2 (some .int)] ++ wsX50)
def wsX5_weightOf : List Cond := .code yX5_weightOf cX5_weightOf 6 (some .int) :: ([.fieldLink RX5 20 "TypingTutorModel" "levels" "[I", .methodLink RX5 49 yX5_size, .static yX5_size, .initialized RX5, .code yX5_size cX5_size 3 (some .int), .methodLink RX5 55 yX5_letter, .static yX5_letter, .code yX5_letter cX5_letter 3 (some .int), .constantLong RX5 53 (255), .methodLink RX5 78 yX5_weakness, .instanceMethod yX5_weakness, .selects RX5 yX5_weakness yX5_weakness, .code yX5_weakness cX5_weakness 4 (some .int), .fieldLink RX5 13 "TypingTutorModel" "tries" "[I", .methodLink RX5 74 yX5_pairOf, .static yX5_pairOf, .code yX5_pairOf cX5_pairOf 2 (some .int)] ++ wsX50)
def wsX5_weight_r1 : List Cond := [Cond.fieldLink RX5 43 "TypingTutorModel" "thrown" "I", Cond.fieldLink RX5 9 "TypingTutorModel" "list" "[J", Cond.methodLink RX5 71 yX5_isNumber, Cond.instanceMethod yX5_isNumber, Cond.selects RX5 yX5_isNumber yX5_isNumber, Cond.initialized RX5, Cond.code yX5_isNumber cX5_isNumber 2 (some .boolean), Cond.fieldLink RX5 46 "TypingTutorModel" "words" "I", Cond.methodLink RX5 81 yX5_weightOf, Cond.instanceMethod yX5_weightOf, Cond.selects RX5 yX5_weightOf yX5_weightOf, Cond.code yX5_weightOf cX5_weightOf 6 (some .int), Cond.fieldLink RX5 20 "TypingTutorModel" "levels" "[I", Cond.methodLink RX5 49 yX5_size, Cond.static yX5_size, Cond.code yX5_size cX5_size 3 (some .int), Cond.methodLink RX5 55 yX5_letter, Cond.static yX5_letter, Cond.code yX5_letter cX5_letter 3 (some .int), Cond.constantLong RX5 53 (255), Cond.methodLink RX5 78 yX5_weakness, Cond.instanceMethod yX5_weakness, Cond.selects RX5 yX5_weakness yX5_weakness, Cond.code yX5_weakness cX5_weakness 4 (some .int)]
def wsX5_weight_r2 : List Cond := [Cond.fieldLink RX5 13 "TypingTutorModel" "tries" "[I", Cond.methodLink RX5 74 yX5_pairOf, Cond.static yX5_pairOf, Cond.code yX5_pairOf cX5_pairOf 2 (some .int), Cond.methodLink RX5 67 yX5_fail, Cond.instanceMethod yX5_fail, Cond.selects RX5 yX5_fail yX5_fail, Cond.code yX5_fail cX5_fail 2 (some .int)]
def wsX5_weight : List Cond := .code yX5_weight cX5_weight 2 (some .int) :: ((wsX5_weight_r1 ++ wsX5_weight_r2) ++ wsX50)
def wsJ0_isLatin1_aae02 : List Cond := .code yJ0_isLatin1_aae02 cJ0_isLatin1_aae02 1 (some .boolean) :: ([.fieldLink RJ0 38 "java/lang/String" "COMPACT_STRINGS" "Z", .fieldLink RJ0 15 "java/lang/String" "coder" "B"])
def wsJ0_coder_7d493 : List Cond := .code yJ0_coder_7d493 cJ0_coder_7d493 1 (some .byte) :: ([.fieldLink RJ0 38 "java/lang/String" "COMPACT_STRINGS" "Z", .fieldLink RJ0 15 "java/lang/String" "coder" "B"])
def wsJ0_length_8abf5 : List Cond := .code yJ0_length_8abf5 cJ0_length_8abf5 1 (some .int) :: ([.fieldLink RJ0 9 "java/lang/String" "value" "[B", .methodLink RJ0 335 yJ0_coder_7d493, .instanceMethod yJ0_coder_7d493, .selects RJ0 yJ0_coder_7d493 yJ0_coder_7d493, .initialized RJ0, .code yJ0_coder_7d493 cJ0_coder_7d493 1 (some .byte), .fieldLink RJ0 38 "java/lang/String" "COMPACT_STRINGS" "Z", .fieldLink RJ0 15 "java/lang/String" "coder" "B"])
def wsJ1_canEncode_9a6ad : List Cond := .code yJ1_canEncode_9a6ad cJ1_canEncode_9a6ad 1 (some .boolean) :: ([])
def wsJ1_indexOfChar_4cfef : List Cond := .code yJ1_indexOfChar_4cfef cJ1_indexOfChar_4cfef 6 (some .int) :: ([])
def wsJ1_indexOf_4cfef : List Cond := .code yJ1_indexOf_4cfef cJ1_indexOf_4cfef 4 (some .int) :: ([.methodLink RJ1 92 Lib.Math.max.name, .static Lib.Math.max.name, .initialized "java/lang/Math", .code Lib.Math.max.name Lib.Math.max.code 2 (some .int), .methodLink RJ1 38 Lib.Math.min.name, .static Lib.Math.min.name, .code Lib.Math.min.name Lib.Math.min.code 2 (some .int), .methodLink RJ1 88 yJ1_canEncode_9a6ad, .static yJ1_canEncode_9a6ad, .initialized RJ1, .code yJ1_canEncode_9a6ad cJ1_canEncode_9a6ad 1 (some .boolean), .methodLink RJ1 95 yJ1_indexOfChar_4cfef, .static yJ1_indexOfChar_4cfef, .code yJ1_indexOfChar_4cfef cJ1_indexOfChar_4cfef 6 (some .int)])
def wsJ2_length_9d52b : List Cond := .code yJ2_length_9d52b cJ2_length_9d52b 1 (some .int) :: ([])
def wsJ3_checkFromToIndex_8c36e : List Cond := .code yJ3_checkFromToIndex_8c36e cJ3_checkFromToIndex_8c36e 4 (some .int) :: ([])
def wsJ0_checkBoundsBeginEnd_23922 : List Cond := .code yJ0_checkBoundsBeginEnd_23922 cJ0_checkBoundsBeginEnd_23922 3 none :: ([.fieldLink RJ0 1053 "jdk/internal/util/Preconditions" "SIOOBE_FORMATTER" "Ljava/util/function/BiFunction;", .methodLink RJ0 1062 yJ3_checkFromToIndex_8c36e, .static yJ3_checkFromToIndex_8c36e, .initialized RJ3, .code yJ3_checkFromToIndex_8c36e cJ3_checkFromToIndex_8c36e 4 (some .int)])
def wsJ2_checkBoundsBeginEnd_d044e : List Cond := .code yJ2_checkBoundsBeginEnd_d044e cJ2_checkBoundsBeginEnd_d044e 3 none :: ([.methodLink RJ2 48 yJ2_length_9d52b, .static yJ2_length_9d52b, .initialized RJ2, .code yJ2_length_9d52b cJ2_length_9d52b 1 (some .int), .methodLink RJ2 241 yJ0_checkBoundsBeginEnd_23922, .static yJ0_checkBoundsBeginEnd_23922, .initialized RJ0, .code yJ0_checkBoundsBeginEnd_23922 cJ0_checkBoundsBeginEnd_23922 3 none, .fieldLink RJ0 1053 "jdk/internal/util/Preconditions" "SIOOBE_FORMATTER" "Ljava/util/function/BiFunction;", .methodLink RJ0 1062 yJ3_checkFromToIndex_8c36e, .static yJ3_checkFromToIndex_8c36e, .initialized RJ3, .code yJ3_checkFromToIndex_8c36e cJ3_checkFromToIndex_8c36e 4 (some .int)])
def wsJ2_getChar_3b067 : List Cond := .code yJ2_getChar_3b067 cJ2_getChar_3b067 2 (some .char) :: ([.fieldLink RJ2 44 "java/lang/StringUTF16" "$assertionsDisabled" "Z", .fieldLink RJ2 59 "java/lang/StringUTF16" "HI_BYTE_SHIFT" "I", .fieldLink RJ2 63 "java/lang/StringUTF16" "LO_BYTE_SHIFT" "I", .methodLink RJ2 48 yJ2_length_9d52b, .static yJ2_length_9d52b, .initialized RJ2, .code yJ2_length_9d52b cJ2_length_9d52b 1 (some .int)])
def wsJ2_indexOfCharUnsafe_4cfef : List Cond := .code yJ2_indexOfCharUnsafe_4cfef cJ2_indexOfCharUnsafe_4cfef 5 (some .int) :: ([.methodLink RJ2 71 yJ2_getChar_3b067, .static yJ2_getChar_3b067, .initialized RJ2, .code yJ2_getChar_3b067 cJ2_getChar_3b067 2 (some .char), .fieldLink RJ2 44 "java/lang/StringUTF16" "$assertionsDisabled" "Z", .fieldLink RJ2 59 "java/lang/StringUTF16" "HI_BYTE_SHIFT" "I", .fieldLink RJ2 63 "java/lang/StringUTF16" "LO_BYTE_SHIFT" "I", .methodLink RJ2 48 yJ2_length_9d52b, .static yJ2_length_9d52b, .code yJ2_length_9d52b cJ2_length_9d52b 1 (some .int)])
def wsJ2_indexOfChar_4cfef_r1 : List Cond := [Cond.methodLink RJ2 96 yJ2_checkBoundsBeginEnd_d044e, Cond.static yJ2_checkBoundsBeginEnd_d044e, Cond.initialized RJ2, Cond.code yJ2_checkBoundsBeginEnd_d044e cJ2_checkBoundsBeginEnd_d044e 3 none, Cond.methodLink RJ2 48 yJ2_length_9d52b, Cond.static yJ2_length_9d52b, Cond.code yJ2_length_9d52b cJ2_length_9d52b 1 (some .int), Cond.methodLink RJ2 241 yJ0_checkBoundsBeginEnd_23922, Cond.static yJ0_checkBoundsBeginEnd_23922, Cond.initialized RJ0, Cond.code yJ0_checkBoundsBeginEnd_23922 cJ0_checkBoundsBeginEnd_23922 3 none, Cond.fieldLink RJ0 1053 "jdk/internal/util/Preconditions" "SIOOBE_FORMATTER" "Ljava/util/function/BiFunction;", Cond.methodLink RJ0 1062 yJ3_checkFromToIndex_8c36e, Cond.static yJ3_checkFromToIndex_8c36e, Cond.initialized RJ3, Cond.code yJ3_checkFromToIndex_8c36e cJ3_checkFromToIndex_8c36e 4 (some .int), Cond.methodLink RJ2 244 yJ2_indexOfCharUnsafe_4cfef, Cond.static yJ2_indexOfCharUnsafe_4cfef, Cond.code yJ2_indexOfCharUnsafe_4cfef cJ2_indexOfCharUnsafe_4cfef 5 (some .int), Cond.methodLink RJ2 71 yJ2_getChar_3b067, Cond.static yJ2_getChar_3b067, Cond.code yJ2_getChar_3b067 cJ2_getChar_3b067 2 (some .char), Cond.fieldLink RJ2 44 "java/lang/StringUTF16" "$assertionsDisabled" "Z", Cond.fieldLink RJ2 59 "java/lang/StringUTF16" "HI_BYTE_SHIFT" "I"]
def wsJ2_indexOfChar_4cfef_r2 : List Cond := [Cond.fieldLink RJ2 63 "java/lang/StringUTF16" "LO_BYTE_SHIFT" "I"]
def wsJ2_indexOfChar_4cfef : List Cond := .code yJ2_indexOfChar_4cfef cJ2_indexOfChar_4cfef 4 (some .int) :: ((wsJ2_indexOfChar_4cfef_r1 ++ wsJ2_indexOfChar_4cfef_r2))
def wsJ11_isValidCodePoint_9a6ad : List Cond := .code yJ11_isValidCodePoint_9a6ad cJ11_isValidCodePoint_9a6ad 2 (some .boolean) :: ([])
def wsJ11_highSurrogate_5068e : List Cond := .code yJ11_highSurrogate_5068e cJ11_highSurrogate_5068e 1 (some .char) :: ([.constant RJ11 110 (55232)])
def wsJ11_lowSurrogate_5068e : List Cond := .code yJ11_lowSurrogate_5068e cJ11_lowSurrogate_5068e 1 (some .char) :: ([.constant RJ11 76 (56320)])
def wsJ2_indexOfSupplementary_4cfef_r1 : List Cond := [Cond.methodLink RJ2 164 yJ11_isValidCodePoint_9a6ad, Cond.static yJ11_isValidCodePoint_9a6ad, Cond.initialized RJ11, Cond.code yJ11_isValidCodePoint_9a6ad cJ11_isValidCodePoint_9a6ad 2 (some .boolean), Cond.methodLink RJ2 157 yJ11_highSurrogate_5068e, Cond.static yJ11_highSurrogate_5068e, Cond.code yJ11_highSurrogate_5068e cJ11_highSurrogate_5068e 1 (some .char), Cond.constant RJ11 110 (55232), Cond.methodLink RJ2 161 yJ11_lowSurrogate_5068e, Cond.static yJ11_lowSurrogate_5068e, Cond.code yJ11_lowSurrogate_5068e cJ11_lowSurrogate_5068e 1 (some .char), Cond.constant RJ11 76 (56320), Cond.methodLink RJ2 96 yJ2_checkBoundsBeginEnd_d044e, Cond.static yJ2_checkBoundsBeginEnd_d044e, Cond.initialized RJ2, Cond.code yJ2_checkBoundsBeginEnd_d044e cJ2_checkBoundsBeginEnd_d044e 3 none, Cond.methodLink RJ2 48 yJ2_length_9d52b, Cond.static yJ2_length_9d52b, Cond.code yJ2_length_9d52b cJ2_length_9d52b 1 (some .int), Cond.methodLink RJ2 241 yJ0_checkBoundsBeginEnd_23922, Cond.static yJ0_checkBoundsBeginEnd_23922, Cond.initialized RJ0, Cond.code yJ0_checkBoundsBeginEnd_23922 cJ0_checkBoundsBeginEnd_23922 3 none, Cond.fieldLink RJ0 1053 "jdk/internal/util/Preconditions" "SIOOBE_FORMATTER" "Ljava/util/function/BiFunction;"]
def wsJ2_indexOfSupplementary_4cfef_r2 : List Cond := [Cond.methodLink RJ0 1062 yJ3_checkFromToIndex_8c36e, Cond.static yJ3_checkFromToIndex_8c36e, Cond.initialized RJ3, Cond.code yJ3_checkFromToIndex_8c36e cJ3_checkFromToIndex_8c36e 4 (some .int), Cond.methodLink RJ2 71 yJ2_getChar_3b067, Cond.static yJ2_getChar_3b067, Cond.code yJ2_getChar_3b067 cJ2_getChar_3b067 2 (some .char), Cond.fieldLink RJ2 44 "java/lang/StringUTF16" "$assertionsDisabled" "Z", Cond.fieldLink RJ2 59 "java/lang/StringUTF16" "HI_BYTE_SHIFT" "I", Cond.fieldLink RJ2 63 "java/lang/StringUTF16" "LO_BYTE_SHIFT" "I"]
def wsJ2_indexOfSupplementary_4cfef : List Cond := .code yJ2_indexOfSupplementary_4cfef cJ2_indexOfSupplementary_4cfef 7 (some .int) :: ((wsJ2_indexOfSupplementary_4cfef_r1 ++ wsJ2_indexOfSupplementary_4cfef_r2))
def wsJ2_indexOf_4cfef_r1 : List Cond := [Cond.methodLink RJ2 224 Lib.Math.max.name, Cond.static Lib.Math.max.name, Cond.initialized "java/lang/Math", Cond.code Lib.Math.max.name Lib.Math.max.code 2 (some .int), Cond.methodLink RJ2 183 Lib.Math.min.name, Cond.static Lib.Math.min.name, Cond.code Lib.Math.min.name Lib.Math.min.code 2 (some .int), Cond.constant RJ2 227 (65536), Cond.methodLink RJ2 228 yJ2_indexOfChar_4cfef, Cond.static yJ2_indexOfChar_4cfef, Cond.initialized RJ2, Cond.code yJ2_indexOfChar_4cfef cJ2_indexOfChar_4cfef 4 (some .int), Cond.methodLink RJ2 96 yJ2_checkBoundsBeginEnd_d044e, Cond.static yJ2_checkBoundsBeginEnd_d044e, Cond.code yJ2_checkBoundsBeginEnd_d044e cJ2_checkBoundsBeginEnd_d044e 3 none, Cond.methodLink RJ2 48 yJ2_length_9d52b, Cond.static yJ2_length_9d52b, Cond.code yJ2_length_9d52b cJ2_length_9d52b 1 (some .int), Cond.methodLink RJ2 241 yJ0_checkBoundsBeginEnd_23922, Cond.static yJ0_checkBoundsBeginEnd_23922, Cond.initialized RJ0, Cond.code yJ0_checkBoundsBeginEnd_23922 cJ0_checkBoundsBeginEnd_23922 3 none, Cond.fieldLink RJ0 1053 "jdk/internal/util/Preconditions" "SIOOBE_FORMATTER" "Ljava/util/function/BiFunction;", Cond.methodLink RJ0 1062 yJ3_checkFromToIndex_8c36e]
def wsJ2_indexOf_4cfef_r2 : List Cond := [Cond.static yJ3_checkFromToIndex_8c36e, Cond.initialized RJ3, Cond.code yJ3_checkFromToIndex_8c36e cJ3_checkFromToIndex_8c36e 4 (some .int), Cond.methodLink RJ2 244 yJ2_indexOfCharUnsafe_4cfef, Cond.static yJ2_indexOfCharUnsafe_4cfef, Cond.code yJ2_indexOfCharUnsafe_4cfef cJ2_indexOfCharUnsafe_4cfef 5 (some .int), Cond.methodLink RJ2 71 yJ2_getChar_3b067, Cond.static yJ2_getChar_3b067, Cond.code yJ2_getChar_3b067 cJ2_getChar_3b067 2 (some .char), Cond.fieldLink RJ2 44 "java/lang/StringUTF16" "$assertionsDisabled" "Z", Cond.fieldLink RJ2 59 "java/lang/StringUTF16" "HI_BYTE_SHIFT" "I", Cond.fieldLink RJ2 63 "java/lang/StringUTF16" "LO_BYTE_SHIFT" "I", Cond.methodLink RJ2 232 yJ2_indexOfSupplementary_4cfef, Cond.static yJ2_indexOfSupplementary_4cfef, Cond.code yJ2_indexOfSupplementary_4cfef cJ2_indexOfSupplementary_4cfef 7 (some .int), Cond.methodLink RJ2 164 yJ11_isValidCodePoint_9a6ad, Cond.static yJ11_isValidCodePoint_9a6ad, Cond.initialized RJ11, Cond.code yJ11_isValidCodePoint_9a6ad cJ11_isValidCodePoint_9a6ad 2 (some .boolean), Cond.methodLink RJ2 157 yJ11_highSurrogate_5068e, Cond.static yJ11_highSurrogate_5068e, Cond.code yJ11_highSurrogate_5068e cJ11_highSurrogate_5068e 1 (some .char), Cond.constant RJ11 110 (55232), Cond.methodLink RJ2 161 yJ11_lowSurrogate_5068e]
def wsJ2_indexOf_4cfef_r3 : List Cond := [Cond.static yJ11_lowSurrogate_5068e, Cond.code yJ11_lowSurrogate_5068e cJ11_lowSurrogate_5068e 1 (some .char), Cond.constant RJ11 76 (56320)]
def wsJ2_indexOf_4cfef : List Cond := .code yJ2_indexOf_4cfef cJ2_indexOf_4cfef 4 (some .int) :: ((wsJ2_indexOf_4cfef_r1 ++ (wsJ2_indexOf_4cfef_r2 ++ wsJ2_indexOf_4cfef_r3)))
def wsJ0_indexOf_7cf53_r1 : List Cond := [Cond.fieldLink RJ0 9 "java/lang/String" "value" "[B", Cond.methodLink RJ0 492 yJ0_isLatin1_aae02, Cond.instanceMethod yJ0_isLatin1_aae02, Cond.selects RJ0 yJ0_isLatin1_aae02 yJ0_isLatin1_aae02, Cond.initialized RJ0, Cond.code yJ0_isLatin1_aae02 cJ0_isLatin1_aae02 1 (some .boolean), Cond.fieldLink RJ0 38 "java/lang/String" "COMPACT_STRINGS" "Z", Cond.fieldLink RJ0 15 "java/lang/String" "coder" "B", Cond.methodLink RJ0 505 yJ0_length_8abf5, Cond.instanceMethod yJ0_length_8abf5, Cond.selects RJ0 yJ0_length_8abf5 yJ0_length_8abf5, Cond.code yJ0_length_8abf5 cJ0_length_8abf5 1 (some .int), Cond.methodLink RJ0 335 yJ0_coder_7d493, Cond.instanceMethod yJ0_coder_7d493, Cond.selects RJ0 yJ0_coder_7d493 yJ0_coder_7d493, Cond.code yJ0_coder_7d493 cJ0_coder_7d493 1 (some .byte), Cond.methodLink RJ0 637 yJ1_indexOf_4cfef, Cond.static yJ1_indexOf_4cfef, Cond.initialized RJ1, Cond.code yJ1_indexOf_4cfef cJ1_indexOf_4cfef 4 (some .int), Cond.methodLink RJ1 92 Lib.Math.max.name, Cond.static Lib.Math.max.name, Cond.initialized "java/lang/Math", Cond.code Lib.Math.max.name Lib.Math.max.code 2 (some .int)]
def wsJ0_indexOf_7cf53_r2 : List Cond := [Cond.methodLink RJ1 38 Lib.Math.min.name, Cond.static Lib.Math.min.name, Cond.code Lib.Math.min.name Lib.Math.min.code 2 (some .int), Cond.methodLink RJ1 88 yJ1_canEncode_9a6ad, Cond.static yJ1_canEncode_9a6ad, Cond.code yJ1_canEncode_9a6ad cJ1_canEncode_9a6ad 1 (some .boolean), Cond.methodLink RJ1 95 yJ1_indexOfChar_4cfef, Cond.static yJ1_indexOfChar_4cfef, Cond.code yJ1_indexOfChar_4cfef cJ1_indexOfChar_4cfef 6 (some .int), Cond.methodLink RJ0 640 yJ2_indexOf_4cfef, Cond.static yJ2_indexOf_4cfef, Cond.initialized RJ2, Cond.code yJ2_indexOf_4cfef cJ2_indexOf_4cfef 4 (some .int), Cond.methodLink RJ2 224 Lib.Math.max.name, Cond.methodLink RJ2 183 Lib.Math.min.name, Cond.constant RJ2 227 (65536), Cond.methodLink RJ2 228 yJ2_indexOfChar_4cfef, Cond.static yJ2_indexOfChar_4cfef, Cond.code yJ2_indexOfChar_4cfef cJ2_indexOfChar_4cfef 4 (some .int), Cond.methodLink RJ2 96 yJ2_checkBoundsBeginEnd_d044e, Cond.static yJ2_checkBoundsBeginEnd_d044e, Cond.code yJ2_checkBoundsBeginEnd_d044e cJ2_checkBoundsBeginEnd_d044e 3 none, Cond.methodLink RJ2 48 yJ2_length_9d52b, Cond.static yJ2_length_9d52b]
def wsJ0_indexOf_7cf53_r3 : List Cond := [Cond.code yJ2_length_9d52b cJ2_length_9d52b 1 (some .int), Cond.methodLink RJ2 241 yJ0_checkBoundsBeginEnd_23922, Cond.static yJ0_checkBoundsBeginEnd_23922, Cond.code yJ0_checkBoundsBeginEnd_23922 cJ0_checkBoundsBeginEnd_23922 3 none, Cond.fieldLink RJ0 1053 "jdk/internal/util/Preconditions" "SIOOBE_FORMATTER" "Ljava/util/function/BiFunction;", Cond.methodLink RJ0 1062 yJ3_checkFromToIndex_8c36e, Cond.static yJ3_checkFromToIndex_8c36e, Cond.initialized RJ3, Cond.code yJ3_checkFromToIndex_8c36e cJ3_checkFromToIndex_8c36e 4 (some .int), Cond.methodLink RJ2 244 yJ2_indexOfCharUnsafe_4cfef, Cond.static yJ2_indexOfCharUnsafe_4cfef, Cond.code yJ2_indexOfCharUnsafe_4cfef cJ2_indexOfCharUnsafe_4cfef 5 (some .int), Cond.methodLink RJ2 71 yJ2_getChar_3b067, Cond.static yJ2_getChar_3b067, Cond.code yJ2_getChar_3b067 cJ2_getChar_3b067 2 (some .char), Cond.fieldLink RJ2 44 "java/lang/StringUTF16" "$assertionsDisabled" "Z", Cond.fieldLink RJ2 59 "java/lang/StringUTF16" "HI_BYTE_SHIFT" "I", Cond.fieldLink RJ2 63 "java/lang/StringUTF16" "LO_BYTE_SHIFT" "I", Cond.methodLink RJ2 232 yJ2_indexOfSupplementary_4cfef, Cond.static yJ2_indexOfSupplementary_4cfef, Cond.code yJ2_indexOfSupplementary_4cfef cJ2_indexOfSupplementary_4cfef 7 (some .int), Cond.methodLink RJ2 164 yJ11_isValidCodePoint_9a6ad, Cond.static yJ11_isValidCodePoint_9a6ad, Cond.initialized RJ11]
def wsJ0_indexOf_7cf53_r4 : List Cond := [Cond.code yJ11_isValidCodePoint_9a6ad cJ11_isValidCodePoint_9a6ad 2 (some .boolean), Cond.methodLink RJ2 157 yJ11_highSurrogate_5068e, Cond.static yJ11_highSurrogate_5068e, Cond.code yJ11_highSurrogate_5068e cJ11_highSurrogate_5068e 1 (some .char), Cond.constant RJ11 110 (55232), Cond.methodLink RJ2 161 yJ11_lowSurrogate_5068e, Cond.static yJ11_lowSurrogate_5068e, Cond.code yJ11_lowSurrogate_5068e cJ11_lowSurrogate_5068e 1 (some .char), Cond.constant RJ11 76 (56320)]
def wsJ0_indexOf_7cf53 : List Cond := .code yJ0_indexOf_7cf53 cJ0_indexOf_7cf53 3 (some .int) :: ((wsJ0_indexOf_7cf53_r1 ++ (wsJ0_indexOf_7cf53_r2 ++ (wsJ0_indexOf_7cf53_r3 ++ wsJ0_indexOf_7cf53_r4))))
def wsJ0_indexOf_0f7a4_r1 : List Cond := [Cond.methodLink RJ0 633 yJ0_indexOf_7cf53, Cond.instanceMethod yJ0_indexOf_7cf53, Cond.selects RJ0 yJ0_indexOf_7cf53 yJ0_indexOf_7cf53, Cond.initialized RJ0, Cond.code yJ0_indexOf_7cf53 cJ0_indexOf_7cf53 3 (some .int), Cond.fieldLink RJ0 9 "java/lang/String" "value" "[B", Cond.methodLink RJ0 492 yJ0_isLatin1_aae02, Cond.instanceMethod yJ0_isLatin1_aae02, Cond.selects RJ0 yJ0_isLatin1_aae02 yJ0_isLatin1_aae02, Cond.code yJ0_isLatin1_aae02 cJ0_isLatin1_aae02 1 (some .boolean), Cond.fieldLink RJ0 38 "java/lang/String" "COMPACT_STRINGS" "Z", Cond.fieldLink RJ0 15 "java/lang/String" "coder" "B", Cond.methodLink RJ0 505 yJ0_length_8abf5, Cond.instanceMethod yJ0_length_8abf5, Cond.selects RJ0 yJ0_length_8abf5 yJ0_length_8abf5, Cond.code yJ0_length_8abf5 cJ0_length_8abf5 1 (some .int), Cond.methodLink RJ0 335 yJ0_coder_7d493, Cond.instanceMethod yJ0_coder_7d493, Cond.selects RJ0 yJ0_coder_7d493 yJ0_coder_7d493, Cond.code yJ0_coder_7d493 cJ0_coder_7d493 1 (some .byte), Cond.methodLink RJ0 637 yJ1_indexOf_4cfef, Cond.static yJ1_indexOf_4cfef, Cond.initialized RJ1, Cond.code yJ1_indexOf_4cfef cJ1_indexOf_4cfef 4 (some .int)]
def wsJ0_indexOf_0f7a4_r2 : List Cond := [Cond.methodLink RJ1 92 Lib.Math.max.name, Cond.static Lib.Math.max.name, Cond.initialized "java/lang/Math", Cond.code Lib.Math.max.name Lib.Math.max.code 2 (some .int), Cond.methodLink RJ1 38 Lib.Math.min.name, Cond.static Lib.Math.min.name, Cond.code Lib.Math.min.name Lib.Math.min.code 2 (some .int), Cond.methodLink RJ1 88 yJ1_canEncode_9a6ad, Cond.static yJ1_canEncode_9a6ad, Cond.code yJ1_canEncode_9a6ad cJ1_canEncode_9a6ad 1 (some .boolean), Cond.methodLink RJ1 95 yJ1_indexOfChar_4cfef, Cond.static yJ1_indexOfChar_4cfef, Cond.code yJ1_indexOfChar_4cfef cJ1_indexOfChar_4cfef 6 (some .int), Cond.methodLink RJ0 640 yJ2_indexOf_4cfef, Cond.static yJ2_indexOf_4cfef, Cond.initialized RJ2, Cond.code yJ2_indexOf_4cfef cJ2_indexOf_4cfef 4 (some .int), Cond.methodLink RJ2 224 Lib.Math.max.name, Cond.methodLink RJ2 183 Lib.Math.min.name, Cond.constant RJ2 227 (65536), Cond.methodLink RJ2 228 yJ2_indexOfChar_4cfef, Cond.static yJ2_indexOfChar_4cfef, Cond.code yJ2_indexOfChar_4cfef cJ2_indexOfChar_4cfef 4 (some .int), Cond.methodLink RJ2 96 yJ2_checkBoundsBeginEnd_d044e]
def wsJ0_indexOf_0f7a4_r3 : List Cond := [Cond.static yJ2_checkBoundsBeginEnd_d044e, Cond.code yJ2_checkBoundsBeginEnd_d044e cJ2_checkBoundsBeginEnd_d044e 3 none, Cond.methodLink RJ2 48 yJ2_length_9d52b, Cond.static yJ2_length_9d52b, Cond.code yJ2_length_9d52b cJ2_length_9d52b 1 (some .int), Cond.methodLink RJ2 241 yJ0_checkBoundsBeginEnd_23922, Cond.static yJ0_checkBoundsBeginEnd_23922, Cond.code yJ0_checkBoundsBeginEnd_23922 cJ0_checkBoundsBeginEnd_23922 3 none, Cond.fieldLink RJ0 1053 "jdk/internal/util/Preconditions" "SIOOBE_FORMATTER" "Ljava/util/function/BiFunction;", Cond.methodLink RJ0 1062 yJ3_checkFromToIndex_8c36e, Cond.static yJ3_checkFromToIndex_8c36e, Cond.initialized RJ3, Cond.code yJ3_checkFromToIndex_8c36e cJ3_checkFromToIndex_8c36e 4 (some .int), Cond.methodLink RJ2 244 yJ2_indexOfCharUnsafe_4cfef, Cond.static yJ2_indexOfCharUnsafe_4cfef, Cond.code yJ2_indexOfCharUnsafe_4cfef cJ2_indexOfCharUnsafe_4cfef 5 (some .int), Cond.methodLink RJ2 71 yJ2_getChar_3b067, Cond.static yJ2_getChar_3b067, Cond.code yJ2_getChar_3b067 cJ2_getChar_3b067 2 (some .char), Cond.fieldLink RJ2 44 "java/lang/StringUTF16" "$assertionsDisabled" "Z", Cond.fieldLink RJ2 59 "java/lang/StringUTF16" "HI_BYTE_SHIFT" "I", Cond.fieldLink RJ2 63 "java/lang/StringUTF16" "LO_BYTE_SHIFT" "I", Cond.methodLink RJ2 232 yJ2_indexOfSupplementary_4cfef, Cond.static yJ2_indexOfSupplementary_4cfef]
def wsJ0_indexOf_0f7a4_r4 : List Cond := [Cond.code yJ2_indexOfSupplementary_4cfef cJ2_indexOfSupplementary_4cfef 7 (some .int), Cond.methodLink RJ2 164 yJ11_isValidCodePoint_9a6ad, Cond.static yJ11_isValidCodePoint_9a6ad, Cond.initialized RJ11, Cond.code yJ11_isValidCodePoint_9a6ad cJ11_isValidCodePoint_9a6ad 2 (some .boolean), Cond.methodLink RJ2 157 yJ11_highSurrogate_5068e, Cond.static yJ11_highSurrogate_5068e, Cond.code yJ11_highSurrogate_5068e cJ11_highSurrogate_5068e 1 (some .char), Cond.constant RJ11 110 (55232), Cond.methodLink RJ2 161 yJ11_lowSurrogate_5068e, Cond.static yJ11_lowSurrogate_5068e, Cond.code yJ11_lowSurrogate_5068e cJ11_lowSurrogate_5068e 1 (some .char), Cond.constant RJ11 76 (56320)]
def wsJ0_indexOf_0f7a4 : List Cond := .code yJ0_indexOf_0f7a4 cJ0_indexOf_0f7a4 2 (some .int) :: ((wsJ0_indexOf_0f7a4_r1 ++ (wsJ0_indexOf_0f7a4_r2 ++ (wsJ0_indexOf_0f7a4_r3 ++ wsJ0_indexOf_0f7a4_r4))))
def wsX5_nearTo_r1 : List Cond := [Cond.methodLink RX5 91 Lib.Math.abs.name, Cond.static Lib.Math.abs.name, Cond.initialized "java/lang/Math", Cond.code Lib.Math.abs.name Lib.Math.abs.code 1 (some .int), Cond.methodLink RX5 86 yJ0_indexOf_0f7a4, Cond.instanceMethod yJ0_indexOf_0f7a4, Cond.selects RJ0 yJ0_indexOf_0f7a4 yJ0_indexOf_0f7a4, Cond.initialized RJ0, Cond.code yJ0_indexOf_0f7a4 cJ0_indexOf_0f7a4 2 (some .int), Cond.methodLink RJ0 633 yJ0_indexOf_7cf53, Cond.instanceMethod yJ0_indexOf_7cf53, Cond.selects RJ0 yJ0_indexOf_7cf53 yJ0_indexOf_7cf53, Cond.code yJ0_indexOf_7cf53 cJ0_indexOf_7cf53 3 (some .int), Cond.fieldLink RJ0 9 "java/lang/String" "value" "[B", Cond.methodLink RJ0 492 yJ0_isLatin1_aae02, Cond.instanceMethod yJ0_isLatin1_aae02, Cond.selects RJ0 yJ0_isLatin1_aae02 yJ0_isLatin1_aae02, Cond.code yJ0_isLatin1_aae02 cJ0_isLatin1_aae02 1 (some .boolean), Cond.fieldLink RJ0 38 "java/lang/String" "COMPACT_STRINGS" "Z", Cond.fieldLink RJ0 15 "java/lang/String" "coder" "B", Cond.methodLink RJ0 505 yJ0_length_8abf5, Cond.instanceMethod yJ0_length_8abf5, Cond.selects RJ0 yJ0_length_8abf5 yJ0_length_8abf5, Cond.code yJ0_length_8abf5 cJ0_length_8abf5 1 (some .int)]
def wsX5_nearTo_r2 : List Cond := [Cond.methodLink RJ0 335 yJ0_coder_7d493, Cond.instanceMethod yJ0_coder_7d493, Cond.selects RJ0 yJ0_coder_7d493 yJ0_coder_7d493, Cond.code yJ0_coder_7d493 cJ0_coder_7d493 1 (some .byte), Cond.methodLink RJ0 637 yJ1_indexOf_4cfef, Cond.static yJ1_indexOf_4cfef, Cond.initialized RJ1, Cond.code yJ1_indexOf_4cfef cJ1_indexOf_4cfef 4 (some .int), Cond.methodLink RJ1 92 Lib.Math.max.name, Cond.static Lib.Math.max.name, Cond.code Lib.Math.max.name Lib.Math.max.code 2 (some .int), Cond.methodLink RJ1 38 Lib.Math.min.name, Cond.static Lib.Math.min.name, Cond.code Lib.Math.min.name Lib.Math.min.code 2 (some .int), Cond.methodLink RJ1 88 yJ1_canEncode_9a6ad, Cond.static yJ1_canEncode_9a6ad, Cond.code yJ1_canEncode_9a6ad cJ1_canEncode_9a6ad 1 (some .boolean), Cond.methodLink RJ1 95 yJ1_indexOfChar_4cfef, Cond.static yJ1_indexOfChar_4cfef, Cond.code yJ1_indexOfChar_4cfef cJ1_indexOfChar_4cfef 6 (some .int), Cond.methodLink RJ0 640 yJ2_indexOf_4cfef, Cond.static yJ2_indexOf_4cfef, Cond.initialized RJ2, Cond.code yJ2_indexOf_4cfef cJ2_indexOf_4cfef 4 (some .int)]
def wsX5_nearTo_r3 : List Cond := [Cond.methodLink RJ2 224 Lib.Math.max.name, Cond.methodLink RJ2 183 Lib.Math.min.name, Cond.constant RJ2 227 (65536), Cond.methodLink RJ2 228 yJ2_indexOfChar_4cfef, Cond.static yJ2_indexOfChar_4cfef, Cond.code yJ2_indexOfChar_4cfef cJ2_indexOfChar_4cfef 4 (some .int), Cond.methodLink RJ2 96 yJ2_checkBoundsBeginEnd_d044e, Cond.static yJ2_checkBoundsBeginEnd_d044e, Cond.code yJ2_checkBoundsBeginEnd_d044e cJ2_checkBoundsBeginEnd_d044e 3 none, Cond.methodLink RJ2 48 yJ2_length_9d52b, Cond.static yJ2_length_9d52b, Cond.code yJ2_length_9d52b cJ2_length_9d52b 1 (some .int), Cond.methodLink RJ2 241 yJ0_checkBoundsBeginEnd_23922, Cond.static yJ0_checkBoundsBeginEnd_23922, Cond.code yJ0_checkBoundsBeginEnd_23922 cJ0_checkBoundsBeginEnd_23922 3 none, Cond.fieldLink RJ0 1053 "jdk/internal/util/Preconditions" "SIOOBE_FORMATTER" "Ljava/util/function/BiFunction;", Cond.methodLink RJ0 1062 yJ3_checkFromToIndex_8c36e, Cond.static yJ3_checkFromToIndex_8c36e, Cond.initialized RJ3, Cond.code yJ3_checkFromToIndex_8c36e cJ3_checkFromToIndex_8c36e 4 (some .int), Cond.methodLink RJ2 244 yJ2_indexOfCharUnsafe_4cfef, Cond.static yJ2_indexOfCharUnsafe_4cfef, Cond.code yJ2_indexOfCharUnsafe_4cfef cJ2_indexOfCharUnsafe_4cfef 5 (some .int), Cond.methodLink RJ2 71 yJ2_getChar_3b067]
def wsX5_nearTo_r4 : List Cond := [Cond.static yJ2_getChar_3b067, Cond.code yJ2_getChar_3b067 cJ2_getChar_3b067 2 (some .char), Cond.fieldLink RJ2 44 "java/lang/StringUTF16" "$assertionsDisabled" "Z", Cond.fieldLink RJ2 59 "java/lang/StringUTF16" "HI_BYTE_SHIFT" "I", Cond.fieldLink RJ2 63 "java/lang/StringUTF16" "LO_BYTE_SHIFT" "I", Cond.methodLink RJ2 232 yJ2_indexOfSupplementary_4cfef, Cond.static yJ2_indexOfSupplementary_4cfef, Cond.code yJ2_indexOfSupplementary_4cfef cJ2_indexOfSupplementary_4cfef 7 (some .int), Cond.methodLink RJ2 164 yJ11_isValidCodePoint_9a6ad, Cond.static yJ11_isValidCodePoint_9a6ad, Cond.initialized RJ11, Cond.code yJ11_isValidCodePoint_9a6ad cJ11_isValidCodePoint_9a6ad 2 (some .boolean), Cond.methodLink RJ2 157 yJ11_highSurrogate_5068e, Cond.static yJ11_highSurrogate_5068e, Cond.code yJ11_highSurrogate_5068e cJ11_highSurrogate_5068e 1 (some .char), Cond.constant RJ11 110 (55232), Cond.methodLink RJ2 161 yJ11_lowSurrogate_5068e, Cond.static yJ11_lowSurrogate_5068e, Cond.code yJ11_lowSurrogate_5068e cJ11_lowSurrogate_5068e 1 (some .char), Cond.constant RJ11 76 (56320)]
def wsX5_nearTo : List Cond := .code yX5_nearTo cX5_nearTo 6 (some .boolean) :: ((wsX5_nearTo_r1 ++ (wsX5_nearTo_r2 ++ (wsX5_nearTo_r3 ++ wsX5_nearTo_r4))))
def wsX5_areNeighbours_r1 : List Cond := [Cond.fieldLink RX5 43 "TypingTutorModel" "thrown" "I", Cond.methodLink RX5 59 yX5_isKey, Cond.static yX5_isKey, Cond.initialized RX5, Cond.code yX5_isKey cX5_isKey 1 (some .boolean), Cond.methodLink RX5 96 yX5_nearTo, Cond.static yX5_nearTo, Cond.code yX5_nearTo cX5_nearTo 6 (some .boolean), Cond.methodLink RX5 91 Lib.Math.abs.name, Cond.static Lib.Math.abs.name, Cond.initialized "java/lang/Math", Cond.code Lib.Math.abs.name Lib.Math.abs.code 1 (some .int), Cond.methodLink RX5 86 yJ0_indexOf_0f7a4, Cond.instanceMethod yJ0_indexOf_0f7a4, Cond.selects RJ0 yJ0_indexOf_0f7a4 yJ0_indexOf_0f7a4, Cond.initialized RJ0, Cond.code yJ0_indexOf_0f7a4 cJ0_indexOf_0f7a4 2 (some .int), Cond.methodLink RJ0 633 yJ0_indexOf_7cf53, Cond.instanceMethod yJ0_indexOf_7cf53, Cond.selects RJ0 yJ0_indexOf_7cf53 yJ0_indexOf_7cf53, Cond.code yJ0_indexOf_7cf53 cJ0_indexOf_7cf53 3 (some .int), Cond.fieldLink RJ0 9 "java/lang/String" "value" "[B", Cond.methodLink RJ0 492 yJ0_isLatin1_aae02, Cond.instanceMethod yJ0_isLatin1_aae02]
def wsX5_areNeighbours_r2 : List Cond := [Cond.selects RJ0 yJ0_isLatin1_aae02 yJ0_isLatin1_aae02, Cond.code yJ0_isLatin1_aae02 cJ0_isLatin1_aae02 1 (some .boolean), Cond.fieldLink RJ0 38 "java/lang/String" "COMPACT_STRINGS" "Z", Cond.fieldLink RJ0 15 "java/lang/String" "coder" "B", Cond.methodLink RJ0 505 yJ0_length_8abf5, Cond.instanceMethod yJ0_length_8abf5, Cond.selects RJ0 yJ0_length_8abf5 yJ0_length_8abf5, Cond.code yJ0_length_8abf5 cJ0_length_8abf5 1 (some .int), Cond.methodLink RJ0 335 yJ0_coder_7d493, Cond.instanceMethod yJ0_coder_7d493, Cond.selects RJ0 yJ0_coder_7d493 yJ0_coder_7d493, Cond.code yJ0_coder_7d493 cJ0_coder_7d493 1 (some .byte), Cond.methodLink RJ0 637 yJ1_indexOf_4cfef, Cond.static yJ1_indexOf_4cfef, Cond.initialized RJ1, Cond.code yJ1_indexOf_4cfef cJ1_indexOf_4cfef 4 (some .int), Cond.methodLink RJ1 92 Lib.Math.max.name, Cond.static Lib.Math.max.name, Cond.code Lib.Math.max.name Lib.Math.max.code 2 (some .int), Cond.methodLink RJ1 38 Lib.Math.min.name, Cond.static Lib.Math.min.name, Cond.code Lib.Math.min.name Lib.Math.min.code 2 (some .int), Cond.methodLink RJ1 88 yJ1_canEncode_9a6ad, Cond.static yJ1_canEncode_9a6ad]
def wsX5_areNeighbours_r3 : List Cond := [Cond.code yJ1_canEncode_9a6ad cJ1_canEncode_9a6ad 1 (some .boolean), Cond.methodLink RJ1 95 yJ1_indexOfChar_4cfef, Cond.static yJ1_indexOfChar_4cfef, Cond.code yJ1_indexOfChar_4cfef cJ1_indexOfChar_4cfef 6 (some .int), Cond.methodLink RJ0 640 yJ2_indexOf_4cfef, Cond.static yJ2_indexOf_4cfef, Cond.initialized RJ2, Cond.code yJ2_indexOf_4cfef cJ2_indexOf_4cfef 4 (some .int), Cond.methodLink RJ2 224 Lib.Math.max.name, Cond.methodLink RJ2 183 Lib.Math.min.name, Cond.constant RJ2 227 (65536), Cond.methodLink RJ2 228 yJ2_indexOfChar_4cfef, Cond.static yJ2_indexOfChar_4cfef, Cond.code yJ2_indexOfChar_4cfef cJ2_indexOfChar_4cfef 4 (some .int), Cond.methodLink RJ2 96 yJ2_checkBoundsBeginEnd_d044e, Cond.static yJ2_checkBoundsBeginEnd_d044e, Cond.code yJ2_checkBoundsBeginEnd_d044e cJ2_checkBoundsBeginEnd_d044e 3 none, Cond.methodLink RJ2 48 yJ2_length_9d52b, Cond.static yJ2_length_9d52b, Cond.code yJ2_length_9d52b cJ2_length_9d52b 1 (some .int), Cond.methodLink RJ2 241 yJ0_checkBoundsBeginEnd_23922, Cond.static yJ0_checkBoundsBeginEnd_23922, Cond.code yJ0_checkBoundsBeginEnd_23922 cJ0_checkBoundsBeginEnd_23922 3 none, Cond.fieldLink RJ0 1053 "jdk/internal/util/Preconditions" "SIOOBE_FORMATTER" "Ljava/util/function/BiFunction;"]
def wsX5_areNeighbours_r4 : List Cond := [Cond.methodLink RJ0 1062 yJ3_checkFromToIndex_8c36e, Cond.static yJ3_checkFromToIndex_8c36e, Cond.initialized RJ3, Cond.code yJ3_checkFromToIndex_8c36e cJ3_checkFromToIndex_8c36e 4 (some .int), Cond.methodLink RJ2 244 yJ2_indexOfCharUnsafe_4cfef, Cond.static yJ2_indexOfCharUnsafe_4cfef, Cond.code yJ2_indexOfCharUnsafe_4cfef cJ2_indexOfCharUnsafe_4cfef 5 (some .int), Cond.methodLink RJ2 71 yJ2_getChar_3b067, Cond.static yJ2_getChar_3b067, Cond.code yJ2_getChar_3b067 cJ2_getChar_3b067 2 (some .char), Cond.fieldLink RJ2 44 "java/lang/StringUTF16" "$assertionsDisabled" "Z", Cond.fieldLink RJ2 59 "java/lang/StringUTF16" "HI_BYTE_SHIFT" "I", Cond.fieldLink RJ2 63 "java/lang/StringUTF16" "LO_BYTE_SHIFT" "I", Cond.methodLink RJ2 232 yJ2_indexOfSupplementary_4cfef, Cond.static yJ2_indexOfSupplementary_4cfef, Cond.code yJ2_indexOfSupplementary_4cfef cJ2_indexOfSupplementary_4cfef 7 (some .int), Cond.methodLink RJ2 164 yJ11_isValidCodePoint_9a6ad, Cond.static yJ11_isValidCodePoint_9a6ad, Cond.initialized RJ11, Cond.code yJ11_isValidCodePoint_9a6ad cJ11_isValidCodePoint_9a6ad 2 (some .boolean), Cond.methodLink RJ2 157 yJ11_highSurrogate_5068e, Cond.static yJ11_highSurrogate_5068e, Cond.code yJ11_highSurrogate_5068e cJ11_highSurrogate_5068e 1 (some .char), Cond.constant RJ11 110 (55232)]
def wsX5_areNeighbours_r5 : List Cond := [Cond.methodLink RJ2 161 yJ11_lowSurrogate_5068e, Cond.static yJ11_lowSurrogate_5068e, Cond.code yJ11_lowSurrogate_5068e cJ11_lowSurrogate_5068e 1 (some .char), Cond.constant RJ11 76 (56320)]
def wsX5_areNeighbours : List Cond := .code yX5_areNeighbours cX5_areNeighbours 3 (some .boolean) :: ((wsX5_areNeighbours_r1 ++ (wsX5_areNeighbours_r2 ++ (wsX5_areNeighbours_r3 ++ (wsX5_areNeighbours_r4 ++ wsX5_areNeighbours_r5)))) ++ wsX50)
def wsX5_put : List Cond := .code yX5_put cX5_put 3 none :: ([.fieldLink RX5 26 "TypingTutorModel" "chosen" "[I", .fieldLink RX5 100 "TypingTutorModel" "lessonWords" "I", .fieldLink RX5 9 "TypingTutorModel" "list" "[J", .fieldLink RX5 29 "TypingTutorModel" "text" "[I", .fieldLink RX5 103 "TypingTutorModel" "letters" "I", .fieldLink RX5 32 "TypingTutorModel" "areFirst" "[Z", .methodLink RX5 49 yX5_size, .static yX5_size, .initialized RX5, .code yX5_size cX5_size 3 (some .int), .methodLink RX5 55 yX5_letter, .static yX5_letter, .code yX5_letter cX5_letter 3 (some .int), .constantLong RX5 53 (255)] ++ wsX50)
def wsX5_begin : List Cond := .code yX5_begin cX5_begin 1 none :: ([.fieldLink RX5 106 "TypingTutorModel" "isOpen" "Z", .fieldLink RX5 100 "TypingTutorModel" "lessonWords" "I", .fieldLink RX5 103 "TypingTutorModel" "letters" "I", .fieldLink RX5 110 "TypingTutorModel" "at" "I", .fieldLink RX5 113 "TypingTutorModel" "slips" "I", .fieldLink RX5 116 "TypingTutorModel" "clean" "I", .fieldLink RX5 119 "TypingTutorModel" "time" "I"] ++ wsX50)
def wsX5_hasPair : List Cond := .code yX5_hasPair cX5_hasPair 5 (some .boolean) :: ([.fieldLink RX5 103 "TypingTutorModel" "letters" "I", .fieldLink RX5 32 "TypingTutorModel" "areFirst" "[Z", .fieldLink RX5 29 "TypingTutorModel" "text" "[I"] ++ wsX50)
def wsX5_isChosen : List Cond := .code yX5_isChosen cX5_isChosen 4 (some .boolean) :: ([.fieldLink RX5 100 "TypingTutorModel" "lessonWords" "I", .fieldLink RX5 26 "TypingTutorModel" "chosen" "[I"] ++ wsX50)
def wsX5_open_r1 : List Cond := [Cond.fieldLink RX5 43 "TypingTutorModel" "thrown" "I", Cond.fieldLink RX5 106 "TypingTutorModel" "isOpen" "Z", Cond.fieldLink RX5 46 "TypingTutorModel" "words" "I", Cond.fieldLink RX5 100 "TypingTutorModel" "lessonWords" "I", Cond.fieldLink RX5 9 "TypingTutorModel" "list" "[J", Cond.methodLink RX5 67 yX5_fail, Cond.instanceMethod yX5_fail, Cond.selects RX5 yX5_fail yX5_fail, Cond.initialized RX5, Cond.code yX5_fail cX5_fail 2 (some .int), Cond.methodLink RX5 122 yX5_begin, Cond.instanceMethod yX5_begin, Cond.selects RX5 yX5_begin yX5_begin, Cond.code yX5_begin cX5_begin 1 none, Cond.fieldLink RX5 103 "TypingTutorModel" "letters" "I", Cond.fieldLink RX5 110 "TypingTutorModel" "at" "I", Cond.fieldLink RX5 113 "TypingTutorModel" "slips" "I", Cond.fieldLink RX5 116 "TypingTutorModel" "clean" "I", Cond.fieldLink RX5 119 "TypingTutorModel" "time" "I", Cond.methodLink RX5 125 yX5_isChosen, Cond.instanceMethod yX5_isChosen, Cond.selects RX5 yX5_isChosen yX5_isChosen, Cond.code yX5_isChosen cX5_isChosen 4 (some .boolean), Cond.fieldLink RX5 26 "TypingTutorModel" "chosen" "[I"]
def wsX5_open_r2 : List Cond := [Cond.methodLink RX5 81 yX5_weightOf, Cond.instanceMethod yX5_weightOf, Cond.selects RX5 yX5_weightOf yX5_weightOf, Cond.code yX5_weightOf cX5_weightOf 6 (some .int), Cond.fieldLink RX5 20 "TypingTutorModel" "levels" "[I", Cond.methodLink RX5 49 yX5_size, Cond.static yX5_size, Cond.code yX5_size cX5_size 3 (some .int), Cond.methodLink RX5 55 yX5_letter, Cond.static yX5_letter, Cond.code yX5_letter cX5_letter 3 (some .int), Cond.constantLong RX5 53 (255), Cond.methodLink RX5 78 yX5_weakness, Cond.instanceMethod yX5_weakness, Cond.selects RX5 yX5_weakness yX5_weakness, Cond.code yX5_weakness cX5_weakness 4 (some .int), Cond.fieldLink RX5 13 "TypingTutorModel" "tries" "[I", Cond.methodLink RX5 74 yX5_pairOf, Cond.static yX5_pairOf, Cond.code yX5_pairOf cX5_pairOf 2 (some .int), Cond.methodLink RX5 128 yX5_hasPair, Cond.instanceMethod yX5_hasPair, Cond.selects RX5 yX5_hasPair yX5_hasPair, Cond.code yX5_hasPair cX5_hasPair 5 (some .boolean)]
def wsX5_open_r3 : List Cond := [Cond.fieldLink RX5 32 "TypingTutorModel" "areFirst" "[Z", Cond.fieldLink RX5 29 "TypingTutorModel" "text" "[I", Cond.methodLink RX5 131 yX5_put, Cond.instanceMethod yX5_put, Cond.selects RX5 yX5_put yX5_put, Cond.code yX5_put cX5_put 3 none]
def wsX5_open : List Cond := .code yX5_open cX5_open 8 (some .int) :: ((wsX5_open_r1 ++ (wsX5_open_r2 ++ wsX5_open_r3)) ++ wsX50)
def wsX5_openWord_r1 : List Cond := [Cond.fieldLink RX5 43 "TypingTutorModel" "thrown" "I", Cond.fieldLink RX5 106 "TypingTutorModel" "isOpen" "Z", Cond.fieldLink RX5 103 "TypingTutorModel" "letters" "I", Cond.methodLink RX5 71 yX5_isNumber, Cond.instanceMethod yX5_isNumber, Cond.selects RX5 yX5_isNumber yX5_isNumber, Cond.initialized RX5, Cond.code yX5_isNumber cX5_isNumber 2 (some .boolean), Cond.fieldLink RX5 46 "TypingTutorModel" "words" "I", Cond.methodLink RX5 67 yX5_fail, Cond.instanceMethod yX5_fail, Cond.selects RX5 yX5_fail yX5_fail, Cond.code yX5_fail cX5_fail 2 (some .int), Cond.methodLink RX5 122 yX5_begin, Cond.instanceMethod yX5_begin, Cond.selects RX5 yX5_begin yX5_begin, Cond.code yX5_begin cX5_begin 1 none, Cond.fieldLink RX5 100 "TypingTutorModel" "lessonWords" "I", Cond.fieldLink RX5 110 "TypingTutorModel" "at" "I", Cond.fieldLink RX5 113 "TypingTutorModel" "slips" "I", Cond.fieldLink RX5 116 "TypingTutorModel" "clean" "I", Cond.fieldLink RX5 119 "TypingTutorModel" "time" "I", Cond.methodLink RX5 131 yX5_put, Cond.instanceMethod yX5_put]
def wsX5_openWord_r2 : List Cond := [Cond.selects RX5 yX5_put yX5_put, Cond.code yX5_put cX5_put 3 none, Cond.fieldLink RX5 26 "TypingTutorModel" "chosen" "[I", Cond.fieldLink RX5 9 "TypingTutorModel" "list" "[J", Cond.fieldLink RX5 29 "TypingTutorModel" "text" "[I", Cond.fieldLink RX5 32 "TypingTutorModel" "areFirst" "[Z", Cond.methodLink RX5 49 yX5_size, Cond.static yX5_size, Cond.code yX5_size cX5_size 3 (some .int), Cond.methodLink RX5 55 yX5_letter, Cond.static yX5_letter, Cond.code yX5_letter cX5_letter 3 (some .int), Cond.constantLong RX5 53 (255)]
def wsX5_openWord : List Cond := .code yX5_openWord cX5_openWord 2 (some .int) :: ((wsX5_openWord_r1 ++ wsX5_openWord_r2) ++ wsX50)
def wsX5_giveUp : List Cond := .code yX5_giveUp cX5_giveUp 1 (some .int) :: ([.fieldLink RX5 43 "TypingTutorModel" "thrown" "I", .fieldLink RX5 106 "TypingTutorModel" "isOpen" "Z", .fieldLink RX5 103 "TypingTutorModel" "letters" "I", .fieldLink RX5 110 "TypingTutorModel" "at" "I", .methodLink RX5 67 yX5_fail, .instanceMethod yX5_fail, .selects RX5 yX5_fail yX5_fail, .initialized RX5, .code yX5_fail cX5_fail 2 (some .int)] ++ wsX50)
def wsX5_isOpen : List Cond := .code yX5_isOpen cX5_isOpen 1 (some .boolean) :: ([.fieldLink RX5 43 "TypingTutorModel" "thrown" "I", .fieldLink RX5 106 "TypingTutorModel" "isOpen" "Z"] ++ wsX50)
def wsX5_lessonWord : List Cond := .code yX5_lessonWord cX5_lessonWord 2 (some .int) :: ([.fieldLink RX5 43 "TypingTutorModel" "thrown" "I", .fieldLink RX5 106 "TypingTutorModel" "isOpen" "Z", .fieldLink RX5 100 "TypingTutorModel" "lessonWords" "I", .fieldLink RX5 26 "TypingTutorModel" "chosen" "[I", .methodLink RX5 67 yX5_fail, .instanceMethod yX5_fail, .selects RX5 yX5_fail yX5_fail, .initialized RX5, .code yX5_fail cX5_fail 2 (some .int)] ++ wsX50)
def wsX5_wanted : List Cond := .code yX5_wanted cX5_wanted 1 (some .int) :: ([.fieldLink RX5 43 "TypingTutorModel" "thrown" "I", .fieldLink RX5 106 "TypingTutorModel" "isOpen" "Z", .fieldLink RX5 29 "TypingTutorModel" "text" "[I", .fieldLink RX5 110 "TypingTutorModel" "at" "I", .methodLink RX5 67 yX5_fail, .instanceMethod yX5_fail, .selects RX5 yX5_fail yX5_fail, .initialized RX5, .code yX5_fail cX5_fail 2 (some .int)] ++ wsX50)
def wsX5_done : List Cond := .code yX5_done cX5_done 1 (some .int) :: ([.fieldLink RX5 43 "TypingTutorModel" "thrown" "I", .fieldLink RX5 106 "TypingTutorModel" "isOpen" "Z", .fieldLink RX5 110 "TypingTutorModel" "at" "I", .methodLink RX5 67 yX5_fail, .instanceMethod yX5_fail, .selects RX5 yX5_fail yX5_fail, .initialized RX5, .code yX5_fail cX5_fail 2 (some .int)] ++ wsX50)
def wsX5_kindOf_r1 : List Cond := [Cond.fieldLink RX5 29 "TypingTutorModel" "text" "[I", Cond.fieldLink RX5 110 "TypingTutorModel" "at" "I", Cond.fieldLink RX5 103 "TypingTutorModel" "letters" "I", Cond.fieldLink RX5 32 "TypingTutorModel" "areFirst" "[Z", Cond.methodLink RX5 96 yX5_nearTo, Cond.static yX5_nearTo, Cond.initialized RX5, Cond.code yX5_nearTo cX5_nearTo 6 (some .boolean), Cond.methodLink RX5 91 Lib.Math.abs.name, Cond.static Lib.Math.abs.name, Cond.initialized "java/lang/Math", Cond.code Lib.Math.abs.name Lib.Math.abs.code 1 (some .int), Cond.methodLink RX5 86 yJ0_indexOf_0f7a4, Cond.instanceMethod yJ0_indexOf_0f7a4, Cond.selects RJ0 yJ0_indexOf_0f7a4 yJ0_indexOf_0f7a4, Cond.initialized RJ0, Cond.code yJ0_indexOf_0f7a4 cJ0_indexOf_0f7a4 2 (some .int), Cond.methodLink RJ0 633 yJ0_indexOf_7cf53, Cond.instanceMethod yJ0_indexOf_7cf53, Cond.selects RJ0 yJ0_indexOf_7cf53 yJ0_indexOf_7cf53, Cond.code yJ0_indexOf_7cf53 cJ0_indexOf_7cf53 3 (some .int), Cond.fieldLink RJ0 9 "java/lang/String" "value" "[B", Cond.methodLink RJ0 492 yJ0_isLatin1_aae02, Cond.instanceMethod yJ0_isLatin1_aae02]
def wsX5_kindOf_r2 : List Cond := [Cond.selects RJ0 yJ0_isLatin1_aae02 yJ0_isLatin1_aae02, Cond.code yJ0_isLatin1_aae02 cJ0_isLatin1_aae02 1 (some .boolean), Cond.fieldLink RJ0 38 "java/lang/String" "COMPACT_STRINGS" "Z", Cond.fieldLink RJ0 15 "java/lang/String" "coder" "B", Cond.methodLink RJ0 505 yJ0_length_8abf5, Cond.instanceMethod yJ0_length_8abf5, Cond.selects RJ0 yJ0_length_8abf5 yJ0_length_8abf5, Cond.code yJ0_length_8abf5 cJ0_length_8abf5 1 (some .int), Cond.methodLink RJ0 335 yJ0_coder_7d493, Cond.instanceMethod yJ0_coder_7d493, Cond.selects RJ0 yJ0_coder_7d493 yJ0_coder_7d493, Cond.code yJ0_coder_7d493 cJ0_coder_7d493 1 (some .byte), Cond.methodLink RJ0 637 yJ1_indexOf_4cfef, Cond.static yJ1_indexOf_4cfef, Cond.initialized RJ1, Cond.code yJ1_indexOf_4cfef cJ1_indexOf_4cfef 4 (some .int), Cond.methodLink RJ1 92 Lib.Math.max.name, Cond.static Lib.Math.max.name, Cond.code Lib.Math.max.name Lib.Math.max.code 2 (some .int), Cond.methodLink RJ1 38 Lib.Math.min.name, Cond.static Lib.Math.min.name, Cond.code Lib.Math.min.name Lib.Math.min.code 2 (some .int), Cond.methodLink RJ1 88 yJ1_canEncode_9a6ad, Cond.static yJ1_canEncode_9a6ad]
def wsX5_kindOf_r3 : List Cond := [Cond.code yJ1_canEncode_9a6ad cJ1_canEncode_9a6ad 1 (some .boolean), Cond.methodLink RJ1 95 yJ1_indexOfChar_4cfef, Cond.static yJ1_indexOfChar_4cfef, Cond.code yJ1_indexOfChar_4cfef cJ1_indexOfChar_4cfef 6 (some .int), Cond.methodLink RJ0 640 yJ2_indexOf_4cfef, Cond.static yJ2_indexOf_4cfef, Cond.initialized RJ2, Cond.code yJ2_indexOf_4cfef cJ2_indexOf_4cfef 4 (some .int), Cond.methodLink RJ2 224 Lib.Math.max.name, Cond.methodLink RJ2 183 Lib.Math.min.name, Cond.constant RJ2 227 (65536), Cond.methodLink RJ2 228 yJ2_indexOfChar_4cfef, Cond.static yJ2_indexOfChar_4cfef, Cond.code yJ2_indexOfChar_4cfef cJ2_indexOfChar_4cfef 4 (some .int), Cond.methodLink RJ2 96 yJ2_checkBoundsBeginEnd_d044e, Cond.static yJ2_checkBoundsBeginEnd_d044e, Cond.code yJ2_checkBoundsBeginEnd_d044e cJ2_checkBoundsBeginEnd_d044e 3 none, Cond.methodLink RJ2 48 yJ2_length_9d52b, Cond.static yJ2_length_9d52b, Cond.code yJ2_length_9d52b cJ2_length_9d52b 1 (some .int), Cond.methodLink RJ2 241 yJ0_checkBoundsBeginEnd_23922, Cond.static yJ0_checkBoundsBeginEnd_23922, Cond.code yJ0_checkBoundsBeginEnd_23922 cJ0_checkBoundsBeginEnd_23922 3 none, Cond.fieldLink RJ0 1053 "jdk/internal/util/Preconditions" "SIOOBE_FORMATTER" "Ljava/util/function/BiFunction;"]
def wsX5_kindOf_r4 : List Cond := [Cond.methodLink RJ0 1062 yJ3_checkFromToIndex_8c36e, Cond.static yJ3_checkFromToIndex_8c36e, Cond.initialized RJ3, Cond.code yJ3_checkFromToIndex_8c36e cJ3_checkFromToIndex_8c36e 4 (some .int), Cond.methodLink RJ2 244 yJ2_indexOfCharUnsafe_4cfef, Cond.static yJ2_indexOfCharUnsafe_4cfef, Cond.code yJ2_indexOfCharUnsafe_4cfef cJ2_indexOfCharUnsafe_4cfef 5 (some .int), Cond.methodLink RJ2 71 yJ2_getChar_3b067, Cond.static yJ2_getChar_3b067, Cond.code yJ2_getChar_3b067 cJ2_getChar_3b067 2 (some .char), Cond.fieldLink RJ2 44 "java/lang/StringUTF16" "$assertionsDisabled" "Z", Cond.fieldLink RJ2 59 "java/lang/StringUTF16" "HI_BYTE_SHIFT" "I", Cond.fieldLink RJ2 63 "java/lang/StringUTF16" "LO_BYTE_SHIFT" "I", Cond.methodLink RJ2 232 yJ2_indexOfSupplementary_4cfef, Cond.static yJ2_indexOfSupplementary_4cfef, Cond.code yJ2_indexOfSupplementary_4cfef cJ2_indexOfSupplementary_4cfef 7 (some .int), Cond.methodLink RJ2 164 yJ11_isValidCodePoint_9a6ad, Cond.static yJ11_isValidCodePoint_9a6ad, Cond.initialized RJ11, Cond.code yJ11_isValidCodePoint_9a6ad cJ11_isValidCodePoint_9a6ad 2 (some .boolean), Cond.methodLink RJ2 157 yJ11_highSurrogate_5068e, Cond.static yJ11_highSurrogate_5068e, Cond.code yJ11_highSurrogate_5068e cJ11_highSurrogate_5068e 1 (some .char), Cond.constant RJ11 110 (55232)]
def wsX5_kindOf_r5 : List Cond := [Cond.methodLink RJ2 161 yJ11_lowSurrogate_5068e, Cond.static yJ11_lowSurrogate_5068e, Cond.code yJ11_lowSurrogate_5068e cJ11_lowSurrogate_5068e 1 (some .char), Cond.constant RJ11 76 (56320)]
def wsX5_kindOf : List Cond := .code yX5_kindOf cX5_kindOf 3 (some .int) :: ((wsX5_kindOf_r1 ++ (wsX5_kindOf_r2 ++ (wsX5_kindOf_r3 ++ (wsX5_kindOf_r4 ++ wsX5_kindOf_r5)))) ++ wsX50)
def wsX5_learn : List Cond := .code yX5_learn cX5_learn 4 none :: ([.fieldLink RX5 13 "TypingTutorModel" "tries" "[I", .fieldLink RX5 17 "TypingTutorModel" "misses" "[I", .fieldLink RX5 20 "TypingTutorModel" "levels" "[I"] ++ wsX50)
def wsX5_finish : List Cond := .code yX5_finish cX5_finish 2 none :: ([.fieldLink RX5 106 "TypingTutorModel" "isOpen" "Z", .fieldLink RX5 145 "TypingTutorModel" "finished" "I", .fieldLink RX5 36 "TypingTutorModel" "history" "[I", .arrayClass .int, .methodLink RX5 148 arraycopyName, .native arraycopyName, .static arraycopyName, .initialized "java/lang/System", .fieldLink RX5 103 "TypingTutorModel" "letters" "I", .fieldLink RX5 116 "TypingTutorModel" "clean" "I", .fieldLink RX5 119 "TypingTutorModel" "time" "I", .fieldLink RX5 39 "TypingTutorModel" "pace" "I", .methodLink RX5 154 Lib.Math.min.name, .static Lib.Math.min.name, .initialized "java/lang/Math", .code Lib.Math.min.name Lib.Math.min.code 2 (some .int), .methodLink RX5 135 Lib.Math.max.name, .static Lib.Math.max.name, .code Lib.Math.max.name Lib.Math.max.code 2 (some .int)] ++ wsX50)
def wsX5_tryLetter_r1 : List Cond := [Cond.fieldLink RX5 113 "TypingTutorModel" "slips" "I", Cond.methodLink RX5 135 Lib.Math.max.name, Cond.static Lib.Math.max.name, Cond.initialized "java/lang/Math", Cond.code Lib.Math.max.name Lib.Math.max.code 2 (some .int), Cond.fieldLink RX5 29 "TypingTutorModel" "text" "[I", Cond.fieldLink RX5 110 "TypingTutorModel" "at" "I", Cond.fieldLink RX5 32 "TypingTutorModel" "areFirst" "[Z", Cond.fieldLink RX5 116 "TypingTutorModel" "clean" "I", Cond.fieldLink RX5 103 "TypingTutorModel" "letters" "I", Cond.methodLink RX5 138 yX5_learn, Cond.instanceMethod yX5_learn, Cond.selects RX5 yX5_learn yX5_learn, Cond.initialized RX5, Cond.code yX5_learn cX5_learn 4 none, Cond.fieldLink RX5 13 "TypingTutorModel" "tries" "[I", Cond.fieldLink RX5 17 "TypingTutorModel" "misses" "[I", Cond.fieldLink RX5 20 "TypingTutorModel" "levels" "[I", Cond.methodLink RX5 74 yX5_pairOf, Cond.static yX5_pairOf, Cond.code yX5_pairOf cX5_pairOf 2 (some .int), Cond.methodLink RX5 142 yX5_finish, Cond.instanceMethod yX5_finish, Cond.selects RX5 yX5_finish yX5_finish]
def wsX5_tryLetter_r2 : List Cond := [Cond.code yX5_finish cX5_finish 2 none, Cond.fieldLink RX5 106 "TypingTutorModel" "isOpen" "Z", Cond.fieldLink RX5 145 "TypingTutorModel" "finished" "I", Cond.fieldLink RX5 36 "TypingTutorModel" "history" "[I", Cond.arrayClass .int, Cond.methodLink RX5 148 arraycopyName, Cond.native arraycopyName, Cond.static arraycopyName, Cond.initialized "java/lang/System", Cond.fieldLink RX5 119 "TypingTutorModel" "time" "I", Cond.fieldLink RX5 39 "TypingTutorModel" "pace" "I", Cond.methodLink RX5 154 Lib.Math.min.name, Cond.static Lib.Math.min.name, Cond.code Lib.Math.min.name Lib.Math.min.code 2 (some .int)]
def wsX5_tryLetter : List Cond := .code yX5_tryLetter cX5_tryLetter 4 none :: ((wsX5_tryLetter_r1 ++ wsX5_tryLetter_r2) ++ wsX50)
def wsX5_strike_r1 : List Cond := [Cond.fieldLink RX5 43 "TypingTutorModel" "thrown" "I", Cond.fieldLink RX5 106 "TypingTutorModel" "isOpen" "Z", Cond.fieldLink RX5 119 "TypingTutorModel" "time" "I", Cond.fieldLink RX5 23 "TypingTutorModel" "kindCounts" "[I", Cond.fieldLink RX5 113 "TypingTutorModel" "slips" "I", Cond.methodLink RX5 59 yX5_isKey, Cond.static yX5_isKey, Cond.initialized RX5, Cond.code yX5_isKey cX5_isKey 1 (some .boolean), Cond.methodLink RX5 67 yX5_fail, Cond.instanceMethod yX5_fail, Cond.selects RX5 yX5_fail yX5_fail, Cond.code yX5_fail cX5_fail 2 (some .int), Cond.methodLink RX5 157 yX5_kindOf, Cond.instanceMethod yX5_kindOf, Cond.selects RX5 yX5_kindOf yX5_kindOf, Cond.code yX5_kindOf cX5_kindOf 3 (some .int), Cond.fieldLink RX5 29 "TypingTutorModel" "text" "[I", Cond.fieldLink RX5 110 "TypingTutorModel" "at" "I", Cond.fieldLink RX5 103 "TypingTutorModel" "letters" "I", Cond.fieldLink RX5 32 "TypingTutorModel" "areFirst" "[Z", Cond.methodLink RX5 96 yX5_nearTo, Cond.static yX5_nearTo, Cond.code yX5_nearTo cX5_nearTo 6 (some .boolean)]
def wsX5_strike_r2 : List Cond := [Cond.methodLink RX5 91 Lib.Math.abs.name, Cond.static Lib.Math.abs.name, Cond.initialized "java/lang/Math", Cond.code Lib.Math.abs.name Lib.Math.abs.code 1 (some .int), Cond.methodLink RX5 86 yJ0_indexOf_0f7a4, Cond.instanceMethod yJ0_indexOf_0f7a4, Cond.selects RJ0 yJ0_indexOf_0f7a4 yJ0_indexOf_0f7a4, Cond.initialized RJ0, Cond.code yJ0_indexOf_0f7a4 cJ0_indexOf_0f7a4 2 (some .int), Cond.methodLink RJ0 633 yJ0_indexOf_7cf53, Cond.instanceMethod yJ0_indexOf_7cf53, Cond.selects RJ0 yJ0_indexOf_7cf53 yJ0_indexOf_7cf53, Cond.code yJ0_indexOf_7cf53 cJ0_indexOf_7cf53 3 (some .int), Cond.fieldLink RJ0 9 "java/lang/String" "value" "[B", Cond.methodLink RJ0 492 yJ0_isLatin1_aae02, Cond.instanceMethod yJ0_isLatin1_aae02, Cond.selects RJ0 yJ0_isLatin1_aae02 yJ0_isLatin1_aae02, Cond.code yJ0_isLatin1_aae02 cJ0_isLatin1_aae02 1 (some .boolean), Cond.fieldLink RJ0 38 "java/lang/String" "COMPACT_STRINGS" "Z", Cond.fieldLink RJ0 15 "java/lang/String" "coder" "B", Cond.methodLink RJ0 505 yJ0_length_8abf5, Cond.instanceMethod yJ0_length_8abf5, Cond.selects RJ0 yJ0_length_8abf5 yJ0_length_8abf5, Cond.code yJ0_length_8abf5 cJ0_length_8abf5 1 (some .int)]
def wsX5_strike_r3 : List Cond := [Cond.methodLink RJ0 335 yJ0_coder_7d493, Cond.instanceMethod yJ0_coder_7d493, Cond.selects RJ0 yJ0_coder_7d493 yJ0_coder_7d493, Cond.code yJ0_coder_7d493 cJ0_coder_7d493 1 (some .byte), Cond.methodLink RJ0 637 yJ1_indexOf_4cfef, Cond.static yJ1_indexOf_4cfef, Cond.initialized RJ1, Cond.code yJ1_indexOf_4cfef cJ1_indexOf_4cfef 4 (some .int), Cond.methodLink RJ1 92 Lib.Math.max.name, Cond.static Lib.Math.max.name, Cond.code Lib.Math.max.name Lib.Math.max.code 2 (some .int), Cond.methodLink RJ1 38 Lib.Math.min.name, Cond.static Lib.Math.min.name, Cond.code Lib.Math.min.name Lib.Math.min.code 2 (some .int), Cond.methodLink RJ1 88 yJ1_canEncode_9a6ad, Cond.static yJ1_canEncode_9a6ad, Cond.code yJ1_canEncode_9a6ad cJ1_canEncode_9a6ad 1 (some .boolean), Cond.methodLink RJ1 95 yJ1_indexOfChar_4cfef, Cond.static yJ1_indexOfChar_4cfef, Cond.code yJ1_indexOfChar_4cfef cJ1_indexOfChar_4cfef 6 (some .int), Cond.methodLink RJ0 640 yJ2_indexOf_4cfef, Cond.static yJ2_indexOf_4cfef, Cond.initialized RJ2, Cond.code yJ2_indexOf_4cfef cJ2_indexOf_4cfef 4 (some .int)]
def wsX5_strike_r4 : List Cond := [Cond.methodLink RJ2 224 Lib.Math.max.name, Cond.methodLink RJ2 183 Lib.Math.min.name, Cond.constant RJ2 227 (65536), Cond.methodLink RJ2 228 yJ2_indexOfChar_4cfef, Cond.static yJ2_indexOfChar_4cfef, Cond.code yJ2_indexOfChar_4cfef cJ2_indexOfChar_4cfef 4 (some .int), Cond.methodLink RJ2 96 yJ2_checkBoundsBeginEnd_d044e, Cond.static yJ2_checkBoundsBeginEnd_d044e, Cond.code yJ2_checkBoundsBeginEnd_d044e cJ2_checkBoundsBeginEnd_d044e 3 none, Cond.methodLink RJ2 48 yJ2_length_9d52b, Cond.static yJ2_length_9d52b, Cond.code yJ2_length_9d52b cJ2_length_9d52b 1 (some .int), Cond.methodLink RJ2 241 yJ0_checkBoundsBeginEnd_23922, Cond.static yJ0_checkBoundsBeginEnd_23922, Cond.code yJ0_checkBoundsBeginEnd_23922 cJ0_checkBoundsBeginEnd_23922 3 none, Cond.fieldLink RJ0 1053 "jdk/internal/util/Preconditions" "SIOOBE_FORMATTER" "Ljava/util/function/BiFunction;", Cond.methodLink RJ0 1062 yJ3_checkFromToIndex_8c36e, Cond.static yJ3_checkFromToIndex_8c36e, Cond.initialized RJ3, Cond.code yJ3_checkFromToIndex_8c36e cJ3_checkFromToIndex_8c36e 4 (some .int), Cond.methodLink RJ2 244 yJ2_indexOfCharUnsafe_4cfef, Cond.static yJ2_indexOfCharUnsafe_4cfef, Cond.code yJ2_indexOfCharUnsafe_4cfef cJ2_indexOfCharUnsafe_4cfef 5 (some .int), Cond.methodLink RJ2 71 yJ2_getChar_3b067]
def wsX5_strike_r5 : List Cond := [Cond.static yJ2_getChar_3b067, Cond.code yJ2_getChar_3b067 cJ2_getChar_3b067 2 (some .char), Cond.fieldLink RJ2 44 "java/lang/StringUTF16" "$assertionsDisabled" "Z", Cond.fieldLink RJ2 59 "java/lang/StringUTF16" "HI_BYTE_SHIFT" "I", Cond.fieldLink RJ2 63 "java/lang/StringUTF16" "LO_BYTE_SHIFT" "I", Cond.methodLink RJ2 232 yJ2_indexOfSupplementary_4cfef, Cond.static yJ2_indexOfSupplementary_4cfef, Cond.code yJ2_indexOfSupplementary_4cfef cJ2_indexOfSupplementary_4cfef 7 (some .int), Cond.methodLink RJ2 164 yJ11_isValidCodePoint_9a6ad, Cond.static yJ11_isValidCodePoint_9a6ad, Cond.initialized RJ11, Cond.code yJ11_isValidCodePoint_9a6ad cJ11_isValidCodePoint_9a6ad 2 (some .boolean), Cond.methodLink RJ2 157 yJ11_highSurrogate_5068e, Cond.static yJ11_highSurrogate_5068e, Cond.code yJ11_highSurrogate_5068e cJ11_highSurrogate_5068e 1 (some .char), Cond.constant RJ11 110 (55232), Cond.methodLink RJ2 161 yJ11_lowSurrogate_5068e, Cond.static yJ11_lowSurrogate_5068e, Cond.code yJ11_lowSurrogate_5068e cJ11_lowSurrogate_5068e 1 (some .char), Cond.constant RJ11 76 (56320), Cond.methodLink RX5 160 yX5_tryLetter, Cond.instanceMethod yX5_tryLetter, Cond.selects RX5 yX5_tryLetter yX5_tryLetter, Cond.code yX5_tryLetter cX5_tryLetter 4 none]
def wsX5_strike_r6 : List Cond := [Cond.methodLink RX5 135 Lib.Math.max.name, Cond.fieldLink RX5 116 "TypingTutorModel" "clean" "I", Cond.methodLink RX5 138 yX5_learn, Cond.instanceMethod yX5_learn, Cond.selects RX5 yX5_learn yX5_learn, Cond.code yX5_learn cX5_learn 4 none, Cond.fieldLink RX5 13 "TypingTutorModel" "tries" "[I", Cond.fieldLink RX5 17 "TypingTutorModel" "misses" "[I", Cond.fieldLink RX5 20 "TypingTutorModel" "levels" "[I", Cond.methodLink RX5 74 yX5_pairOf, Cond.static yX5_pairOf, Cond.code yX5_pairOf cX5_pairOf 2 (some .int), Cond.methodLink RX5 142 yX5_finish, Cond.instanceMethod yX5_finish, Cond.selects RX5 yX5_finish yX5_finish, Cond.code yX5_finish cX5_finish 2 none, Cond.fieldLink RX5 145 "TypingTutorModel" "finished" "I", Cond.fieldLink RX5 36 "TypingTutorModel" "history" "[I", Cond.arrayClass .int, Cond.methodLink RX5 148 arraycopyName, Cond.native arraycopyName, Cond.static arraycopyName, Cond.initialized "java/lang/System", Cond.fieldLink RX5 39 "TypingTutorModel" "pace" "I"]
def wsX5_strike_r7 : List Cond := [Cond.methodLink RX5 154 Lib.Math.min.name]
def wsX5_strike : List Cond := .code yX5_strike cX5_strike 4 (some .int) :: ((wsX5_strike_r1 ++ (wsX5_strike_r2 ++ (wsX5_strike_r3 ++ (wsX5_strike_r4 ++ (wsX5_strike_r5 ++ (wsX5_strike_r6 ++ wsX5_strike_r7)))))) ++ wsX50)
def wsX5_known : List Cond := .code yX5_known cX5_known 3 (some .int) :: ([.fieldLink RX5 13 "TypingTutorModel" "tries" "[I", .fieldLink RX5 17 "TypingTutorModel" "misses" "[I", .fieldLink RX5 20 "TypingTutorModel" "levels" "[I"] ++ wsX50)
def wsX5_key : List Cond := .code yX5_key cX5_key 3 (some .int) :: ([.fieldLink RX5 43 "TypingTutorModel" "thrown" "I", .methodLink RX5 59 yX5_isKey, .static yX5_isKey, .initialized RX5, .code yX5_isKey cX5_isKey 1 (some .boolean), .methodLink RX5 163 yX5_known, .instanceMethod yX5_known, .selects RX5 yX5_known yX5_known, .code yX5_known cX5_known 3 (some .int), .fieldLink RX5 13 "TypingTutorModel" "tries" "[I", .fieldLink RX5 17 "TypingTutorModel" "misses" "[I", .fieldLink RX5 20 "TypingTutorModel" "levels" "[I", .methodLink RX5 67 yX5_fail, .instanceMethod yX5_fail, .selects RX5 yX5_fail yX5_fail, .code yX5_fail cX5_fail 2 (some .int)] ++ wsX50)
def wsX5_pair : List Cond := .code yX5_pair cX5_pair 4 (some .int) :: ([.fieldLink RX5 43 "TypingTutorModel" "thrown" "I", .methodLink RX5 59 yX5_isKey, .static yX5_isKey, .initialized RX5, .code yX5_isKey cX5_isKey 1 (some .boolean), .methodLink RX5 67 yX5_fail, .instanceMethod yX5_fail, .selects RX5 yX5_fail yX5_fail, .code yX5_fail cX5_fail 2 (some .int), .methodLink RX5 78 yX5_weakness, .instanceMethod yX5_weakness, .selects RX5 yX5_weakness yX5_weakness, .code yX5_weakness cX5_weakness 4 (some .int), .fieldLink RX5 20 "TypingTutorModel" "levels" "[I", .fieldLink RX5 13 "TypingTutorModel" "tries" "[I", .methodLink RX5 74 yX5_pairOf, .static yX5_pairOf, .code yX5_pairOf cX5_pairOf 2 (some .int), .methodLink RX5 163 yX5_known, .instanceMethod yX5_known, .selects RX5 yX5_known yX5_known, .code yX5_known cX5_known 3 (some .int), .fieldLink RX5 17 "TypingTutorModel" "misses" "[I"] ++ wsX50)
def wsX5_weakest : List Cond := .code yX5_weakest cX5_weakest 3 (some .int) :: ([.fieldLink RX5 43 "TypingTutorModel" "thrown" "I", .fieldLink RX5 13 "TypingTutorModel" "tries" "[I", .methodLink RX5 78 yX5_weakness, .instanceMethod yX5_weakness, .selects RX5 yX5_weakness yX5_weakness, .initialized RX5, .code yX5_weakness cX5_weakness 4 (some .int), .fieldLink RX5 20 "TypingTutorModel" "levels" "[I", .methodLink RX5 74 yX5_pairOf, .static yX5_pairOf, .code yX5_pairOf cX5_pairOf 2 (some .int)] ++ wsX50)
def wsX5_mistakes : List Cond := .code yX5_mistakes cX5_mistakes 2 (some .int) :: ([.fieldLink RX5 43 "TypingTutorModel" "thrown" "I", .fieldLink RX5 23 "TypingTutorModel" "kindCounts" "[I", .methodLink RX5 67 yX5_fail, .instanceMethod yX5_fail, .selects RX5 yX5_fail yX5_fail, .initialized RX5, .code yX5_fail cX5_fail 2 (some .int)] ++ wsX50)
def wsX5_lessons : List Cond := .code yX5_lessons cX5_lessons 1 (some .int) :: ([.fieldLink RX5 43 "TypingTutorModel" "thrown" "I", .fieldLink RX5 145 "TypingTutorModel" "finished" "I"] ++ wsX50)
def wsX5_told : List Cond := .code yX5_told cX5_told 3 (some .int) :: ([.fieldLink RX5 36 "TypingTutorModel" "history" "[I", .constant RX5 166 (60000)] ++ wsX50)
def wsX5_lesson : List Cond := .code yX5_lesson cX5_lesson 3 (some .int) :: ([.fieldLink RX5 43 "TypingTutorModel" "thrown" "I", .fieldLink RX5 145 "TypingTutorModel" "finished" "I", .methodLink RX5 167 yX5_told, .instanceMethod yX5_told, .selects RX5 yX5_told yX5_told, .initialized RX5, .code yX5_told cX5_told 3 (some .int), .fieldLink RX5 36 "TypingTutorModel" "history" "[I", .constant RX5 166 (60000), .methodLink RX5 67 yX5_fail, .instanceMethod yX5_fail, .selects RX5 yX5_fail yX5_fail, .code yX5_fail cX5_fail 2 (some .int)] ++ wsX50)
def wsX5_pace : List Cond := .code yX5_pace cX5_pace 1 (some .int) :: ([.fieldLink RX5 43 "TypingTutorModel" "thrown" "I", .fieldLink RX5 39 "TypingTutorModel" "pace" "I"] ++ wsX50)
def wsX5_greatest : List Cond := .code yX5_greatest cX5_greatest 2 (some .int) :: ([.methodLink RX5 135 Lib.Math.max.name, .static Lib.Math.max.name, .initialized "java/lang/Math", .code Lib.Math.max.name Lib.Math.max.code 2 (some .int), .methodLink RX5 167 yX5_told, .instanceMethod yX5_told, .selects RX5 yX5_told yX5_told, .initialized RX5, .code yX5_told cX5_told 3 (some .int), .fieldLink RX5 36 "TypingTutorModel" "history" "[I", .constant RX5 166 (60000)] ++ wsX50)
def wsX5_isPlateau : List Cond := .code yX5_isPlateau cX5_isPlateau 1 (some .boolean) :: ([.fieldLink RX5 43 "TypingTutorModel" "thrown" "I", .fieldLink RX5 145 "TypingTutorModel" "finished" "I", .methodLink RX5 170 yX5_greatest, .instanceMethod yX5_greatest, .selects RX5 yX5_greatest yX5_greatest, .initialized RX5, .code yX5_greatest cX5_greatest 2 (some .int), .methodLink RX5 135 Lib.Math.max.name, .static Lib.Math.max.name, .initialized "java/lang/Math", .code Lib.Math.max.name Lib.Math.max.code 2 (some .int), .methodLink RX5 167 yX5_told, .instanceMethod yX5_told, .selects RX5 yX5_told yX5_told, .code yX5_told cX5_told 3 (some .int), .fieldLink RX5 36 "TypingTutorModel" "history" "[I", .constant RX5 166 (60000)] ++ wsX50)
def wsX5_accuracy : List Cond := .code yX5_accuracy cX5_accuracy 4 (some .double) :: ([.fieldLink RX5 43 "TypingTutorModel" "thrown" "I", .fieldLink RX5 145 "TypingTutorModel" "finished" "I", .fieldLink RX5 36 "TypingTutorModel" "history" "[I"] ++ wsX50)
def wsX5_digest_r1 : List Cond := [Cond.fieldLink RX5 43 "TypingTutorModel" "thrown" "I", Cond.constantLong RX5 173 (5921), Cond.fieldLink RX5 46 "TypingTutorModel" "words" "I", Cond.constantLong RX5 175 (31), Cond.fieldLink RX5 9 "TypingTutorModel" "list" "[J", Cond.fieldLink RX5 13 "TypingTutorModel" "tries" "[I", Cond.fieldLink RX5 23 "TypingTutorModel" "kindCounts" "[I", Cond.fieldLink RX5 106 "TypingTutorModel" "isOpen" "Z", Cond.fieldLink RX5 100 "TypingTutorModel" "lessonWords" "I", Cond.fieldLink RX5 26 "TypingTutorModel" "chosen" "[I", Cond.fieldLink RX5 110 "TypingTutorModel" "at" "I", Cond.fieldLink RX5 145 "TypingTutorModel" "finished" "I", Cond.fieldLink RX5 39 "TypingTutorModel" "pace" "I", Cond.methodLink RX5 163 yX5_known, Cond.instanceMethod yX5_known, Cond.selects RX5 yX5_known yX5_known, Cond.initialized RX5, Cond.code yX5_known cX5_known 3 (some .int), Cond.fieldLink RX5 17 "TypingTutorModel" "misses" "[I", Cond.fieldLink RX5 20 "TypingTutorModel" "levels" "[I", Cond.methodLink RX5 167 yX5_told, Cond.instanceMethod yX5_told, Cond.selects RX5 yX5_told yX5_told, Cond.code yX5_told cX5_told 3 (some .int)]
def wsX5_digest_r2 : List Cond := [Cond.fieldLink RX5 36 "TypingTutorModel" "history" "[I", Cond.constant RX5 166 (60000)]
def wsX5_digest : List Cond := .code yX5_digest cX5_digest 5 (some .long) :: ((wsX5_digest_r1 ++ wsX5_digest_r2) ++ wsX50)
def wsJ9_abs_0f7a4 : List Cond := .code yJ9_abs_0f7a4 cJ9_abs_0f7a4 1 (some .int) :: ([])
def wsJ9_max_7cf53 : List Cond := .code yJ9_max_7cf53 cJ9_max_7cf53 2 (some .int) :: ([])
def wsJ9_min_7cf53 : List Cond := .code yJ9_min_7cf53 cJ9_min_7cf53 2 (some .int) :: ([])
def wsL_addWord_r1 : List Cond := [Cond.classLink RL 13 "java/lang/IllegalArgumentException", Cond.classLink RL 15 "java/lang/IllegalStateException", Cond.methodLink RL 7 yX4_addWord, Cond.instanceMethod yX4_addWord, Cond.selects RX4 yX4_addWord yX4_addWord, Cond.initialized RX4, Cond.code yX4_addWord cX4_addWord 3 (some .int), Cond.classLink RX4 50 "java/lang/IllegalArgumentException", Cond.initialized "java/lang/IllegalArgumentException", Cond.classLink RX4 64 "java/lang/IllegalStateException", Cond.initialized "java/lang/IllegalStateException", Cond.fieldLink RX4 12 "TypingTutor" "list" "LTypingTutor$WordList;", Cond.methodLink RX4 46 yX4_tellsWord, Cond.static yX4_tellsWord, Cond.code yX4_tellsWord cX4_tellsWord 7 (some .boolean), Cond.constantLong RX4 227 (255), Cond.constantLong RX4 229 (97), Cond.constantLong RX4 231 (122), Cond.methodLink RX4 57 yX3_isFull, Cond.instanceMethod yX3_isFull, Cond.selects RX3 yX3_isFull yX3_isFull, Cond.initialized RX3, Cond.code yX3_isFull cX3_isFull 1 (some .boolean), Cond.fieldLink RX3 15 "TypingTutor$WordList" "count" "I"]
def wsL_addWord_r2 : List Cond := [Cond.fieldLink RX3 9 "TypingTutor$WordList" "words" "[J", Cond.methodLink RX4 61 yX3_holds, Cond.instanceMethod yX3_holds, Cond.selects RX3 yX3_holds yX3_holds, Cond.code yX3_holds cX3_holds 4 (some .boolean), Cond.methodLink RX3 19 yX3_wordAt, Cond.instanceMethod yX3_wordAt, Cond.selects RX3 yX3_wordAt yX3_wordAt, Cond.code yX3_wordAt cX3_wordAt 2 (some .long), Cond.methodLink RX4 69 yX3_append, Cond.instanceMethod yX3_append, Cond.selects RX3 yX3_append yX3_append, Cond.code yX3_append cX3_append 3 (some .int)]
def wsL_addWord : List Cond := .codeWith yL_addWord cL_addWord 5 (some .int) [(0, 9, 12, 13), (0, 9, 16, 15)] :: ((wsL_addWord_r1 ++ wsL_addWord_r2) ++ wsX40 ++ wsX30 ++ (vx_atS RX4 54 "java/lang/IllegalArgumentException" ["java/lang/RuntimeException", "java/lang/Exception"]).filter goodWord ++ (vx_atS RX4 68 "java/lang/IllegalStateException" ["java/lang/RuntimeException", "java/lang/Exception"]).filter goodWord)
def wsL_word : List Cond := .codeWith yL_word cL_word 4 (some .int) [(0, 8, 11, 21)] :: ([.classLink RL 21 "java/lang/IndexOutOfBoundsException", .methodLink RL 17 yX4_word, .instanceMethod yX4_word, .selects RX4 yX4_word yX4_word, .initialized RX4, .code yX4_word cX4_word 2 (some .long), .classLink RX4 81 "java/lang/IndexOutOfBoundsException", .initialized "java/lang/IndexOutOfBoundsException", .fieldLink RX4 12 "TypingTutor" "list" "LTypingTutor$WordList;", .methodLink RX4 77 yX3_hasNumber, .instanceMethod yX3_hasNumber, .selects RX3 yX3_hasNumber yX3_hasNumber, .initialized RX3, .code yX3_hasNumber cX3_hasNumber 2 (some .boolean), .fieldLink RX3 15 "TypingTutor$WordList" "count" "I", .methodLink RX4 86 yX3_wordAt, .instanceMethod yX3_wordAt, .selects RX3 yX3_wordAt yX3_wordAt, .code yX3_wordAt cX3_wordAt 2 (some .long), .fieldLink RX3 9 "TypingTutor$WordList" "words" "[J"] ++ wsX40 ++ wsX30 ++ (vx_atS RX4 85 "java/lang/IndexOutOfBoundsException" ["java/lang/RuntimeException", "java/lang/Exception"]).filter goodWord)
def wsL_weight_r1 : List Cond := [Cond.classLink RL 21 "java/lang/IndexOutOfBoundsException", Cond.methodLink RL 23 yX4_weight, Cond.instanceMethod yX4_weight, Cond.selects RX4 yX4_weight yX4_weight, Cond.initialized RX4, Cond.code yX4_weight cX4_weight 2 (some .int), Cond.classLink RX4 81 "java/lang/IndexOutOfBoundsException", Cond.initialized "java/lang/IndexOutOfBoundsException", Cond.fieldLink RX4 12 "TypingTutor" "list" "LTypingTutor$WordList;", Cond.methodLink RX4 77 yX3_hasNumber, Cond.instanceMethod yX3_hasNumber, Cond.selects RX3 yX3_hasNumber yX3_hasNumber, Cond.initialized RX3, Cond.code yX3_hasNumber cX3_hasNumber 2 (some .boolean), Cond.fieldLink RX3 15 "TypingTutor$WordList" "count" "I", Cond.methodLink RX4 86 yX3_wordAt, Cond.instanceMethod yX3_wordAt, Cond.selects RX3 yX3_wordAt yX3_wordAt, Cond.code yX3_wordAt cX3_wordAt 2 (some .long), Cond.fieldLink RX3 9 "TypingTutor$WordList" "words" "[J", Cond.methodLink RX4 90 yX4_weightOf, Cond.instanceMethod yX4_weightOf, Cond.selects RX4 yX4_weightOf yX4_weightOf, Cond.code yX4_weightOf cX4_weightOf 6 (some .int)]
def wsL_weight_r2 : List Cond := [Cond.fieldLink RX4 21 "TypingTutor" "keys" "LTypingTutor$Knowledge;", Cond.methodLink RX4 240 yX4_lengthOf, Cond.static yX4_lengthOf, Cond.code yX4_lengthOf cX4_lengthOf 3 (some .int), Cond.methodLink RX4 233 yX4_letterOf, Cond.static yX4_letterOf, Cond.code yX4_letterOf cX4_letterOf 4 (some .int), Cond.constantLong RX4 227 (255), Cond.methodLink RX4 237 yX1_levelOf, Cond.instanceMethod yX1_levelOf, Cond.selects RX1 yX1_levelOf yX1_levelOf, Cond.initialized RX1, Cond.code yX1_levelOf cX1_levelOf 2 (some .int), Cond.fieldLink RX1 24 "TypingTutor$Knowledge" "levels" "[I", Cond.static yX4_read, Cond.code yX4_read cX4_read 2 (some .int), Cond.methodLink RX4 243 yX4_pairAt, Cond.static yX4_pairAt, Cond.code yX4_pairAt cX4_pairAt 4 (some .int), Cond.methodLink RX4 174 yX4_pairOf, Cond.static yX4_pairOf, Cond.code yX4_pairOf cX4_pairOf 2 (some .int), Cond.methodLink RX4 177 yX4_weaknessOf, Cond.instanceMethod yX4_weaknessOf]
def wsL_weight_r3 : List Cond := [Cond.selects RX4 yX4_weaknessOf yX4_weaknessOf, Cond.code yX4_weaknessOf cX4_weaknessOf 3 (some .int), Cond.fieldLink RX4 25 "TypingTutor" "pairs" "LTypingTutor$Knowledge;", Cond.methodLink RX4 180 yX1_triesOf, Cond.instanceMethod yX1_triesOf, Cond.selects RX1 yX1_triesOf yX1_triesOf, Cond.code yX1_triesOf cX1_triesOf 2 (some .int), Cond.fieldLink RX1 15 "TypingTutor$Knowledge" "tries" "[I"]
def wsL_weight : List Cond := .codeWith yL_weight cL_weight 4 (some .int) [(0, 9, 12, 21)] :: ((wsL_weight_r1 ++ (wsL_weight_r2 ++ wsL_weight_r3)) ++ wsX40 ++ wsX30 ++ wsX10 ++ (vx_atS RX4 85 "java/lang/IndexOutOfBoundsException" ["java/lang/RuntimeException", "java/lang/Exception"]).filter goodWord)
def wsL_areNeighbours : List Cond := .codeWith yL_areNeighbours cL_areNeighbours 5 (some .int) [(0, 17, 20, 21)] :: ([.classLink RL 21 "java/lang/IndexOutOfBoundsException", .methodLink RL 27 yX4_areNeighbours, .instanceMethod yX4_areNeighbours, .selects RX4 yX4_areNeighbours yX4_areNeighbours, .initialized RX4, .code yX4_areNeighbours cX4_areNeighbours 3 (some .boolean), .classLink RX4 81 "java/lang/IndexOutOfBoundsException", .initialized "java/lang/IndexOutOfBoundsException", .methodLink RX4 93 yX4_isKey, .static yX4_isKey, .code yX4_isKey cX4_isKey 1 (some .boolean), .methodLink RX4 98 yX4_standSideBySide, .static yX4_standSideBySide, .code yX4_standSideBySide cX4_standSideBySide 4 (some .boolean), .fieldLink RX4 216 "TypingTutor" "KEY_ROW" "[I", .methodLink RX4 219 Lib.Math.abs.name, .static Lib.Math.abs.name, .initialized "java/lang/Math", .code Lib.Math.abs.name Lib.Math.abs.code 1 (some .int), .fieldLink RX4 224 "TypingTutor" "KEY_PLACE" "[I", .methodLink RX4 152 yX4_read, .static yX4_read, .code yX4_read cX4_read 2 (some .int)] ++ (vx_atS RX4 85 "java/lang/IndexOutOfBoundsException" ["java/lang/RuntimeException", "java/lang/Exception"]).filter goodWord)
def wsL_open_r1 : List Cond := [Cond.classLink RL 13 "java/lang/IllegalArgumentException", Cond.classLink RL 15 "java/lang/IllegalStateException", Cond.methodLink RL 31 yX4_open, Cond.instanceMethod yX4_open, Cond.selects RX4 yX4_open yX4_open, Cond.initialized RX4, Cond.code yX4_open cX4_open 4 (some .int), Cond.classLink RX4 50 "java/lang/IllegalArgumentException", Cond.initialized "java/lang/IllegalArgumentException", Cond.classLink RX4 64 "java/lang/IllegalStateException", Cond.initialized "java/lang/IllegalStateException", Cond.fieldLink RX4 31 "TypingTutor" "current" "LTypingTutor$Lesson;", Cond.fieldLink RX4 12 "TypingTutor" "list" "LTypingTutor$WordList;", Cond.methodLink RX4 104 yX2_isRunning, Cond.instanceMethod yX2_isRunning, Cond.selects RX2 yX2_isRunning yX2_isRunning, Cond.initialized RX2, Cond.code yX2_isRunning cX2_isRunning 1 (some .boolean), Cond.fieldLink RX2 24 "TypingTutor$Lesson" "running" "Z", Cond.methodLink RX4 73 yX3_size, Cond.instanceMethod yX3_size, Cond.selects RX3 yX3_size yX3_size, Cond.initialized RX3, Cond.code yX3_size cX3_size 1 (some .int)]
def wsL_open_r2 : List Cond := [Cond.fieldLink RX3 15 "TypingTutor$WordList" "count" "I", Cond.methodLink RX4 109 yX2_start, Cond.instanceMethod yX2_start, Cond.selects RX2 yX2_start yX2_start, Cond.code yX2_start cX2_start 1 none, Cond.fieldLink RX2 21 "TypingTutor$Lesson" "followers" "[I", Cond.fieldLink RX2 28 "TypingTutor$Lesson" "wordCount" "I", Cond.fieldLink RX2 32 "TypingTutor$Lesson" "letterCount" "I", Cond.fieldLink RX2 35 "TypingTutor$Lesson" "tried" "I", Cond.fieldLink RX2 38 "TypingTutor$Lesson" "clean" "I", Cond.fieldLink RX2 41 "TypingTutor$Lesson" "times" "I", Cond.fieldLink RX2 44 "TypingTutor$Lesson" "misses" "I", Cond.methodLink RX2 55 yJ7_fill_53178, Cond.static yJ7_fill_53178, Cond.initialized RJ7, Cond.code yJ7_fill_53178 cJ7_fill_53178 4 none, Cond.methodLink RX4 112 yX4_weakestWordLeft, Cond.instanceMethod yX4_weakestWordLeft, Cond.selects RX4 yX4_weakestWordLeft yX4_weakestWordLeft, Cond.code yX4_weakestWordLeft cX4_weakestWordLeft 5 (some .int), Cond.methodLink RX4 246 yX2_hasWord, Cond.instanceMethod yX2_hasWord, Cond.selects RX2 yX2_hasWord yX2_hasWord, Cond.code yX2_hasWord cX2_hasWord 3 (some .boolean)]
def wsL_open_r3 : List Cond := [Cond.fieldLink RX2 9 "TypingTutor$Lesson" "numbers" "[I", Cond.static yX4_read, Cond.code yX4_read cX4_read 2 (some .int), Cond.methodLink RX4 86 yX3_wordAt, Cond.instanceMethod yX3_wordAt, Cond.selects RX3 yX3_wordAt yX3_wordAt, Cond.code yX3_wordAt cX3_wordAt 2 (some .long), Cond.fieldLink RX3 9 "TypingTutor$WordList" "words" "[J", Cond.methodLink RX4 249 yX4_weightInLesson, Cond.instanceMethod yX4_weightInLesson, Cond.selects RX4 yX4_weightInLesson yX4_weightInLesson, Cond.code yX4_weightInLesson cX4_weightInLesson 8 (some .int), Cond.methodLink RX4 240 yX4_lengthOf, Cond.static yX4_lengthOf, Cond.code yX4_lengthOf cX4_lengthOf 3 (some .int), Cond.methodLink RX4 90 yX4_weightOf, Cond.instanceMethod yX4_weightOf, Cond.selects RX4 yX4_weightOf yX4_weightOf, Cond.code yX4_weightOf cX4_weightOf 6 (some .int), Cond.fieldLink RX4 21 "TypingTutor" "keys" "LTypingTutor$Knowledge;", Cond.methodLink RX4 233 yX4_letterOf, Cond.static yX4_letterOf, Cond.code yX4_letterOf cX4_letterOf 4 (some .int), Cond.constantLong RX4 227 (255)]
def wsL_open_r4 : List Cond := [Cond.methodLink RX4 237 yX1_levelOf, Cond.instanceMethod yX1_levelOf, Cond.selects RX1 yX1_levelOf yX1_levelOf, Cond.initialized RX1, Cond.code yX1_levelOf cX1_levelOf 2 (some .int), Cond.fieldLink RX1 24 "TypingTutor$Knowledge" "levels" "[I", Cond.methodLink RX4 243 yX4_pairAt, Cond.static yX4_pairAt, Cond.code yX4_pairAt cX4_pairAt 4 (some .int), Cond.methodLink RX4 174 yX4_pairOf, Cond.static yX4_pairOf, Cond.code yX4_pairOf cX4_pairOf 2 (some .int), Cond.methodLink RX4 177 yX4_weaknessOf, Cond.instanceMethod yX4_weaknessOf, Cond.selects RX4 yX4_weaknessOf yX4_weaknessOf, Cond.code yX4_weaknessOf cX4_weaknessOf 3 (some .int), Cond.fieldLink RX4 25 "TypingTutor" "pairs" "LTypingTutor$Knowledge;", Cond.methodLink RX4 180 yX1_triesOf, Cond.instanceMethod yX1_triesOf, Cond.selects RX1 yX1_triesOf yX1_triesOf, Cond.code yX1_triesOf cX1_triesOf 2 (some .int), Cond.fieldLink RX1 15 "TypingTutor$Knowledge" "tries" "[I", Cond.methodLink RX4 252 yX2_hasPair, Cond.instanceMethod yX2_hasPair]
def wsL_open_r5 : List Cond := [Cond.selects RX2 yX2_hasPair yX2_hasPair, Cond.code yX2_hasPair cX2_hasPair 3 (some .boolean), Cond.methodLink RX4 115 yX2_append, Cond.instanceMethod yX2_append, Cond.selects RX2 yX2_append yX2_append, Cond.code yX2_append cX2_append 8 none, Cond.fieldLink RX2 15 "TypingTutor$Lesson" "letters" "[I", Cond.fieldLink RX2 18 "TypingTutor$Lesson" "owners" "[I", Cond.static yX4_write, Cond.code yX4_write cX4_write 3 none, Cond.methodLink RX4 118 yX2_wordTotal, Cond.instanceMethod yX2_wordTotal, Cond.selects RX2 yX2_wordTotal yX2_wordTotal, Cond.code yX2_wordTotal cX2_wordTotal 1 (some .int)]
def wsL_open : List Cond := .codeWith yL_open cL_open 4 (some .int) [(0, 9, 12, 13), (0, 9, 15, 15)] :: ((wsL_open_r1 ++ (wsL_open_r2 ++ (wsL_open_r3 ++ (wsL_open_r4 ++ wsL_open_r5)))) ++ wsX40 ++ wsX20 ++ wsX30 ++ wsX10 ++ (vx_atS RX4 54 "java/lang/IllegalArgumentException" ["java/lang/RuntimeException", "java/lang/Exception"]).filter goodWord ++ (vx_atS RX4 68 "java/lang/IllegalStateException" ["java/lang/RuntimeException", "java/lang/Exception"]).filter goodWord)
def wsL_openWord_r1 : List Cond := [Cond.classLink RL 21 "java/lang/IndexOutOfBoundsException", Cond.classLink RL 15 "java/lang/IllegalStateException", Cond.methodLink RL 34 yX4_openWord, Cond.instanceMethod yX4_openWord, Cond.selects RX4 yX4_openWord yX4_openWord, Cond.initialized RX4, Cond.code yX4_openWord cX4_openWord 2 (some .int), Cond.classLink RX4 81 "java/lang/IndexOutOfBoundsException", Cond.initialized "java/lang/IndexOutOfBoundsException", Cond.classLink RX4 64 "java/lang/IllegalStateException", Cond.initialized "java/lang/IllegalStateException", Cond.fieldLink RX4 12 "TypingTutor" "list" "LTypingTutor$WordList;", Cond.fieldLink RX4 31 "TypingTutor" "current" "LTypingTutor$Lesson;", Cond.methodLink RX4 77 yX3_hasNumber, Cond.instanceMethod yX3_hasNumber, Cond.selects RX3 yX3_hasNumber yX3_hasNumber, Cond.initialized RX3, Cond.code yX3_hasNumber cX3_hasNumber 2 (some .boolean), Cond.fieldLink RX3 15 "TypingTutor$WordList" "count" "I", Cond.methodLink RX4 104 yX2_isRunning, Cond.instanceMethod yX2_isRunning, Cond.selects RX2 yX2_isRunning yX2_isRunning, Cond.initialized RX2, Cond.code yX2_isRunning cX2_isRunning 1 (some .boolean)]
def wsL_openWord_r2 : List Cond := [Cond.fieldLink RX2 24 "TypingTutor$Lesson" "running" "Z", Cond.methodLink RX4 109 yX2_start, Cond.instanceMethod yX2_start, Cond.selects RX2 yX2_start yX2_start, Cond.code yX2_start cX2_start 1 none, Cond.fieldLink RX2 21 "TypingTutor$Lesson" "followers" "[I", Cond.fieldLink RX2 28 "TypingTutor$Lesson" "wordCount" "I", Cond.fieldLink RX2 32 "TypingTutor$Lesson" "letterCount" "I", Cond.fieldLink RX2 35 "TypingTutor$Lesson" "tried" "I", Cond.fieldLink RX2 38 "TypingTutor$Lesson" "clean" "I", Cond.fieldLink RX2 41 "TypingTutor$Lesson" "times" "I", Cond.fieldLink RX2 44 "TypingTutor$Lesson" "misses" "I", Cond.methodLink RX2 55 yJ7_fill_53178, Cond.static yJ7_fill_53178, Cond.initialized RJ7, Cond.code yJ7_fill_53178 cJ7_fill_53178 4 none, Cond.methodLink RX4 86 yX3_wordAt, Cond.instanceMethod yX3_wordAt, Cond.selects RX3 yX3_wordAt yX3_wordAt, Cond.code yX3_wordAt cX3_wordAt 2 (some .long), Cond.fieldLink RX3 9 "TypingTutor$WordList" "words" "[J", Cond.methodLink RX4 115 yX2_append, Cond.instanceMethod yX2_append, Cond.selects RX2 yX2_append yX2_append]
def wsL_openWord_r3 : List Cond := [Cond.code yX2_append cX2_append 8 none, Cond.fieldLink RX2 15 "TypingTutor$Lesson" "letters" "[I", Cond.fieldLink RX2 18 "TypingTutor$Lesson" "owners" "[I", Cond.fieldLink RX2 9 "TypingTutor$Lesson" "numbers" "[I", Cond.static yX4_lengthOf, Cond.code yX4_lengthOf cX4_lengthOf 3 (some .int), Cond.static yX4_letterOf, Cond.code yX4_letterOf cX4_letterOf 4 (some .int), Cond.constantLong RX4 227 (255), Cond.static yX4_read, Cond.code yX4_read cX4_read 2 (some .int), Cond.static yX4_write, Cond.code yX4_write cX4_write 3 none, Cond.methodLink RX4 123 yX2_letterTotal, Cond.instanceMethod yX2_letterTotal, Cond.selects RX2 yX2_letterTotal yX2_letterTotal, Cond.code yX2_letterTotal cX2_letterTotal 1 (some .int)]
def wsL_openWord : List Cond := .codeWith yL_openWord cL_openWord 4 (some .int) [(0, 9, 12, 21), (0, 9, 15, 15)] :: ((wsL_openWord_r1 ++ (wsL_openWord_r2 ++ wsL_openWord_r3)) ++ wsX40 ++ wsX30 ++ wsX20 ++ (vx_atS RX4 85 "java/lang/IndexOutOfBoundsException" ["java/lang/RuntimeException", "java/lang/Exception"]).filter goodWord ++ (vx_atS RX4 68 "java/lang/IllegalStateException" ["java/lang/RuntimeException", "java/lang/Exception"]).filter goodWord)
def wsL_giveUp_r1 : List Cond := [Cond.classLink RL 15 "java/lang/IllegalStateException", Cond.methodLink RL 37 yX4_giveUp, Cond.instanceMethod yX4_giveUp, Cond.selects RX4 yX4_giveUp yX4_giveUp, Cond.initialized RX4, Cond.code yX4_giveUp cX4_giveUp 1 (some .int), Cond.classLink RX4 64 "java/lang/IllegalStateException", Cond.initialized "java/lang/IllegalStateException", Cond.fieldLink RX4 31 "TypingTutor" "current" "LTypingTutor$Lesson;", Cond.methodLink RX4 104 yX2_isRunning, Cond.instanceMethod yX2_isRunning, Cond.selects RX2 yX2_isRunning yX2_isRunning, Cond.initialized RX2, Cond.code yX2_isRunning cX2_isRunning 1 (some .boolean), Cond.fieldLink RX2 24 "TypingTutor$Lesson" "running" "Z", Cond.methodLink RX4 128 yX2_stop, Cond.instanceMethod yX2_stop, Cond.selects RX2 yX2_stop yX2_stop, Cond.code yX2_stop cX2_stop 1 none, Cond.methodLink RX4 123 yX2_letterTotal, Cond.instanceMethod yX2_letterTotal, Cond.selects RX2 yX2_letterTotal yX2_letterTotal, Cond.code yX2_letterTotal cX2_letterTotal 1 (some .int), Cond.fieldLink RX2 32 "TypingTutor$Lesson" "letterCount" "I"]
def wsL_giveUp_r2 : List Cond := [Cond.methodLink RX4 131 yX2_triedTotal, Cond.instanceMethod yX2_triedTotal, Cond.selects RX2 yX2_triedTotal yX2_triedTotal, Cond.code yX2_triedTotal cX2_triedTotal 1 (some .int), Cond.fieldLink RX2 35 "TypingTutor$Lesson" "tried" "I"]
def wsL_giveUp : List Cond := .codeWith yL_giveUp cL_giveUp 3 (some .int) [(0, 8, 11, 15)] :: ((wsL_giveUp_r1 ++ wsL_giveUp_r2) ++ wsX40 ++ wsX20 ++ (vx_atS RX4 68 "java/lang/IllegalStateException" ["java/lang/RuntimeException", "java/lang/Exception"]).filter goodWord)
def wsL_lessonWord_r1 : List Cond := [Cond.classLink RL 15 "java/lang/IllegalStateException", Cond.classLink RL 21 "java/lang/IndexOutOfBoundsException", Cond.methodLink RL 41 yX4_lessonWord, Cond.instanceMethod yX4_lessonWord, Cond.selects RX4 yX4_lessonWord yX4_lessonWord, Cond.initialized RX4, Cond.code yX4_lessonWord cX4_lessonWord 2 (some .int), Cond.classLink RX4 64 "java/lang/IllegalStateException", Cond.initialized "java/lang/IllegalStateException", Cond.classLink RX4 81 "java/lang/IndexOutOfBoundsException", Cond.initialized "java/lang/IndexOutOfBoundsException", Cond.fieldLink RX4 31 "TypingTutor" "current" "LTypingTutor$Lesson;", Cond.methodLink RX4 104 yX2_isRunning, Cond.instanceMethod yX2_isRunning, Cond.selects RX2 yX2_isRunning yX2_isRunning, Cond.initialized RX2, Cond.code yX2_isRunning cX2_isRunning 1 (some .boolean), Cond.fieldLink RX2 24 "TypingTutor$Lesson" "running" "Z", Cond.methodLink RX4 118 yX2_wordTotal, Cond.instanceMethod yX2_wordTotal, Cond.selects RX2 yX2_wordTotal yX2_wordTotal, Cond.code yX2_wordTotal cX2_wordTotal 1 (some .int), Cond.fieldLink RX2 28 "TypingTutor$Lesson" "wordCount" "I", Cond.methodLink RX4 136 yX2_numberAt]
def wsL_lessonWord_r2 : List Cond := [Cond.instanceMethod yX2_numberAt, Cond.selects RX2 yX2_numberAt yX2_numberAt, Cond.code yX2_numberAt cX2_numberAt 2 (some .int), Cond.fieldLink RX2 9 "TypingTutor$Lesson" "numbers" "[I", Cond.static yX4_read, Cond.code yX4_read cX4_read 2 (some .int)]
def wsL_lessonWord : List Cond := .codeWith yL_lessonWord cL_lessonWord 4 (some .int) [(0, 9, 12, 15), (0, 9, 15, 21)] :: ((wsL_lessonWord_r1 ++ wsL_lessonWord_r2) ++ wsX40 ++ wsX20 ++ (vx_atS RX4 68 "java/lang/IllegalStateException" ["java/lang/RuntimeException", "java/lang/Exception"]).filter goodWord ++ (vx_atS RX4 85 "java/lang/IndexOutOfBoundsException" ["java/lang/RuntimeException", "java/lang/Exception"]).filter goodWord)
def wsL_wanted : List Cond := .codeWith yL_wanted cL_wanted 3 (some .int) [(0, 8, 11, 15)] :: ([.classLink RL 15 "java/lang/IllegalStateException", .methodLink RL 44 yX4_wanted, .instanceMethod yX4_wanted, .selects RX4 yX4_wanted yX4_wanted, .initialized RX4, .code yX4_wanted cX4_wanted 1 (some .int), .classLink RX4 64 "java/lang/IllegalStateException", .initialized "java/lang/IllegalStateException", .fieldLink RX4 31 "TypingTutor" "current" "LTypingTutor$Lesson;", .methodLink RX4 104 yX2_isRunning, .instanceMethod yX2_isRunning, .selects RX2 yX2_isRunning yX2_isRunning, .initialized RX2, .code yX2_isRunning cX2_isRunning 1 (some .boolean), .fieldLink RX2 24 "TypingTutor$Lesson" "running" "Z", .methodLink RX4 140 yX2_letterHere, .instanceMethod yX2_letterHere, .selects RX2 yX2_letterHere yX2_letterHere, .code yX2_letterHere cX2_letterHere 1 (some .int), .fieldLink RX2 15 "TypingTutor$Lesson" "letters" "[I", .fieldLink RX2 35 "TypingTutor$Lesson" "tried" "I", .static yX4_read, .code yX4_read cX4_read 2 (some .int)] ++ wsX40 ++ wsX20 ++ (vx_atS RX4 68 "java/lang/IllegalStateException" ["java/lang/RuntimeException", "java/lang/Exception"]).filter goodWord)
def wsL_done : List Cond := .codeWith yL_done cL_done 3 (some .int) [(0, 8, 11, 15)] :: ([.classLink RL 15 "java/lang/IllegalStateException", .methodLink RL 47 yX4_done, .instanceMethod yX4_done, .selects RX4 yX4_done yX4_done, .initialized RX4, .code yX4_done cX4_done 1 (some .int), .classLink RX4 64 "java/lang/IllegalStateException", .initialized "java/lang/IllegalStateException", .fieldLink RX4 31 "TypingTutor" "current" "LTypingTutor$Lesson;", .methodLink RX4 104 yX2_isRunning, .instanceMethod yX2_isRunning, .selects RX2 yX2_isRunning yX2_isRunning, .initialized RX2, .code yX2_isRunning cX2_isRunning 1 (some .boolean), .fieldLink RX2 24 "TypingTutor$Lesson" "running" "Z", .methodLink RX4 131 yX2_triedTotal, .instanceMethod yX2_triedTotal, .selects RX2 yX2_triedTotal yX2_triedTotal, .code yX2_triedTotal cX2_triedTotal 1 (some .int), .fieldLink RX2 35 "TypingTutor$Lesson" "tried" "I"] ++ wsX40 ++ wsX20 ++ (vx_atS RX4 68 "java/lang/IllegalStateException" ["java/lang/RuntimeException", "java/lang/Exception"]).filter goodWord)
def wsL_strike_r1 : List Cond := [Cond.classLink RL 21 "java/lang/IndexOutOfBoundsException", Cond.classLink RL 13 "java/lang/IllegalArgumentException", Cond.classLink RL 15 "java/lang/IllegalStateException", Cond.methodLink RL 50 yX4_strike, Cond.instanceMethod yX4_strike, Cond.selects RX4 yX4_strike yX4_strike, Cond.initialized RX4, Cond.code yX4_strike cX4_strike 4 (some .int), Cond.classLink RX4 81 "java/lang/IndexOutOfBoundsException", Cond.initialized "java/lang/IndexOutOfBoundsException", Cond.classLink RX4 50 "java/lang/IllegalArgumentException", Cond.initialized "java/lang/IllegalArgumentException", Cond.classLink RX4 64 "java/lang/IllegalStateException", Cond.initialized "java/lang/IllegalStateException", Cond.fieldLink RX4 31 "TypingTutor" "current" "LTypingTutor$Lesson;", Cond.fieldLink RX4 42 "TypingTutor" "mistakeCounts" "[I", Cond.methodLink RX4 93 yX4_isKey, Cond.static yX4_isKey, Cond.code yX4_isKey cX4_isKey 1 (some .boolean), Cond.methodLink RX4 104 yX2_isRunning, Cond.instanceMethod yX2_isRunning, Cond.selects RX2 yX2_isRunning yX2_isRunning, Cond.initialized RX2, Cond.code yX2_isRunning cX2_isRunning 1 (some .boolean)]
def wsL_strike_r2 : List Cond := [Cond.fieldLink RX2 24 "TypingTutor$Lesson" "running" "Z", Cond.methodLink RX4 145 yX4_kindOfStroke, Cond.instanceMethod yX4_kindOfStroke, Cond.selects RX4 yX4_kindOfStroke yX4_kindOfStroke, Cond.code yX4_kindOfStroke cX4_kindOfStroke 3 (some .int), Cond.methodLink RX4 140 yX2_letterHere, Cond.instanceMethod yX2_letterHere, Cond.selects RX2 yX2_letterHere yX2_letterHere, Cond.code yX2_letterHere cX2_letterHere 1 (some .int), Cond.fieldLink RX2 15 "TypingTutor$Lesson" "letters" "[I", Cond.fieldLink RX2 35 "TypingTutor$Lesson" "tried" "I", Cond.static yX4_read, Cond.code yX4_read cX4_read 2 (some .int), Cond.methodLink RX4 255 yX2_letterAfter, Cond.instanceMethod yX2_letterAfter, Cond.selects RX2 yX2_letterAfter yX2_letterAfter, Cond.code yX2_letterAfter cX2_letterAfter 1 (some .int), Cond.methodLink RX2 51 yX2_letterInSameWord, Cond.instanceMethod yX2_letterInSameWord, Cond.selects RX2 yX2_letterInSameWord yX2_letterInSameWord, Cond.code yX2_letterInSameWord cX2_letterInSameWord 2 (some .int), Cond.fieldLink RX2 32 "TypingTutor$Lesson" "letterCount" "I", Cond.fieldLink RX2 18 "TypingTutor$Lesson" "owners" "[I", Cond.methodLink RX4 258 yX2_letterBefore]
def wsL_strike_r3 : List Cond := [Cond.instanceMethod yX2_letterBefore, Cond.selects RX2 yX2_letterBefore yX2_letterBefore, Cond.code yX2_letterBefore cX2_letterBefore 1 (some .int), Cond.methodLink RX4 98 yX4_standSideBySide, Cond.static yX4_standSideBySide, Cond.code yX4_standSideBySide cX4_standSideBySide 4 (some .boolean), Cond.fieldLink RX4 216 "TypingTutor" "KEY_ROW" "[I", Cond.methodLink RX4 219 Lib.Math.abs.name, Cond.static Lib.Math.abs.name, Cond.initialized "java/lang/Math", Cond.code Lib.Math.abs.name Lib.Math.abs.code 1 (some .int), Cond.fieldLink RX4 224 "TypingTutor" "KEY_PLACE" "[I", Cond.methodLink RX4 152 yX4_read, Cond.methodLink RX4 148 yX2_noteStroke, Cond.instanceMethod yX2_noteStroke, Cond.selects RX2 yX2_noteStroke yX2_noteStroke, Cond.code yX2_noteStroke cX2_noteStroke 3 none, Cond.fieldLink RX2 41 "TypingTutor$Lesson" "times" "I", Cond.fieldLink RX2 44 "TypingTutor$Lesson" "misses" "I", Cond.methodLink RX4 156 yX4_write, Cond.static yX4_write, Cond.code yX4_write cX4_write 3 none, Cond.methodLink RX4 160 yX2_mistakesHere, Cond.instanceMethod yX2_mistakesHere]
def wsL_strike_r4 : List Cond := [Cond.selects RX2 yX2_mistakesHere yX2_mistakesHere, Cond.code yX2_mistakesHere cX2_mistakesHere 1 (some .int), Cond.methodLink RX4 163 yX4_tryLetter, Cond.instanceMethod yX4_tryLetter, Cond.selects RX4 yX4_tryLetter yX4_tryLetter, Cond.code yX4_tryLetter cX4_tryLetter 5 none, Cond.fieldLink RX4 21 "TypingTutor" "keys" "LTypingTutor$Knowledge;", Cond.fieldLink RX4 25 "TypingTutor" "pairs" "LTypingTutor$Knowledge;", Cond.fieldLink RX4 38 "TypingTutor" "past" "LTypingTutor$History;", Cond.methodLink RX4 261 yX1_learn, Cond.instanceMethod yX1_learn, Cond.selects RX1 yX1_learn yX1_learn, Cond.initialized RX1, Cond.code yX1_learn cX1_learn 6 none, Cond.methodLink RX1 9 Lib.Math.max.name, Cond.static Lib.Math.max.name, Cond.code Lib.Math.max.name Lib.Math.max.code 2 (some .int), Cond.fieldLink RX1 24 "TypingTutor$Knowledge" "levels" "[I", Cond.fieldLink RX1 15 "TypingTutor$Knowledge" "tries" "[I", Cond.fieldLink RX1 21 "TypingTutor$Knowledge" "misses" "[I", Cond.methodLink RX4 174 yX4_pairOf, Cond.static yX4_pairOf, Cond.code yX4_pairOf cX4_pairOf 2 (some .int), Cond.methodLink RX4 265 yX2_goOn]
def wsL_strike_r5 : List Cond := [Cond.instanceMethod yX2_goOn, Cond.selects RX2 yX2_goOn yX2_goOn, Cond.code yX2_goOn cX2_goOn 2 none, Cond.fieldLink RX2 38 "TypingTutor$Lesson" "clean" "I", Cond.methodLink RX4 131 yX2_triedTotal, Cond.instanceMethod yX2_triedTotal, Cond.selects RX2 yX2_triedTotal yX2_triedTotal, Cond.code yX2_triedTotal cX2_triedTotal 1 (some .int), Cond.methodLink RX4 123 yX2_letterTotal, Cond.instanceMethod yX2_letterTotal, Cond.selects RX2 yX2_letterTotal yX2_letterTotal, Cond.code yX2_letterTotal cX2_letterTotal 1 (some .int), Cond.methodLink RX4 128 yX2_stop, Cond.instanceMethod yX2_stop, Cond.selects RX2 yX2_stop yX2_stop, Cond.code yX2_stop cX2_stop 1 none, Cond.methodLink RX4 269 yX2_cleanTotal, Cond.instanceMethod yX2_cleanTotal, Cond.selects RX2 yX2_cleanTotal yX2_cleanTotal, Cond.code yX2_cleanTotal cX2_cleanTotal 1 (some .int), Cond.methodLink RX4 272 yX2_timeSum, Cond.instanceMethod yX2_timeSum, Cond.selects RX2 yX2_timeSum yX2_timeSum, Cond.code yX2_timeSum cX2_timeSum 1 (some .int)]
def wsL_strike_r6 : List Cond := [Cond.methodLink RX4 275 yX0_keep, Cond.instanceMethod yX0_keep, Cond.selects RX0 yX0_keep yX0_keep, Cond.initialized RX0, Cond.code yX0_keep cX0_keep 4 none, Cond.fieldLink RX0 21 "TypingTutor$History" "count" "I", Cond.fieldLink RX0 9 "TypingTutor$History" "letters" "[I", Cond.fieldLink RX0 15 "TypingTutor$History" "cleans" "[I", Cond.fieldLink RX0 18 "TypingTutor$History" "times" "[I", Cond.fieldLink RX0 28 "TypingTutor$History" "letterSum" "I", Cond.fieldLink RX0 31 "TypingTutor$History" "cleanSum" "I", Cond.fieldLink RX0 25 "TypingTutor$History" "pace" "I", Cond.methodLink RX0 53 yX0_paceBehind, Cond.instanceMethod yX0_paceBehind, Cond.selects RX0 yX0_paceBehind yX0_paceBehind, Cond.code yX0_paceBehind cX0_paceBehind 4 (some .int), Cond.methodLink RX0 43 Lib.Math.max.name, Cond.methodLink RX0 56 Lib.Math.min.name, Cond.static Lib.Math.min.name, Cond.code Lib.Math.min.name Lib.Math.min.code 2 (some .int)]
def wsL_strike : List Cond := .codeWith yL_strike cL_strike 5 (some .int) [(0, 10, 13, 21), (0, 10, 17, 13), (0, 10, 21, 15)] :: ((wsL_strike_r1 ++ (wsL_strike_r2 ++ (wsL_strike_r3 ++ (wsL_strike_r4 ++ (wsL_strike_r5 ++ wsL_strike_r6))))) ++ wsX40 ++ wsX20 ++ wsX10 ++ wsX00 ++ (vx_atS RX4 85 "java/lang/IndexOutOfBoundsException" ["java/lang/RuntimeException", "java/lang/Exception"]).filter goodWord ++ (vx_atS RX4 54 "java/lang/IllegalArgumentException" ["java/lang/RuntimeException", "java/lang/Exception"]).filter goodWord ++ (vx_atS RX4 68 "java/lang/IllegalStateException" ["java/lang/RuntimeException", "java/lang/Exception"]).filter goodWord)
def wsL_key : List Cond := .codeWith yL_key cL_key 5 (some .int) [(0, 10, 13, 21)] :: ([.classLink RL 21 "java/lang/IndexOutOfBoundsException", .methodLink RL 54 yX4_key, .instanceMethod yX4_key, .selects RX4 yX4_key yX4_key, .initialized RX4, .code yX4_key cX4_key 3 (some .int), .classLink RX4 81 "java/lang/IndexOutOfBoundsException", .initialized "java/lang/IndexOutOfBoundsException", .fieldLink RX4 21 "TypingTutor" "keys" "LTypingTutor$Knowledge;", .methodLink RX4 93 yX4_isKey, .static yX4_isKey, .code yX4_isKey cX4_isKey 1 (some .boolean), .methodLink RX4 168 yX1_tell, .instanceMethod yX1_tell, .selects RX1 yX1_tell yX1_tell, .initialized RX1, .code yX1_tell cX1_tell 3 (some .int), .fieldLink RX1 15 "TypingTutor$Knowledge" "tries" "[I", .fieldLink RX1 21 "TypingTutor$Knowledge" "misses" "[I", .fieldLink RX1 24 "TypingTutor$Knowledge" "levels" "[I", .static yX4_read, .code yX4_read cX4_read 2 (some .int)] ++ wsX40 ++ wsX10 ++ (vx_atS RX4 85 "java/lang/IndexOutOfBoundsException" ["java/lang/RuntimeException", "java/lang/Exception"]).filter goodWord)
def wsL_pair_r1 : List Cond := [Cond.classLink RL 21 "java/lang/IndexOutOfBoundsException", Cond.methodLink RL 57 yX4_pair, Cond.instanceMethod yX4_pair, Cond.selects RX4 yX4_pair yX4_pair, Cond.initialized RX4, Cond.code yX4_pair cX4_pair 5 (some .int), Cond.classLink RX4 81 "java/lang/IndexOutOfBoundsException", Cond.initialized "java/lang/IndexOutOfBoundsException", Cond.fieldLink RX4 25 "TypingTutor" "pairs" "LTypingTutor$Knowledge;", Cond.methodLink RX4 93 yX4_isKey, Cond.static yX4_isKey, Cond.code yX4_isKey cX4_isKey 1 (some .boolean), Cond.methodLink RX4 174 yX4_pairOf, Cond.static yX4_pairOf, Cond.code yX4_pairOf cX4_pairOf 2 (some .int), Cond.methodLink RX4 177 yX4_weaknessOf, Cond.instanceMethod yX4_weaknessOf, Cond.selects RX4 yX4_weaknessOf yX4_weaknessOf, Cond.code yX4_weaknessOf cX4_weaknessOf 3 (some .int), Cond.methodLink RX4 237 yX1_levelOf, Cond.instanceMethod yX1_levelOf, Cond.selects RX1 yX1_levelOf yX1_levelOf, Cond.initialized RX1, Cond.code yX1_levelOf cX1_levelOf 2 (some .int)]
def wsL_pair_r2 : List Cond := [Cond.fieldLink RX1 24 "TypingTutor$Knowledge" "levels" "[I", Cond.static yX4_read, Cond.code yX4_read cX4_read 2 (some .int), Cond.methodLink RX4 180 yX1_triesOf, Cond.instanceMethod yX1_triesOf, Cond.selects RX1 yX1_triesOf yX1_triesOf, Cond.code yX1_triesOf cX1_triesOf 2 (some .int), Cond.fieldLink RX1 15 "TypingTutor$Knowledge" "tries" "[I", Cond.methodLink RX4 168 yX1_tell, Cond.instanceMethod yX1_tell, Cond.selects RX1 yX1_tell yX1_tell, Cond.code yX1_tell cX1_tell 3 (some .int), Cond.fieldLink RX1 21 "TypingTutor$Knowledge" "misses" "[I"]
def wsL_pair : List Cond := .codeWith yL_pair cL_pair 6 (some .int) [(0, 12, 15, 21)] :: ((wsL_pair_r1 ++ wsL_pair_r2) ++ wsX40 ++ wsX10 ++ (vx_atS RX4 85 "java/lang/IndexOutOfBoundsException" ["java/lang/RuntimeException", "java/lang/Exception"]).filter goodWord)
def wsL_mistakes : List Cond := .codeWith yL_mistakes cL_mistakes 4 (some .int) [(0, 9, 12, 21)] :: ([.classLink RL 21 "java/lang/IndexOutOfBoundsException", .methodLink RL 61 yX4_mistakes, .instanceMethod yX4_mistakes, .selects RX4 yX4_mistakes yX4_mistakes, .initialized RX4, .code yX4_mistakes cX4_mistakes 2 (some .int), .classLink RX4 81 "java/lang/IndexOutOfBoundsException", .initialized "java/lang/IndexOutOfBoundsException", .fieldLink RX4 42 "TypingTutor" "mistakeCounts" "[I", .methodLink RX4 152 yX4_read, .static yX4_read, .code yX4_read cX4_read 2 (some .int)] ++ wsX40 ++ (vx_atS RX4 85 "java/lang/IndexOutOfBoundsException" ["java/lang/RuntimeException", "java/lang/Exception"]).filter goodWord)
def wsL_lesson_r1 : List Cond := [Cond.classLink RL 21 "java/lang/IndexOutOfBoundsException", Cond.methodLink RL 64 yX4_lesson, Cond.instanceMethod yX4_lesson, Cond.selects RX4 yX4_lesson yX4_lesson, Cond.initialized RX4, Cond.code yX4_lesson cX4_lesson 3 (some .int), Cond.classLink RX4 81 "java/lang/IndexOutOfBoundsException", Cond.initialized "java/lang/IndexOutOfBoundsException", Cond.fieldLink RX4 38 "TypingTutor" "past" "LTypingTutor$History;", Cond.methodLink RX4 185 yX0_size, Cond.instanceMethod yX0_size, Cond.selects RX0 yX0_size yX0_size, Cond.initialized RX0, Cond.code yX0_size cX0_size 1 (some .int), Cond.fieldLink RX0 21 "TypingTutor$History" "count" "I", Cond.methodLink RX4 188 yX0_tell, Cond.instanceMethod yX0_tell, Cond.selects RX0 yX0_tell yX0_tell, Cond.code yX0_tell cX0_tell 3 (some .int), Cond.fieldLink RX0 9 "TypingTutor$History" "letters" "[I", Cond.fieldLink RX0 15 "TypingTutor$History" "cleans" "[I", Cond.fieldLink RX0 18 "TypingTutor$History" "times" "[I", Cond.static yX4_read, Cond.code yX4_read cX4_read 2 (some .int)]
def wsL_lesson_r2 : List Cond := [Cond.methodLink RX0 38 yX0_speedOf, Cond.instanceMethod yX0_speedOf, Cond.selects RX0 yX0_speedOf yX0_speedOf, Cond.code yX0_speedOf cX0_speedOf 3 (some .int), Cond.constant RX0 42 (60000)]
def wsL_lesson : List Cond := .codeWith yL_lesson cL_lesson 5 (some .int) [(0, 10, 13, 21)] :: ((wsL_lesson_r1 ++ wsL_lesson_r2) ++ wsX40 ++ wsX00 ++ (vx_atS RX4 85 "java/lang/IndexOutOfBoundsException" ["java/lang/RuntimeException", "java/lang/Exception"]).filter goodWord)
def wsL_law0_r1 : List Cond := [Cond.classLink RL 8 RX4, Cond.instantiable RX4 6, Cond.initialized RX4, Cond.classLink RL 68 RX5, Cond.instantiable RX5 20, Cond.initialized RX5, Cond.arrayClass .long, Cond.constantLong RL 71 (4294967295), Cond.methodLink RL 67 yX4_init, Cond.instanceMethod yX4_init, Cond.code yX4_init cX4_init 1 none, Cond.methodLink RX4 3 objectInit, Cond.instanceMethod objectInit, Cond.code objectInit ⟨#[0xb1]⟩ 1 none, Cond.classLink RX4 9 RX3, Cond.instantiable RX3 2, Cond.initialized RX3, Cond.fieldLink RX4 12 "TypingTutor" "list" "LTypingTutor$WordList;", Cond.classLink RX4 16 RX1, Cond.instantiable RX1 3, Cond.initialized RX1, Cond.fieldLink RX4 21 "TypingTutor" "keys" "LTypingTutor$Knowledge;", Cond.fieldLink RX4 25 "TypingTutor" "pairs" "LTypingTutor$Knowledge;", Cond.classLink RX4 28 RX2]
def wsL_law0_r2 : List Cond := [Cond.instantiable RX2 11, Cond.initialized RX2, Cond.fieldLink RX4 31 "TypingTutor" "current" "LTypingTutor$Lesson;", Cond.classLink RX4 35 RX0, Cond.instantiable RX0 7, Cond.initialized RX0, Cond.fieldLink RX4 38 "TypingTutor" "past" "LTypingTutor$History;", Cond.arrayClass .int, Cond.fieldLink RX4 42 "TypingTutor" "mistakeCounts" "[I", Cond.instanceMethod yX3_init, Cond.code yX3_init cX3_init 1 none, Cond.methodLink RX3 3 objectInit, Cond.fieldLink RX3 9 "TypingTutor$WordList" "words" "[J", Cond.fieldLink RX3 15 "TypingTutor$WordList" "count" "I", Cond.methodLink RX4 18 yX1_init, Cond.instanceMethod yX1_init, Cond.code yX1_init cX1_init 3 none, Cond.methodLink RX1 3 objectInit, Cond.methodLink RX1 9 Lib.Math.max.name, Cond.static Lib.Math.max.name, Cond.initialized "java/lang/Math", Cond.code Lib.Math.max.name Lib.Math.max.code 2 (some .int), Cond.fieldLink RX1 15 "TypingTutor$Knowledge" "tries" "[I", Cond.fieldLink RX1 21 "TypingTutor$Knowledge" "misses" "[I"]
def wsL_law0_r3 : List Cond := [Cond.fieldLink RX1 24 "TypingTutor$Knowledge" "levels" "[I", Cond.methodLink RX1 27 yJ7_fill_53178, Cond.static yJ7_fill_53178, Cond.initialized RJ7, Cond.code yJ7_fill_53178 cJ7_fill_53178 4 none, Cond.instanceMethod yX2_init, Cond.code yX2_init cX2_init 1 none, Cond.methodLink RX2 3 objectInit, Cond.fieldLink RX2 9 "TypingTutor$Lesson" "numbers" "[I", Cond.fieldLink RX2 15 "TypingTutor$Lesson" "letters" "[I", Cond.fieldLink RX2 18 "TypingTutor$Lesson" "owners" "[I", Cond.fieldLink RX2 21 "TypingTutor$Lesson" "followers" "[I", Cond.fieldLink RX2 24 "TypingTutor$Lesson" "running" "Z", Cond.fieldLink RX2 28 "TypingTutor$Lesson" "wordCount" "I", Cond.fieldLink RX2 32 "TypingTutor$Lesson" "letterCount" "I", Cond.fieldLink RX2 35 "TypingTutor$Lesson" "tried" "I", Cond.fieldLink RX2 38 "TypingTutor$Lesson" "clean" "I", Cond.fieldLink RX2 41 "TypingTutor$Lesson" "times" "I", Cond.fieldLink RX2 44 "TypingTutor$Lesson" "misses" "I", Cond.instanceMethod yX0_init, Cond.code yX0_init cX0_init 1 none, Cond.methodLink RX0 3 objectInit, Cond.fieldLink RX0 9 "TypingTutor$History" "letters" "[I", Cond.fieldLink RX0 15 "TypingTutor$History" "cleans" "[I"]
def wsL_law0_r4 : List Cond := [Cond.fieldLink RX0 18 "TypingTutor$History" "times" "[I", Cond.fieldLink RX0 21 "TypingTutor$History" "count" "I", Cond.fieldLink RX0 25 "TypingTutor$History" "pace" "I", Cond.fieldLink RX0 28 "TypingTutor$History" "letterSum" "I", Cond.fieldLink RX0 31 "TypingTutor$History" "cleanSum" "I", Cond.methodLink RL 70 yX5_init, Cond.instanceMethod yX5_init, Cond.code yX5_init cX5_init 2 none, Cond.methodLink RX5 1 objectInit, Cond.fieldLink RX5 9 "TypingTutorModel" "list" "[J", Cond.fieldLink RX5 13 "TypingTutorModel" "tries" "[I", Cond.fieldLink RX5 17 "TypingTutorModel" "misses" "[I", Cond.fieldLink RX5 20 "TypingTutorModel" "levels" "[I", Cond.fieldLink RX5 23 "TypingTutorModel" "kindCounts" "[I", Cond.fieldLink RX5 26 "TypingTutorModel" "chosen" "[I", Cond.fieldLink RX5 29 "TypingTutorModel" "text" "[I", Cond.arrayClass .boolean, Cond.fieldLink RX5 32 "TypingTutorModel" "areFirst" "[Z", Cond.fieldLink RX5 36 "TypingTutorModel" "history" "[I", Cond.fieldLink RX5 39 "TypingTutorModel" "pace" "I", Cond.methodLink RL 73 yL_addWord, Cond.static yL_addWord, Cond.initialized RL, Cond.codeWith yL_addWord cL_addWord 5 (some .int) [(0, 9, 12, 13), (0, 9, 16, 15)]]
def wsL_law0_r5 : List Cond := [Cond.classLink RL 13 "java/lang/IllegalArgumentException", Cond.classLink RL 15 "java/lang/IllegalStateException", Cond.methodLink RL 7 yX4_addWord, Cond.instanceMethod yX4_addWord, Cond.selects RX4 yX4_addWord yX4_addWord, Cond.code yX4_addWord cX4_addWord 3 (some .int), Cond.classLink RX4 50 "java/lang/IllegalArgumentException", Cond.initialized "java/lang/IllegalArgumentException", Cond.classLink RX4 64 "java/lang/IllegalStateException", Cond.initialized "java/lang/IllegalStateException", Cond.methodLink RX4 46 yX4_tellsWord, Cond.static yX4_tellsWord, Cond.code yX4_tellsWord cX4_tellsWord 7 (some .boolean), Cond.constantLong RX4 227 (255), Cond.constantLong RX4 229 (97), Cond.constantLong RX4 231 (122), Cond.methodLink RX4 57 yX3_isFull, Cond.instanceMethod yX3_isFull, Cond.selects RX3 yX3_isFull yX3_isFull, Cond.code yX3_isFull cX3_isFull 1 (some .boolean), Cond.methodLink RX4 61 yX3_holds, Cond.instanceMethod yX3_holds, Cond.selects RX3 yX3_holds yX3_holds, Cond.code yX3_holds cX3_holds 4 (some .boolean)]
def wsL_law0_r6 : List Cond := [Cond.methodLink RX3 19 yX3_wordAt, Cond.instanceMethod yX3_wordAt, Cond.selects RX3 yX3_wordAt yX3_wordAt, Cond.code yX3_wordAt cX3_wordAt 2 (some .long), Cond.methodLink RX4 69 yX3_append, Cond.instanceMethod yX3_append, Cond.selects RX3 yX3_append yX3_append, Cond.code yX3_append cX3_append 3 (some .int), Cond.methodLink RL 78 yX5_addWord, Cond.instanceMethod yX5_addWord, Cond.selects RX5 yX5_addWord yX5_addWord, Cond.code yX5_addWord cX5_addWord 4 (some .int), Cond.fieldLink RX5 43 "TypingTutorModel" "thrown" "I", Cond.fieldLink RX5 46 "TypingTutorModel" "words" "I", Cond.methodLink RX5 63 yX5_isWord, Cond.static yX5_isWord, Cond.code yX5_isWord cX5_isWord 4 (some .boolean), Cond.methodLink RX5 49 yX5_size, Cond.static yX5_size, Cond.code yX5_size cX5_size 3 (some .int), Cond.methodLink RX5 55 yX5_letter, Cond.static yX5_letter, Cond.code yX5_letter cX5_letter 3 (some .int), Cond.constantLong RX5 53 (255)]
def wsL_law0_r7 : List Cond := [Cond.methodLink RX5 59 yX5_isKey, Cond.static yX5_isKey, Cond.code yX5_isKey cX5_isKey 1 (some .boolean), Cond.methodLink RX5 67 yX5_fail, Cond.instanceMethod yX5_fail, Cond.selects RX5 yX5_fail yX5_fail, Cond.code yX5_fail cX5_fail 2 (some .int), Cond.methodLink RL 79 yX5_thrown, Cond.instanceMethod yX5_thrown, Cond.selects RX5 yX5_thrown yX5_thrown, Cond.code yX5_thrown cX5_thrown 1 (some .int), Cond.methodLink RL 82 yX4_wordCount, Cond.instanceMethod yX4_wordCount, Cond.selects RX4 yX4_wordCount yX4_wordCount, Cond.code yX4_wordCount cX4_wordCount 1 (some .int), Cond.methodLink RX4 73 yX3_size, Cond.instanceMethod yX3_size, Cond.selects RX3 yX3_size yX3_size, Cond.code yX3_size cX3_size 1 (some .int), Cond.methodLink RL 85 yX5_wordCount, Cond.instanceMethod yX5_wordCount, Cond.selects RX5 yX5_wordCount yX5_wordCount, Cond.code yX5_wordCount cX5_wordCount 1 (some .int), Cond.methodLink RL 86 yL_word]
def wsL_law0_r8 : List Cond := [Cond.static yL_word, Cond.codeWith yL_word cL_word 4 (some .int) [(0, 8, 11, 21)], Cond.classLink RL 21 "java/lang/IndexOutOfBoundsException", Cond.methodLink RL 17 yX4_word, Cond.instanceMethod yX4_word, Cond.selects RX4 yX4_word yX4_word, Cond.code yX4_word cX4_word 2 (some .long), Cond.classLink RX4 81 "java/lang/IndexOutOfBoundsException", Cond.initialized "java/lang/IndexOutOfBoundsException", Cond.methodLink RX4 77 yX3_hasNumber, Cond.instanceMethod yX3_hasNumber, Cond.selects RX3 yX3_hasNumber yX3_hasNumber, Cond.code yX3_hasNumber cX3_hasNumber 2 (some .boolean), Cond.methodLink RX4 86 yX3_wordAt, Cond.methodLink RL 89 yX5_word, Cond.instanceMethod yX5_word, Cond.selects RX5 yX5_word yX5_word, Cond.code yX5_word cX5_word 2 (some .long), Cond.methodLink RX5 71 yX5_isNumber, Cond.instanceMethod yX5_isNumber, Cond.selects RX5 yX5_isNumber yX5_isNumber, Cond.code yX5_isNumber cX5_isNumber 2 (some .boolean), Cond.methodLink RL 90 yL_weight, Cond.static yL_weight]
def wsL_law0_r9 : List Cond := [Cond.codeWith yL_weight cL_weight 4 (some .int) [(0, 9, 12, 21)], Cond.methodLink RL 23 yX4_weight, Cond.instanceMethod yX4_weight, Cond.selects RX4 yX4_weight yX4_weight, Cond.code yX4_weight cX4_weight 2 (some .int), Cond.methodLink RX4 90 yX4_weightOf, Cond.instanceMethod yX4_weightOf, Cond.selects RX4 yX4_weightOf yX4_weightOf, Cond.code yX4_weightOf cX4_weightOf 6 (some .int), Cond.methodLink RX4 240 yX4_lengthOf, Cond.static yX4_lengthOf, Cond.code yX4_lengthOf cX4_lengthOf 3 (some .int), Cond.methodLink RX4 233 yX4_letterOf, Cond.static yX4_letterOf, Cond.code yX4_letterOf cX4_letterOf 4 (some .int), Cond.methodLink RX4 237 yX1_levelOf, Cond.instanceMethod yX1_levelOf, Cond.selects RX1 yX1_levelOf yX1_levelOf, Cond.code yX1_levelOf cX1_levelOf 2 (some .int), Cond.static yX4_read, Cond.code yX4_read cX4_read 2 (some .int), Cond.methodLink RX4 243 yX4_pairAt, Cond.static yX4_pairAt, Cond.code yX4_pairAt cX4_pairAt 4 (some .int)]
def wsL_law0_r10 : List Cond := [Cond.methodLink RX4 174 yX4_pairOf, Cond.static yX4_pairOf, Cond.code yX4_pairOf cX4_pairOf 2 (some .int), Cond.methodLink RX4 177 yX4_weaknessOf, Cond.instanceMethod yX4_weaknessOf, Cond.selects RX4 yX4_weaknessOf yX4_weaknessOf, Cond.code yX4_weaknessOf cX4_weaknessOf 3 (some .int), Cond.methodLink RX4 180 yX1_triesOf, Cond.instanceMethod yX1_triesOf, Cond.selects RX1 yX1_triesOf yX1_triesOf, Cond.code yX1_triesOf cX1_triesOf 2 (some .int), Cond.methodLink RL 92 yX5_weight, Cond.instanceMethod yX5_weight, Cond.selects RX5 yX5_weight yX5_weight, Cond.code yX5_weight cX5_weight 2 (some .int), Cond.methodLink RX5 81 yX5_weightOf, Cond.instanceMethod yX5_weightOf, Cond.selects RX5 yX5_weightOf yX5_weightOf, Cond.code yX5_weightOf cX5_weightOf 6 (some .int), Cond.methodLink RX5 78 yX5_weakness, Cond.instanceMethod yX5_weakness, Cond.selects RX5 yX5_weakness yX5_weakness, Cond.code yX5_weakness cX5_weakness 4 (some .int), Cond.methodLink RX5 74 yX5_pairOf]
def wsL_law0_r11 : List Cond := [Cond.static yX5_pairOf, Cond.code yX5_pairOf cX5_pairOf 2 (some .int), Cond.methodLink RL 93 yL_areNeighbours, Cond.static yL_areNeighbours, Cond.codeWith yL_areNeighbours cL_areNeighbours 5 (some .int) [(0, 17, 20, 21)], Cond.methodLink RL 27 yX4_areNeighbours, Cond.instanceMethod yX4_areNeighbours, Cond.selects RX4 yX4_areNeighbours yX4_areNeighbours, Cond.code yX4_areNeighbours cX4_areNeighbours 3 (some .boolean), Cond.methodLink RX4 93 yX4_isKey, Cond.static yX4_isKey, Cond.code yX4_isKey cX4_isKey 1 (some .boolean), Cond.methodLink RX4 98 yX4_standSideBySide, Cond.static yX4_standSideBySide, Cond.code yX4_standSideBySide cX4_standSideBySide 4 (some .boolean), Cond.fieldLink RX4 216 "TypingTutor" "KEY_ROW" "[I", Cond.methodLink RX4 219 Lib.Math.abs.name, Cond.static Lib.Math.abs.name, Cond.code Lib.Math.abs.name Lib.Math.abs.code 1 (some .int), Cond.fieldLink RX4 224 "TypingTutor" "KEY_PLACE" "[I", Cond.methodLink RX4 152 yX4_read, Cond.methodLink RL 96 yX5_areNeighbours, Cond.instanceMethod yX5_areNeighbours, Cond.selects RX5 yX5_areNeighbours yX5_areNeighbours]
def wsL_law0_r12 : List Cond := [Cond.code yX5_areNeighbours cX5_areNeighbours 3 (some .boolean), Cond.methodLink RX5 96 yX5_nearTo, Cond.static yX5_nearTo, Cond.code yX5_nearTo cX5_nearTo 6 (some .boolean), Cond.methodLink RX5 91 Lib.Math.abs.name, Cond.methodLink RX5 86 yJ0_indexOf_0f7a4, Cond.instanceMethod yJ0_indexOf_0f7a4, Cond.selects RJ0 yJ0_indexOf_0f7a4 yJ0_indexOf_0f7a4, Cond.initialized RJ0, Cond.code yJ0_indexOf_0f7a4 cJ0_indexOf_0f7a4 2 (some .int), Cond.methodLink RJ0 633 yJ0_indexOf_7cf53, Cond.instanceMethod yJ0_indexOf_7cf53, Cond.selects RJ0 yJ0_indexOf_7cf53 yJ0_indexOf_7cf53, Cond.code yJ0_indexOf_7cf53 cJ0_indexOf_7cf53 3 (some .int), Cond.fieldLink RJ0 9 "java/lang/String" "value" "[B", Cond.methodLink RJ0 492 yJ0_isLatin1_aae02, Cond.instanceMethod yJ0_isLatin1_aae02, Cond.selects RJ0 yJ0_isLatin1_aae02 yJ0_isLatin1_aae02, Cond.code yJ0_isLatin1_aae02 cJ0_isLatin1_aae02 1 (some .boolean), Cond.fieldLink RJ0 38 "java/lang/String" "COMPACT_STRINGS" "Z", Cond.fieldLink RJ0 15 "java/lang/String" "coder" "B", Cond.methodLink RJ0 505 yJ0_length_8abf5, Cond.instanceMethod yJ0_length_8abf5, Cond.selects RJ0 yJ0_length_8abf5 yJ0_length_8abf5]
def wsL_law0_r13 : List Cond := [Cond.code yJ0_length_8abf5 cJ0_length_8abf5 1 (some .int), Cond.methodLink RJ0 335 yJ0_coder_7d493, Cond.instanceMethod yJ0_coder_7d493, Cond.selects RJ0 yJ0_coder_7d493 yJ0_coder_7d493, Cond.code yJ0_coder_7d493 cJ0_coder_7d493 1 (some .byte), Cond.methodLink RJ0 637 yJ1_indexOf_4cfef, Cond.static yJ1_indexOf_4cfef, Cond.initialized RJ1, Cond.code yJ1_indexOf_4cfef cJ1_indexOf_4cfef 4 (some .int), Cond.methodLink RJ1 92 Lib.Math.max.name, Cond.methodLink RJ1 38 Lib.Math.min.name, Cond.static Lib.Math.min.name, Cond.code Lib.Math.min.name Lib.Math.min.code 2 (some .int), Cond.methodLink RJ1 88 yJ1_canEncode_9a6ad, Cond.static yJ1_canEncode_9a6ad, Cond.code yJ1_canEncode_9a6ad cJ1_canEncode_9a6ad 1 (some .boolean), Cond.methodLink RJ1 95 yJ1_indexOfChar_4cfef, Cond.static yJ1_indexOfChar_4cfef, Cond.code yJ1_indexOfChar_4cfef cJ1_indexOfChar_4cfef 6 (some .int), Cond.methodLink RJ0 640 yJ2_indexOf_4cfef, Cond.static yJ2_indexOf_4cfef, Cond.initialized RJ2, Cond.code yJ2_indexOf_4cfef cJ2_indexOf_4cfef 4 (some .int), Cond.methodLink RJ2 224 Lib.Math.max.name]
def wsL_law0_r14 : List Cond := [Cond.methodLink RJ2 183 Lib.Math.min.name, Cond.constant RJ2 227 (65536), Cond.methodLink RJ2 228 yJ2_indexOfChar_4cfef, Cond.static yJ2_indexOfChar_4cfef, Cond.code yJ2_indexOfChar_4cfef cJ2_indexOfChar_4cfef 4 (some .int), Cond.methodLink RJ2 96 yJ2_checkBoundsBeginEnd_d044e, Cond.static yJ2_checkBoundsBeginEnd_d044e, Cond.code yJ2_checkBoundsBeginEnd_d044e cJ2_checkBoundsBeginEnd_d044e 3 none, Cond.methodLink RJ2 48 yJ2_length_9d52b, Cond.static yJ2_length_9d52b, Cond.code yJ2_length_9d52b cJ2_length_9d52b 1 (some .int), Cond.methodLink RJ2 241 yJ0_checkBoundsBeginEnd_23922, Cond.static yJ0_checkBoundsBeginEnd_23922, Cond.code yJ0_checkBoundsBeginEnd_23922 cJ0_checkBoundsBeginEnd_23922 3 none, Cond.fieldLink RJ0 1053 "jdk/internal/util/Preconditions" "SIOOBE_FORMATTER" "Ljava/util/function/BiFunction;", Cond.methodLink RJ0 1062 yJ3_checkFromToIndex_8c36e, Cond.static yJ3_checkFromToIndex_8c36e, Cond.initialized RJ3, Cond.code yJ3_checkFromToIndex_8c36e cJ3_checkFromToIndex_8c36e 4 (some .int), Cond.methodLink RJ2 244 yJ2_indexOfCharUnsafe_4cfef, Cond.static yJ2_indexOfCharUnsafe_4cfef, Cond.code yJ2_indexOfCharUnsafe_4cfef cJ2_indexOfCharUnsafe_4cfef 5 (some .int), Cond.methodLink RJ2 71 yJ2_getChar_3b067, Cond.static yJ2_getChar_3b067]
def wsL_law0_r15 : List Cond := [Cond.code yJ2_getChar_3b067 cJ2_getChar_3b067 2 (some .char), Cond.fieldLink RJ2 44 "java/lang/StringUTF16" "$assertionsDisabled" "Z", Cond.fieldLink RJ2 59 "java/lang/StringUTF16" "HI_BYTE_SHIFT" "I", Cond.fieldLink RJ2 63 "java/lang/StringUTF16" "LO_BYTE_SHIFT" "I", Cond.methodLink RJ2 232 yJ2_indexOfSupplementary_4cfef, Cond.static yJ2_indexOfSupplementary_4cfef, Cond.code yJ2_indexOfSupplementary_4cfef cJ2_indexOfSupplementary_4cfef 7 (some .int), Cond.methodLink RJ2 164 yJ11_isValidCodePoint_9a6ad, Cond.static yJ11_isValidCodePoint_9a6ad, Cond.initialized RJ11, Cond.code yJ11_isValidCodePoint_9a6ad cJ11_isValidCodePoint_9a6ad 2 (some .boolean), Cond.methodLink RJ2 157 yJ11_highSurrogate_5068e, Cond.static yJ11_highSurrogate_5068e, Cond.code yJ11_highSurrogate_5068e cJ11_highSurrogate_5068e 1 (some .char), Cond.constant RJ11 110 (55232), Cond.methodLink RJ2 161 yJ11_lowSurrogate_5068e, Cond.static yJ11_lowSurrogate_5068e, Cond.code yJ11_lowSurrogate_5068e cJ11_lowSurrogate_5068e 1 (some .char), Cond.constant RJ11 76 (56320), Cond.methodLink RL 97 yL_open, Cond.static yL_open, Cond.codeWith yL_open cL_open 4 (some .int) [(0, 9, 12, 13), (0, 9, 15, 15)], Cond.methodLink RL 31 yX4_open, Cond.instanceMethod yX4_open]
def wsL_law0_r16 : List Cond := [Cond.selects RX4 yX4_open yX4_open, Cond.code yX4_open cX4_open 4 (some .int), Cond.methodLink RX4 104 yX2_isRunning, Cond.instanceMethod yX2_isRunning, Cond.selects RX2 yX2_isRunning yX2_isRunning, Cond.code yX2_isRunning cX2_isRunning 1 (some .boolean), Cond.methodLink RX4 109 yX2_start, Cond.instanceMethod yX2_start, Cond.selects RX2 yX2_start yX2_start, Cond.code yX2_start cX2_start 1 none, Cond.methodLink RX2 55 yJ7_fill_53178, Cond.methodLink RX4 112 yX4_weakestWordLeft, Cond.instanceMethod yX4_weakestWordLeft, Cond.selects RX4 yX4_weakestWordLeft yX4_weakestWordLeft, Cond.code yX4_weakestWordLeft cX4_weakestWordLeft 5 (some .int), Cond.methodLink RX4 246 yX2_hasWord, Cond.instanceMethod yX2_hasWord, Cond.selects RX2 yX2_hasWord yX2_hasWord, Cond.code yX2_hasWord cX2_hasWord 3 (some .boolean), Cond.methodLink RX4 249 yX4_weightInLesson, Cond.instanceMethod yX4_weightInLesson, Cond.selects RX4 yX4_weightInLesson yX4_weightInLesson, Cond.code yX4_weightInLesson cX4_weightInLesson 8 (some .int), Cond.methodLink RX4 252 yX2_hasPair]
def wsL_law0_r17 : List Cond := [Cond.instanceMethod yX2_hasPair, Cond.selects RX2 yX2_hasPair yX2_hasPair, Cond.code yX2_hasPair cX2_hasPair 3 (some .boolean), Cond.methodLink RX4 115 yX2_append, Cond.instanceMethod yX2_append, Cond.selects RX2 yX2_append yX2_append, Cond.code yX2_append cX2_append 8 none, Cond.static yX4_write, Cond.code yX4_write cX4_write 3 none, Cond.methodLink RX4 118 yX2_wordTotal, Cond.instanceMethod yX2_wordTotal, Cond.selects RX2 yX2_wordTotal yX2_wordTotal, Cond.code yX2_wordTotal cX2_wordTotal 1 (some .int), Cond.methodLink RL 99 yX5_open, Cond.instanceMethod yX5_open, Cond.selects RX5 yX5_open yX5_open, Cond.code yX5_open cX5_open 8 (some .int), Cond.fieldLink RX5 106 "TypingTutorModel" "isOpen" "Z", Cond.fieldLink RX5 100 "TypingTutorModel" "lessonWords" "I", Cond.methodLink RX5 122 yX5_begin, Cond.instanceMethod yX5_begin, Cond.selects RX5 yX5_begin yX5_begin, Cond.code yX5_begin cX5_begin 1 none, Cond.fieldLink RX5 103 "TypingTutorModel" "letters" "I"]
def wsL_law0_r18 : List Cond := [Cond.fieldLink RX5 110 "TypingTutorModel" "at" "I", Cond.fieldLink RX5 113 "TypingTutorModel" "slips" "I", Cond.fieldLink RX5 116 "TypingTutorModel" "clean" "I", Cond.fieldLink RX5 119 "TypingTutorModel" "time" "I", Cond.methodLink RX5 125 yX5_isChosen, Cond.instanceMethod yX5_isChosen, Cond.selects RX5 yX5_isChosen yX5_isChosen, Cond.code yX5_isChosen cX5_isChosen 4 (some .boolean), Cond.methodLink RX5 128 yX5_hasPair, Cond.instanceMethod yX5_hasPair, Cond.selects RX5 yX5_hasPair yX5_hasPair, Cond.code yX5_hasPair cX5_hasPair 5 (some .boolean), Cond.methodLink RX5 131 yX5_put, Cond.instanceMethod yX5_put, Cond.selects RX5 yX5_put yX5_put, Cond.code yX5_put cX5_put 3 none, Cond.methodLink RL 100 yL_openWord, Cond.static yL_openWord, Cond.codeWith yL_openWord cL_openWord 4 (some .int) [(0, 9, 12, 21), (0, 9, 15, 15)], Cond.methodLink RL 34 yX4_openWord, Cond.instanceMethod yX4_openWord, Cond.selects RX4 yX4_openWord yX4_openWord, Cond.code yX4_openWord cX4_openWord 2 (some .int), Cond.methodLink RX4 123 yX2_letterTotal]
def wsL_law0_r19 : List Cond := [Cond.instanceMethod yX2_letterTotal, Cond.selects RX2 yX2_letterTotal yX2_letterTotal, Cond.code yX2_letterTotal cX2_letterTotal 1 (some .int), Cond.methodLink RL 102 yX5_openWord, Cond.instanceMethod yX5_openWord, Cond.selects RX5 yX5_openWord yX5_openWord, Cond.code yX5_openWord cX5_openWord 2 (some .int), Cond.methodLink RL 103 yL_giveUp, Cond.static yL_giveUp, Cond.codeWith yL_giveUp cL_giveUp 3 (some .int) [(0, 8, 11, 15)], Cond.methodLink RL 37 yX4_giveUp, Cond.instanceMethod yX4_giveUp, Cond.selects RX4 yX4_giveUp yX4_giveUp, Cond.code yX4_giveUp cX4_giveUp 1 (some .int), Cond.methodLink RX4 128 yX2_stop, Cond.instanceMethod yX2_stop, Cond.selects RX2 yX2_stop yX2_stop, Cond.code yX2_stop cX2_stop 1 none, Cond.methodLink RX4 131 yX2_triedTotal, Cond.instanceMethod yX2_triedTotal, Cond.selects RX2 yX2_triedTotal yX2_triedTotal, Cond.code yX2_triedTotal cX2_triedTotal 1 (some .int), Cond.methodLink RL 106 yX5_giveUp, Cond.instanceMethod yX5_giveUp]
def wsL_law0_r20 : List Cond := [Cond.selects RX5 yX5_giveUp yX5_giveUp, Cond.code yX5_giveUp cX5_giveUp 1 (some .int), Cond.methodLink RL 107 yX4_isOpen, Cond.instanceMethod yX4_isOpen, Cond.selects RX4 yX4_isOpen yX4_isOpen, Cond.code yX4_isOpen cX4_isOpen 1 (some .boolean), Cond.methodLink RL 111 yX5_isOpen, Cond.instanceMethod yX5_isOpen, Cond.selects RX5 yX5_isOpen yX5_isOpen, Cond.code yX5_isOpen cX5_isOpen 1 (some .boolean), Cond.methodLink RL 112 yL_lessonWord, Cond.static yL_lessonWord, Cond.codeWith yL_lessonWord cL_lessonWord 4 (some .int) [(0, 9, 12, 15), (0, 9, 15, 21)], Cond.methodLink RL 41 yX4_lessonWord, Cond.instanceMethod yX4_lessonWord, Cond.selects RX4 yX4_lessonWord yX4_lessonWord, Cond.code yX4_lessonWord cX4_lessonWord 2 (some .int), Cond.methodLink RX4 136 yX2_numberAt, Cond.instanceMethod yX2_numberAt, Cond.selects RX2 yX2_numberAt yX2_numberAt, Cond.code yX2_numberAt cX2_numberAt 2 (some .int), Cond.methodLink RL 114 yX5_lessonWord, Cond.instanceMethod yX5_lessonWord, Cond.selects RX5 yX5_lessonWord yX5_lessonWord]
def wsL_law0_r21 : List Cond := [Cond.code yX5_lessonWord cX5_lessonWord 2 (some .int), Cond.methodLink RL 115 yL_wanted, Cond.static yL_wanted, Cond.codeWith yL_wanted cL_wanted 3 (some .int) [(0, 8, 11, 15)], Cond.methodLink RL 44 yX4_wanted, Cond.instanceMethod yX4_wanted, Cond.selects RX4 yX4_wanted yX4_wanted, Cond.code yX4_wanted cX4_wanted 1 (some .int), Cond.methodLink RX4 140 yX2_letterHere, Cond.instanceMethod yX2_letterHere, Cond.selects RX2 yX2_letterHere yX2_letterHere, Cond.code yX2_letterHere cX2_letterHere 1 (some .int), Cond.methodLink RL 117 yX5_wanted, Cond.instanceMethod yX5_wanted, Cond.selects RX5 yX5_wanted yX5_wanted, Cond.code yX5_wanted cX5_wanted 1 (some .int), Cond.methodLink RL 118 yL_done, Cond.static yL_done, Cond.codeWith yL_done cL_done 3 (some .int) [(0, 8, 11, 15)], Cond.methodLink RL 47 yX4_done, Cond.instanceMethod yX4_done, Cond.selects RX4 yX4_done yX4_done, Cond.code yX4_done cX4_done 1 (some .int), Cond.methodLink RL 120 yX5_done]
def wsL_law0_r22 : List Cond := [Cond.instanceMethod yX5_done, Cond.selects RX5 yX5_done yX5_done, Cond.code yX5_done cX5_done 1 (some .int), Cond.methodLink RL 121 yL_strike, Cond.static yL_strike, Cond.codeWith yL_strike cL_strike 5 (some .int) [(0, 10, 13, 21), (0, 10, 17, 13), (0, 10, 21, 15)], Cond.methodLink RL 50 yX4_strike, Cond.instanceMethod yX4_strike, Cond.selects RX4 yX4_strike yX4_strike, Cond.code yX4_strike cX4_strike 4 (some .int), Cond.methodLink RX4 145 yX4_kindOfStroke, Cond.instanceMethod yX4_kindOfStroke, Cond.selects RX4 yX4_kindOfStroke yX4_kindOfStroke, Cond.code yX4_kindOfStroke cX4_kindOfStroke 3 (some .int), Cond.methodLink RX4 255 yX2_letterAfter, Cond.instanceMethod yX2_letterAfter, Cond.selects RX2 yX2_letterAfter yX2_letterAfter, Cond.code yX2_letterAfter cX2_letterAfter 1 (some .int), Cond.methodLink RX2 51 yX2_letterInSameWord, Cond.instanceMethod yX2_letterInSameWord, Cond.selects RX2 yX2_letterInSameWord yX2_letterInSameWord, Cond.code yX2_letterInSameWord cX2_letterInSameWord 2 (some .int), Cond.methodLink RX4 258 yX2_letterBefore, Cond.instanceMethod yX2_letterBefore]
def wsL_law0_r23 : List Cond := [Cond.selects RX2 yX2_letterBefore yX2_letterBefore, Cond.code yX2_letterBefore cX2_letterBefore 1 (some .int), Cond.methodLink RX4 148 yX2_noteStroke, Cond.instanceMethod yX2_noteStroke, Cond.selects RX2 yX2_noteStroke yX2_noteStroke, Cond.code yX2_noteStroke cX2_noteStroke 3 none, Cond.methodLink RX4 156 yX4_write, Cond.methodLink RX4 160 yX2_mistakesHere, Cond.instanceMethod yX2_mistakesHere, Cond.selects RX2 yX2_mistakesHere yX2_mistakesHere, Cond.code yX2_mistakesHere cX2_mistakesHere 1 (some .int), Cond.methodLink RX4 163 yX4_tryLetter, Cond.instanceMethod yX4_tryLetter, Cond.selects RX4 yX4_tryLetter yX4_tryLetter, Cond.code yX4_tryLetter cX4_tryLetter 5 none, Cond.methodLink RX4 261 yX1_learn, Cond.instanceMethod yX1_learn, Cond.selects RX1 yX1_learn yX1_learn, Cond.code yX1_learn cX1_learn 6 none, Cond.methodLink RX4 265 yX2_goOn, Cond.instanceMethod yX2_goOn, Cond.selects RX2 yX2_goOn yX2_goOn, Cond.code yX2_goOn cX2_goOn 2 none, Cond.methodLink RX4 269 yX2_cleanTotal]
def wsL_law0_r24 : List Cond := [Cond.instanceMethod yX2_cleanTotal, Cond.selects RX2 yX2_cleanTotal yX2_cleanTotal, Cond.code yX2_cleanTotal cX2_cleanTotal 1 (some .int), Cond.methodLink RX4 272 yX2_timeSum, Cond.instanceMethod yX2_timeSum, Cond.selects RX2 yX2_timeSum yX2_timeSum, Cond.code yX2_timeSum cX2_timeSum 1 (some .int), Cond.methodLink RX4 275 yX0_keep, Cond.instanceMethod yX0_keep, Cond.selects RX0 yX0_keep yX0_keep, Cond.code yX0_keep cX0_keep 4 none, Cond.methodLink RX0 53 yX0_paceBehind, Cond.instanceMethod yX0_paceBehind, Cond.selects RX0 yX0_paceBehind yX0_paceBehind, Cond.code yX0_paceBehind cX0_paceBehind 4 (some .int), Cond.methodLink RX0 43 Lib.Math.max.name, Cond.methodLink RX0 56 Lib.Math.min.name, Cond.methodLink RL 123 yX5_strike, Cond.instanceMethod yX5_strike, Cond.selects RX5 yX5_strike yX5_strike, Cond.code yX5_strike cX5_strike 4 (some .int), Cond.methodLink RX5 157 yX5_kindOf, Cond.instanceMethod yX5_kindOf, Cond.selects RX5 yX5_kindOf yX5_kindOf]
def wsL_law0_r25 : List Cond := [Cond.code yX5_kindOf cX5_kindOf 3 (some .int), Cond.methodLink RX5 160 yX5_tryLetter, Cond.instanceMethod yX5_tryLetter, Cond.selects RX5 yX5_tryLetter yX5_tryLetter, Cond.code yX5_tryLetter cX5_tryLetter 4 none, Cond.methodLink RX5 135 Lib.Math.max.name, Cond.methodLink RX5 138 yX5_learn, Cond.instanceMethod yX5_learn, Cond.selects RX5 yX5_learn yX5_learn, Cond.code yX5_learn cX5_learn 4 none, Cond.methodLink RX5 142 yX5_finish, Cond.instanceMethod yX5_finish, Cond.selects RX5 yX5_finish yX5_finish, Cond.code yX5_finish cX5_finish 2 none, Cond.fieldLink RX5 145 "TypingTutorModel" "finished" "I", Cond.methodLink RX5 148 arraycopyName, Cond.native arraycopyName, Cond.static arraycopyName, Cond.initialized "java/lang/System", Cond.methodLink RX5 154 Lib.Math.min.name, Cond.methodLink RL 124 yL_key, Cond.static yL_key, Cond.codeWith yL_key cL_key 5 (some .int) [(0, 10, 13, 21)], Cond.methodLink RL 54 yX4_key]
def wsL_law0_r26 : List Cond := [Cond.instanceMethod yX4_key, Cond.selects RX4 yX4_key yX4_key, Cond.code yX4_key cX4_key 3 (some .int), Cond.methodLink RX4 168 yX1_tell, Cond.instanceMethod yX1_tell, Cond.selects RX1 yX1_tell yX1_tell, Cond.code yX1_tell cX1_tell 3 (some .int), Cond.methodLink RL 126 yX5_key, Cond.instanceMethod yX5_key, Cond.selects RX5 yX5_key yX5_key, Cond.code yX5_key cX5_key 3 (some .int), Cond.methodLink RX5 163 yX5_known, Cond.instanceMethod yX5_known, Cond.selects RX5 yX5_known yX5_known, Cond.code yX5_known cX5_known 3 (some .int), Cond.methodLink RL 127 yL_pair, Cond.static yL_pair, Cond.codeWith yL_pair cL_pair 6 (some .int) [(0, 12, 15, 21)], Cond.methodLink RL 57 yX4_pair, Cond.instanceMethod yX4_pair, Cond.selects RX4 yX4_pair yX4_pair, Cond.code yX4_pair cX4_pair 5 (some .int), Cond.methodLink RL 130 yX5_pair, Cond.instanceMethod yX5_pair]
def wsL_law0_r27 : List Cond := [Cond.selects RX5 yX5_pair yX5_pair, Cond.code yX5_pair cX5_pair 4 (some .int), Cond.methodLink RL 131 yX4_weakest, Cond.instanceMethod yX4_weakest, Cond.selects RX4 yX4_weakest yX4_weakest, Cond.code yX4_weakest cX4_weakest 3 (some .int), Cond.methodLink RL 134 yX5_weakest, Cond.instanceMethod yX5_weakest, Cond.selects RX5 yX5_weakest yX5_weakest, Cond.code yX5_weakest cX5_weakest 3 (some .int), Cond.methodLink RL 135 yL_mistakes, Cond.static yL_mistakes, Cond.codeWith yL_mistakes cL_mistakes 4 (some .int) [(0, 9, 12, 21)], Cond.methodLink RL 61 yX4_mistakes, Cond.instanceMethod yX4_mistakes, Cond.selects RX4 yX4_mistakes yX4_mistakes, Cond.code yX4_mistakes cX4_mistakes 2 (some .int), Cond.methodLink RL 137 yX5_mistakes, Cond.instanceMethod yX5_mistakes, Cond.selects RX5 yX5_mistakes yX5_mistakes, Cond.code yX5_mistakes cX5_mistakes 2 (some .int), Cond.methodLink RL 138 yX4_lessons, Cond.instanceMethod yX4_lessons, Cond.selects RX4 yX4_lessons yX4_lessons]
def wsL_law0_r28 : List Cond := [Cond.code yX4_lessons cX4_lessons 1 (some .int), Cond.methodLink RX4 185 yX0_size, Cond.instanceMethod yX0_size, Cond.selects RX0 yX0_size yX0_size, Cond.code yX0_size cX0_size 1 (some .int), Cond.methodLink RL 141 yX5_lessons, Cond.instanceMethod yX5_lessons, Cond.selects RX5 yX5_lessons yX5_lessons, Cond.code yX5_lessons cX5_lessons 1 (some .int), Cond.methodLink RL 142 yL_lesson, Cond.static yL_lesson, Cond.codeWith yL_lesson cL_lesson 5 (some .int) [(0, 10, 13, 21)], Cond.methodLink RL 64 yX4_lesson, Cond.instanceMethod yX4_lesson, Cond.selects RX4 yX4_lesson yX4_lesson, Cond.code yX4_lesson cX4_lesson 3 (some .int), Cond.methodLink RX4 188 yX0_tell, Cond.instanceMethod yX0_tell, Cond.selects RX0 yX0_tell yX0_tell, Cond.code yX0_tell cX0_tell 3 (some .int), Cond.methodLink RX0 38 yX0_speedOf, Cond.instanceMethod yX0_speedOf, Cond.selects RX0 yX0_speedOf yX0_speedOf, Cond.code yX0_speedOf cX0_speedOf 3 (some .int)]
def wsL_law0_r29 : List Cond := [Cond.constant RX0 42 (60000), Cond.methodLink RL 144 yX5_lesson, Cond.instanceMethod yX5_lesson, Cond.selects RX5 yX5_lesson yX5_lesson, Cond.code yX5_lesson cX5_lesson 3 (some .int), Cond.methodLink RX5 167 yX5_told, Cond.instanceMethod yX5_told, Cond.selects RX5 yX5_told yX5_told, Cond.code yX5_told cX5_told 3 (some .int), Cond.constant RX5 166 (60000), Cond.methodLink RL 145 yX4_pace, Cond.instanceMethod yX4_pace, Cond.selects RX4 yX4_pace yX4_pace, Cond.code yX4_pace cX4_pace 1 (some .int), Cond.methodLink RX4 189 yX0_advisedPace, Cond.instanceMethod yX0_advisedPace, Cond.selects RX0 yX0_advisedPace yX0_advisedPace, Cond.code yX0_advisedPace cX0_advisedPace 1 (some .int), Cond.methodLink RL 148 yX5_pace, Cond.instanceMethod yX5_pace, Cond.selects RX5 yX5_pace yX5_pace, Cond.code yX5_pace cX5_pace 1 (some .int), Cond.methodLink RL 149 yX4_isPlateau, Cond.instanceMethod yX4_isPlateau]
def wsL_law0_r30 : List Cond := [Cond.selects RX4 yX4_isPlateau yX4_isPlateau, Cond.code yX4_isPlateau cX4_isPlateau 4 (some .boolean), Cond.methodLink RX4 192 yX0_greatestSpeed, Cond.instanceMethod yX0_greatestSpeed, Cond.selects RX0 yX0_greatestSpeed yX0_greatestSpeed, Cond.code yX0_greatestSpeed cX0_greatestSpeed 5 (some .int), Cond.methodLink RL 152 yX5_isPlateau, Cond.instanceMethod yX5_isPlateau, Cond.selects RX5 yX5_isPlateau yX5_isPlateau, Cond.code yX5_isPlateau cX5_isPlateau 1 (some .boolean), Cond.methodLink RX5 170 yX5_greatest, Cond.instanceMethod yX5_greatest, Cond.selects RX5 yX5_greatest yX5_greatest, Cond.code yX5_greatest cX5_greatest 2 (some .int), Cond.methodLink RL 153 yX4_accuracy, Cond.instanceMethod yX4_accuracy, Cond.selects RX4 yX4_accuracy yX4_accuracy, Cond.code yX4_accuracy cX4_accuracy 2 (some .double), Cond.methodLink RX4 195 yX0_letterSum, Cond.instanceMethod yX0_letterSum, Cond.selects RX0 yX0_letterSum yX0_letterSum, Cond.code yX0_letterSum cX0_letterSum 1 (some .int), Cond.methodLink RX4 198 yX0_cleanSum, Cond.instanceMethod yX0_cleanSum]
def wsL_law0_r31 : List Cond := [Cond.selects RX0 yX0_cleanSum yX0_cleanSum, Cond.code yX0_cleanSum cX0_cleanSum 1 (some .int), Cond.methodLink RL 157 yX5_accuracy, Cond.instanceMethod yX5_accuracy, Cond.selects RX5 yX5_accuracy yX5_accuracy, Cond.code yX5_accuracy cX5_accuracy 4 (some .double), Cond.methodLink RL 158 yX4_digest, Cond.instanceMethod yX4_digest, Cond.selects RX4 yX4_digest yX4_digest, Cond.code yX4_digest cX4_digest 3 (some .long), Cond.constantLong RX4 201 (191), Cond.methodLink RX4 203 yX4_digestOfWords, Cond.instanceMethod yX4_digestOfWords, Cond.selects RX4 yX4_digestOfWords yX4_digestOfWords, Cond.code yX4_digestOfWords cX4_digestOfWords 6 (some .long), Cond.methodLink RX4 281 yX4_mixed, Cond.static yX4_mixed, Cond.code yX4_mixed cX4_mixed 4 (some .long), Cond.constantLong RX4 279 (31), Cond.methodLink RX4 207 yX4_digestOfKnowledge, Cond.instanceMethod yX4_digestOfKnowledge, Cond.selects RX4 yX4_digestOfKnowledge yX4_digestOfKnowledge, Cond.code yX4_digestOfKnowledge cX4_digestOfKnowledge 6 (some .long), Cond.methodLink RX4 285 yX4_digestOfRecord]
def wsL_law0_r32 : List Cond := [Cond.static yX4_digestOfRecord, Cond.code yX4_digestOfRecord cX4_digestOfRecord 7 (some .long), Cond.methodLink RX4 210 yX4_digestOfLesson, Cond.instanceMethod yX4_digestOfLesson, Cond.selects RX4 yX4_digestOfLesson yX4_digestOfLesson, Cond.code yX4_digestOfLesson cX4_digestOfLesson 6 (some .long), Cond.methodLink RX4 213 yX4_digestOfHistory, Cond.instanceMethod yX4_digestOfHistory, Cond.selects RX4 yX4_digestOfHistory yX4_digestOfHistory, Cond.code yX4_digestOfHistory cX4_digestOfHistory 7 (some .long), Cond.methodLink RL 162 yX5_digest, Cond.instanceMethod yX5_digest, Cond.selects RX5 yX5_digest yX5_digest, Cond.code yX5_digest cX5_digest 5 (some .long), Cond.constantLong RX5 173 (5921), Cond.constantLong RX5 175 (31)]
def wsL_law0 : List Cond := (wsL_law0_r1 ++ (wsL_law0_r2 ++ (wsL_law0_r3 ++ (wsL_law0_r4 ++ (wsL_law0_r5 ++ (wsL_law0_r6 ++ (wsL_law0_r7 ++ (wsL_law0_r8 ++ (wsL_law0_r9 ++ (wsL_law0_r10 ++ (wsL_law0_r11 ++ (wsL_law0_r12 ++ (wsL_law0_r13 ++ (wsL_law0_r14 ++ (wsL_law0_r15 ++ (wsL_law0_r16 ++ (wsL_law0_r17 ++ (wsL_law0_r18 ++ (wsL_law0_r19 ++ (wsL_law0_r20 ++ (wsL_law0_r21 ++ (wsL_law0_r22 ++ (wsL_law0_r23 ++ (wsL_law0_r24 ++ (wsL_law0_r25 ++ (wsL_law0_r26 ++ (wsL_law0_r27 ++ (wsL_law0_r28 ++ (wsL_law0_r29 ++ (wsL_law0_r30 ++ (wsL_law0_r31 ++ wsL_law0_r32))))))))))))))))))))))))))))))) ++ wsX40 ++ wsX50 ++ wsX30 ++ wsX10 ++ wsX20 ++ wsX00 ++ ([] : List Cond)
def wsL_law : List Cond := wsL_law0 ++ (vx_atS RX4 54 "java/lang/IllegalArgumentException" ["java/lang/RuntimeException", "java/lang/Exception"]).filter goodWord ++ (vx_atS RX4 68 "java/lang/IllegalStateException" ["java/lang/RuntimeException", "java/lang/Exception"]).filter goodWord ++ (vx_atS RX4 85 "java/lang/IndexOutOfBoundsException" ["java/lang/RuntimeException", "java/lang/Exception"]).filter goodWord
set_option maxRecDepth 20000 in
theorem wsL_law_in0 : ∀ w ∈ wsL_law0, w ∈ lw_tbl := fun w h => (goodIn_p wsL_law0 [54, 57, 62, 76, 80, 83, 99, 139, 689, 322, 325, 400, 404, 276, 425, 760, 763, 766, 769, 773, 777, 756, 185, 189, 781, 433, 437, 785, 789, 460, 464, 467, 470, 216, 208, 473, 476, 212, 205, 793, 797, 801, 804, 483, 486, 490, 495, 808, 811, 816, 820, 824, 830, 834, 837, 652, 840, 845, 848, 854, 857, 860, 863, 868, 871, 874, 883, 886, 889, 893, 504, 197, 510, 515, 519, 523, 527, 531, 536, 296, 899, 903, 907, 911, 915, 543, 548, 919, 555, 560, 305, 923, 193, 927, 567, 300, 931, 575, 579, 935, 586, 939, 593, 598, 602, 606, 610, 614, 619, 623, 627, 632, 636, 640, 644, 649, 943, 947, 951, 956, 960, 659, 287, 968, 972, 667, 976, 201, 980, 675, 984, 220, 224, 988, 683, 313, 244, 992, 996, 228, 232, 1001, 236, 240, 1005, 1009, 251, 255, 259, 1013, 263, 268, 271, 280, 283, 292, 309, 1017] (by decide +kernel) (by decide +kernel) w h).1
theorem wsL_law_x0 : ∀ w ∈ (vx_atS RX4 54 "java/lang/IllegalArgumentException" ["java/lang/RuntimeException", "java/lang/Exception"]).filter goodWord, w ∈ lw_tbl := by decide +kernel
theorem wsL_law_x1 : ∀ w ∈ (vx_atS RX4 68 "java/lang/IllegalStateException" ["java/lang/RuntimeException", "java/lang/Exception"]).filter goodWord, w ∈ lw_tbl := by decide +kernel
theorem wsL_law_x2 : ∀ w ∈ (vx_atS RX4 85 "java/lang/IndexOutOfBoundsException" ["java/lang/RuntimeException", "java/lang/Exception"]).filter goodWord, w ∈ lw_tbl := by decide +kernel
theorem wsL_law_in : ∀ w ∈ wsL_law, w ∈ lw_tbl := fun w h => (List.mem_append.mp h).elim (fun h => (List.mem_append.mp h).elim (fun h => (List.mem_append.mp h).elim (fun h => wsL_law_in0 w h) (fun h => wsL_law_x0 w h)) (fun h => wsL_law_x1 w h)) (fun h => wsL_law_x2 w h)
theorem inlX0 : ∀ w ∈ wsX00, w ∈ wsL_law := fun _ h => List.mem_append_left _ (List.mem_append_left _ (List.mem_append_left _ (List.mem_append_left _ (List.mem_append_right _ h))))
theorem inX0 : ∀ w ∈ wsX00, w ∈ lw_tbl := fun w h => wsL_law_in w (inlX0 w h)
theorem inlX1 : ∀ w ∈ wsX10, w ∈ wsL_law := fun _ h => List.mem_append_left _ (List.mem_append_left _ (List.mem_append_left _ (List.mem_append_left _ (List.mem_append_left _ (List.mem_append_left _ (List.mem_append_right _ h))))))
theorem inX1 : ∀ w ∈ wsX10, w ∈ lw_tbl := fun w h => wsL_law_in w (inlX1 w h)
theorem inlX2 : ∀ w ∈ wsX20, w ∈ wsL_law := fun _ h => List.mem_append_left _ (List.mem_append_left _ (List.mem_append_left _ (List.mem_append_left _ (List.mem_append_left _ (List.mem_append_right _ h)))))
theorem inX2 : ∀ w ∈ wsX20, w ∈ lw_tbl := fun w h => wsL_law_in w (inlX2 w h)
theorem inlX3 : ∀ w ∈ wsX30, w ∈ wsL_law := fun _ h => List.mem_append_left _ (List.mem_append_left _ (List.mem_append_left _ (List.mem_append_left _ (List.mem_append_left _ (List.mem_append_left _ (List.mem_append_left _ (List.mem_append_right _ h)))))))
theorem inX3 : ∀ w ∈ wsX30, w ∈ lw_tbl := fun w h => wsL_law_in w (inlX3 w h)
theorem inlX4 : ∀ w ∈ wsX40, w ∈ wsL_law := fun _ h => List.mem_append_left _ (List.mem_append_left _ (List.mem_append_left _ (List.mem_append_left _ (List.mem_append_left _ (List.mem_append_left _ (List.mem_append_left _ (List.mem_append_left _ (List.mem_append_left _ (List.mem_append_right _ h)))))))))
theorem inX4 : ∀ w ∈ wsX40, w ∈ lw_tbl := fun w h => wsL_law_in w (inlX4 w h)
theorem inlX5 : ∀ w ∈ wsX50, w ∈ wsL_law := fun _ h => List.mem_append_left _ (List.mem_append_left _ (List.mem_append_left _ (List.mem_append_left _ (List.mem_append_left _ (List.mem_append_left _ (List.mem_append_left _ (List.mem_append_left _ (List.mem_append_right _ h))))))))
theorem inX5 : ∀ w ∈ wsX50, w ∈ lw_tbl := fun w h => wsL_law_in w (inlX5 w h)
theorem inJx145de : ∀ w ∈ wsJx145de0, w ∈ lw_tbl := by decide +kernel
theorem inJx9f9b0 : ∀ w ∈ wsJx9f9b00, w ∈ lw_tbl := by decide +kernel
theorem inJ11 : ∀ w ∈ wsJ110, w ∈ lw_tbl := by decide +kernel
theorem inJxb160c : ∀ w ∈ wsJxb160c0, w ∈ lw_tbl := by decide +kernel
theorem inJ9 : ∀ w ∈ wsJ90, w ∈ lw_tbl := by decide +kernel
theorem inJ0 : ∀ w ∈ wsJ00, w ∈ lw_tbl := by decide +kernel
theorem inJ1 : ∀ w ∈ wsJ10, w ∈ lw_tbl := by decide +kernel
theorem inJ2 : ∀ w ∈ wsJ20, w ∈ lw_tbl := by decide +kernel
theorem inJ10 : ∀ w ∈ wsJ100, w ∈ lw_tbl := by decide +kernel
theorem inJxfd54e : ∀ w ∈ wsJxfd54e0, w ∈ lw_tbl := by decide +kernel
theorem inJx3cf43 : ∀ w ∈ wsJx3cf430, w ∈ lw_tbl := by decide +kernel
theorem inJ7 : ∀ w ∈ wsJ70, w ∈ lw_tbl := by decide +kernel
theorem inJ3 : ∀ w ∈ wsJ30, w ∈ lw_tbl := by decide +kernel
theorem dX0_init_0 : decode cX0_init 0 = .ok (.aload_n 0, 1) := by decide +kernel
theorem dX0_init_1 : decode cX0_init 1 = .ok (.invokespecial 3, 3) := by decide +kernel
theorem dX0_init_4 : decode cX0_init 4 = .ok (.aload_n 0, 1) := by decide +kernel
theorem dX0_init_5 : decode cX0_init 5 = .ok (.sipush 256, 3) := by decide +kernel
theorem dX0_init_8 : decode cX0_init 8 = .ok (.newarray .int, 2) := by decide +kernel
theorem dX0_init_10 : decode cX0_init 10 = .ok (.putfield 9, 3) := by decide +kernel
theorem dX0_init_13 : decode cX0_init 13 = .ok (.aload_n 0, 1) := by decide +kernel
theorem dX0_init_14 : decode cX0_init 14 = .ok (.sipush 256, 3) := by decide +kernel
theorem dX0_init_17 : decode cX0_init 17 = .ok (.newarray .int, 2) := by decide +kernel
theorem dX0_init_19 : decode cX0_init 19 = .ok (.putfield 15, 3) := by decide +kernel
theorem dX0_init_22 : decode cX0_init 22 = .ok (.aload_n 0, 1) := by decide +kernel
theorem dX0_init_23 : decode cX0_init 23 = .ok (.sipush 256, 3) := by decide +kernel
theorem dX0_init_26 : decode cX0_init 26 = .ok (.newarray .int, 2) := by decide +kernel
theorem dX0_init_28 : decode cX0_init 28 = .ok (.putfield 18, 3) := by decide +kernel
theorem dX0_init_31 : decode cX0_init 31 = .ok (.aload_n 0, 1) := by decide +kernel
theorem dX0_init_32 : decode cX0_init 32 = .ok (.iconst 0, 1) := by decide +kernel
theorem dX0_init_33 : decode cX0_init 33 = .ok (.putfield 21, 3) := by decide +kernel
theorem dX0_init_36 : decode cX0_init 36 = .ok (.aload_n 0, 1) := by decide +kernel
theorem dX0_init_37 : decode cX0_init 37 = .ok (.bipush 100, 2) := by decide +kernel
theorem dX0_init_39 : decode cX0_init 39 = .ok (.putfield 25, 3) := by decide +kernel
theorem dX0_init_42 : decode cX0_init 42 = .ok (.aload_n 0, 1) := by decide +kernel
theorem dX0_init_43 : decode cX0_init 43 = .ok (.iconst 0, 1) := by decide +kernel
theorem dX0_init_44 : decode cX0_init 44 = .ok (.putfield 28, 3) := by decide +kernel
theorem dX0_init_47 : decode cX0_init 47 = .ok (.aload_n 0, 1) := by decide +kernel
theorem dX0_init_48 : decode cX0_init 48 = .ok (.iconst 0, 1) := by decide +kernel
theorem dX0_init_49 : decode cX0_init 49 = .ok (.putfield 31, 3) := by decide +kernel
theorem dX0_init_52 : decode cX0_init 52 = .ok (.return_, 1) := by decide +kernel
theorem dX0_size_0 : decode cX0_size 0 = .ok (.aload_n 0, 1) := by decide +kernel
theorem dX0_size_1 : decode cX0_size 1 = .ok (.getfield 21, 3) := by decide +kernel
theorem dX0_size_4 : decode cX0_size 4 = .ok (.ireturn, 1) := by decide +kernel
theorem dX0_advisedPace_0 : decode cX0_advisedPace 0 = .ok (.aload_n 0, 1) := by decide +kernel
theorem dX0_advisedPace_1 : decode cX0_advisedPace 1 = .ok (.getfield 25, 3) := by decide +kernel
theorem dX0_advisedPace_4 : decode cX0_advisedPace 4 = .ok (.ireturn, 1) := by decide +kernel
theorem dX0_letterSum_0 : decode cX0_letterSum 0 = .ok (.aload_n 0, 1) := by decide +kernel
theorem dX0_letterSum_1 : decode cX0_letterSum 1 = .ok (.getfield 28, 3) := by decide +kernel
theorem dX0_letterSum_4 : decode cX0_letterSum 4 = .ok (.ireturn, 1) := by decide +kernel
theorem dX0_cleanSum_0 : decode cX0_cleanSum 0 = .ok (.aload_n 0, 1) := by decide +kernel
theorem dX0_cleanSum_1 : decode cX0_cleanSum 1 = .ok (.getfield 31, 3) := by decide +kernel
theorem dX0_cleanSum_4 : decode cX0_cleanSum 4 = .ok (.ireturn, 1) := by decide +kernel
set_option maxRecDepth 20000 in
theorem ggX0_tell_X4_read : GoodIn wsX0_tell wsX4_read := goodIn_r _ [6] (by decide +kernel) (by decide +kernel)
set_option maxRecDepth 20000 in
theorem gX0_tell_X4_read_n34 : GoodIn wsX0_tell (wsX4_read) := ggX0_tell_X4_read
set_option maxRecDepth 20000 in
theorem ggX0_tell_X0_speedOf : GoodIn wsX0_tell wsX0_speedOf := goodIn_r _ [11, 3, 1, 12, 4, 5, 6, 13, 14, 15, 16, 17, 18, 19] (by decide +kernel) (by decide +kernel)
set_option maxRecDepth 20000 in
theorem gX0_tell_X0_speedOf : GoodIn wsX0_tell (wsV RX0 38 RX0 yX0_speedOf wsX0_speedOf) := goodIn_app (goodIn_of _ (by decide +kernel)) ggX0_tell_X0_speedOf
theorem dX0_tell_0 : decode cX0_tell 0 = .ok (.iload_n 2, 1) := by decide +kernel
theorem dX0_tell_1 : decode cX0_tell 1 = .ok (.tableswitch 54 0 2 #[27, 36, 45], 27) := by decide +kernel
theorem dX0_tell_28 : decode cX0_tell 28 = .ok (.aload_n 0, 1) := by decide +kernel
theorem dX0_tell_29 : decode cX0_tell 29 = .ok (.getfield 9, 3) := by decide +kernel
theorem dX0_tell_32 : decode cX0_tell 32 = .ok (.iload_n 1, 1) := by decide +kernel
theorem dX0_tell_33 : decode cX0_tell 33 = .ok (.invokestatic 34, 3) := by decide +kernel
theorem dX0_tell_36 : decode cX0_tell 36 = .ok (.ireturn, 1) := by decide +kernel
theorem dX0_tell_37 : decode cX0_tell 37 = .ok (.aload_n 0, 1) := by decide +kernel
theorem dX0_tell_38 : decode cX0_tell 38 = .ok (.getfield 15, 3) := by decide +kernel
theorem dX0_tell_41 : decode cX0_tell 41 = .ok (.iload_n 1, 1) := by decide +kernel
theorem dX0_tell_42 : decode cX0_tell 42 = .ok (.invokestatic 34, 3) := by decide +kernel
theorem dX0_tell_45 : decode cX0_tell 45 = .ok (.ireturn, 1) := by decide +kernel
theorem dX0_tell_46 : decode cX0_tell 46 = .ok (.aload_n 0, 1) := by decide +kernel
theorem dX0_tell_47 : decode cX0_tell 47 = .ok (.getfield 18, 3) := by decide +kernel
theorem dX0_tell_50 : decode cX0_tell 50 = .ok (.iload_n 1, 1) := by decide +kernel
theorem dX0_tell_51 : decode cX0_tell 51 = .ok (.invokestatic 34, 3) := by decide +kernel
theorem dX0_tell_54 : decode cX0_tell 54 = .ok (.ireturn, 1) := by decide +kernel
theorem dX0_tell_55 : decode cX0_tell 55 = .ok (.aload_n 0, 1) := by decide +kernel
theorem dX0_tell_56 : decode cX0_tell 56 = .ok (.iload_n 1, 1) := by decide +kernel
theorem dX0_tell_57 : decode cX0_tell 57 = .ok (.invokevirtual 38, 3) := by decide +kernel
theorem dX0_tell_60 : decode cX0_tell 60 = .ok (.ireturn, 1) := by decide +kernel
set_option maxRecDepth 20000 in
theorem ggX0_speedOf_X4_read : GoodIn wsX0_speedOf wsX4_read := goodIn_r _ [6] (by decide +kernel) (by decide +kernel)
set_option maxRecDepth 20000 in
theorem gX0_speedOf_X4_read_n34 : GoodIn wsX0_speedOf (wsX4_read) := ggX0_speedOf_X4_read
theorem dX0_speedOf_0 : decode cX0_speedOf 0 = .ok (.aload_n 0, 1) := by decide +kernel
theorem dX0_speedOf_1 : decode cX0_speedOf 1 = .ok (.getfield 18, 3) := by decide +kernel
theorem dX0_speedOf_4 : decode cX0_speedOf 4 = .ok (.iload_n 1, 1) := by decide +kernel
theorem dX0_speedOf_5 : decode cX0_speedOf 5 = .ok (.invokestatic 34, 3) := by decide +kernel
theorem dX0_speedOf_8 : decode cX0_speedOf 8 = .ok (.istore_n 2, 1) := by decide +kernel
theorem dX0_speedOf_9 : decode cX0_speedOf 9 = .ok (.iload_n 2, 1) := by decide +kernel
theorem dX0_speedOf_10 : decode cX0_speedOf 10 = .ok (.ifCond .le 19, 3) := by decide +kernel
theorem dX0_speedOf_13 : decode cX0_speedOf 13 = .ok (.aload_n 0, 1) := by decide +kernel
theorem dX0_speedOf_14 : decode cX0_speedOf 14 = .ok (.getfield 9, 3) := by decide +kernel
theorem dX0_speedOf_17 : decode cX0_speedOf 17 = .ok (.iload_n 1, 1) := by decide +kernel
theorem dX0_speedOf_18 : decode cX0_speedOf 18 = .ok (.invokestatic 34, 3) := by decide +kernel
theorem dX0_speedOf_21 : decode cX0_speedOf 21 = .ok (.ldc 42, 2) := by decide +kernel
theorem dX0_speedOf_23 : decode cX0_speedOf 23 = .ok (.imul, 1) := by decide +kernel
theorem dX0_speedOf_24 : decode cX0_speedOf 24 = .ok (.iload_n 2, 1) := by decide +kernel
theorem dX0_speedOf_25 : decode cX0_speedOf 25 = .ok (.idiv, 1) := by decide +kernel
theorem dX0_speedOf_26 : decode cX0_speedOf 26 = .ok (.goto 4, 3) := by decide +kernel
theorem dX0_speedOf_29 : decode cX0_speedOf 29 = .ok (.iconst 0, 1) := by decide +kernel
theorem dX0_speedOf_30 : decode cX0_speedOf 30 = .ok (.ireturn, 1) := by decide +kernel
set_option maxRecDepth 20000 in
theorem ggX0_greatestSpeed_X0_speedOf : GoodIn wsX0_greatestSpeed wsX0_speedOf := goodIn_r _ [9, 10, 11, 12, 13, 14, 15, 16, 17, 18, 19, 20, 21, 22] (by decide +kernel) (by decide +kernel)
set_option maxRecDepth 20000 in
theorem gX0_greatestSpeed_X0_speedOf : GoodIn wsX0_greatestSpeed (wsV RX0 38 RX0 yX0_speedOf wsX0_speedOf) := goodIn_app (goodIn_of _ (by decide +kernel)) ggX0_greatestSpeed_X0_speedOf
theorem dX0_greatestSpeed_0 : decode cX0_greatestSpeed 0 = .ok (.iconst 0, 1) := by decide +kernel
theorem dX0_greatestSpeed_1 : decode cX0_greatestSpeed 1 = .ok (.istore_n 3, 1) := by decide +kernel
theorem dX0_greatestSpeed_2 : decode cX0_greatestSpeed 2 = .ok (.iload_n 1, 1) := by decide +kernel
theorem dX0_greatestSpeed_3 : decode cX0_greatestSpeed 3 = .ok (.istore 4, 2) := by decide +kernel
theorem dX0_greatestSpeed_5 : decode cX0_greatestSpeed 5 = .ok (.iload 4, 2) := by decide +kernel
theorem dX0_greatestSpeed_7 : decode cX0_greatestSpeed 7 = .ok (.iload_n 2, 1) := by decide +kernel
theorem dX0_greatestSpeed_8 : decode cX0_greatestSpeed 8 = .ok (.if_icmp .ge 20, 3) := by decide +kernel
theorem dX0_greatestSpeed_11 : decode cX0_greatestSpeed 11 = .ok (.iload_n 3, 1) := by decide +kernel
theorem dX0_greatestSpeed_12 : decode cX0_greatestSpeed 12 = .ok (.aload_n 0, 1) := by decide +kernel
theorem dX0_greatestSpeed_13 : decode cX0_greatestSpeed 13 = .ok (.iload 4, 2) := by decide +kernel
theorem dX0_greatestSpeed_15 : decode cX0_greatestSpeed 15 = .ok (.invokevirtual 38, 3) := by decide +kernel
theorem dX0_greatestSpeed_18 : decode cX0_greatestSpeed 18 = .ok (.invokestatic 43, 3) := by decide +kernel
theorem dX0_greatestSpeed_21 : decode cX0_greatestSpeed 21 = .ok (.istore_n 3, 1) := by decide +kernel
theorem dX0_greatestSpeed_22 : decode cX0_greatestSpeed 22 = .ok (.iinc 4 1, 3) := by decide +kernel
theorem dX0_greatestSpeed_25 : decode cX0_greatestSpeed 25 = .ok (.goto (-20), 3) := by decide +kernel
theorem dX0_greatestSpeed_28 : decode cX0_greatestSpeed 28 = .ok (.iload_n 3, 1) := by decide +kernel
theorem dX0_greatestSpeed_29 : decode cX0_greatestSpeed 29 = .ok (.ireturn, 1) := by decide +kernel
set_option maxRecDepth 20000 in
theorem ggX0_keep_X4_write : GoodIn wsX0_keep wsX4_write := goodIn_r _ [10] (by decide +kernel) (by decide +kernel)
set_option maxRecDepth 20000 in
theorem gX0_keep_X4_write_n49 : GoodIn wsX0_keep (wsX4_write) := ggX0_keep_X4_write
set_option maxRecDepth 20000 in
theorem ggX0_keep_X0_paceBehind : GoodIn wsX0_keep wsX0_paceBehind := goodIn_r _ [15, 7, 16, 17, 18, 19, 20, 21, 22, 23, 24, 25, 26, 27, 28, 29] (by decide +kernel) (by decide +kernel)
set_option maxRecDepth 20000 in
theorem gX0_keep_X0_paceBehind : GoodIn wsX0_keep (wsV RX0 53 RX0 yX0_paceBehind wsX0_paceBehind) := goodIn_app (goodIn_of _ (by decide +kernel)) ggX0_keep_X0_paceBehind
theorem dX0_keep_0 : decode cX0_keep 0 = .ok (.aload_n 0, 1) := by decide +kernel
theorem dX0_keep_1 : decode cX0_keep 1 = .ok (.getfield 21, 3) := by decide +kernel
theorem dX0_keep_4 : decode cX0_keep 4 = .ok (.sipush 256, 3) := by decide +kernel
theorem dX0_keep_7 : decode cX0_keep 7 = .ok (.if_icmp .lt 4, 3) := by decide +kernel
theorem dX0_keep_10 : decode cX0_keep 10 = .ok (.return_, 1) := by decide +kernel
theorem dX0_keep_11 : decode cX0_keep 11 = .ok (.aload_n 0, 1) := by decide +kernel
theorem dX0_keep_12 : decode cX0_keep 12 = .ok (.getfield 9, 3) := by decide +kernel
theorem dX0_keep_15 : decode cX0_keep 15 = .ok (.aload_n 0, 1) := by decide +kernel
theorem dX0_keep_16 : decode cX0_keep 16 = .ok (.getfield 21, 3) := by decide +kernel
theorem dX0_keep_19 : decode cX0_keep 19 = .ok (.iload_n 1, 1) := by decide +kernel
theorem dX0_keep_20 : decode cX0_keep 20 = .ok (.invokestatic 49, 3) := by decide +kernel
theorem dX0_keep_23 : decode cX0_keep 23 = .ok (.aload_n 0, 1) := by decide +kernel
theorem dX0_keep_24 : decode cX0_keep 24 = .ok (.getfield 15, 3) := by decide +kernel
theorem dX0_keep_27 : decode cX0_keep 27 = .ok (.aload_n 0, 1) := by decide +kernel
theorem dX0_keep_28 : decode cX0_keep 28 = .ok (.getfield 21, 3) := by decide +kernel
theorem dX0_keep_31 : decode cX0_keep 31 = .ok (.iload_n 2, 1) := by decide +kernel
theorem dX0_keep_32 : decode cX0_keep 32 = .ok (.invokestatic 49, 3) := by decide +kernel
theorem dX0_keep_35 : decode cX0_keep 35 = .ok (.aload_n 0, 1) := by decide +kernel
theorem dX0_keep_36 : decode cX0_keep 36 = .ok (.getfield 18, 3) := by decide +kernel
theorem dX0_keep_39 : decode cX0_keep 39 = .ok (.aload_n 0, 1) := by decide +kernel
theorem dX0_keep_40 : decode cX0_keep 40 = .ok (.getfield 21, 3) := by decide +kernel
theorem dX0_keep_43 : decode cX0_keep 43 = .ok (.iload_n 3, 1) := by decide +kernel
theorem dX0_keep_44 : decode cX0_keep 44 = .ok (.invokestatic 49, 3) := by decide +kernel
theorem dX0_keep_47 : decode cX0_keep 47 = .ok (.aload_n 0, 1) := by decide +kernel
theorem dX0_keep_48 : decode cX0_keep 48 = .ok (.dup, 1) := by decide +kernel
theorem dX0_keep_49 : decode cX0_keep 49 = .ok (.getfield 21, 3) := by decide +kernel
theorem dX0_keep_52 : decode cX0_keep 52 = .ok (.iconst 1, 1) := by decide +kernel
theorem dX0_keep_53 : decode cX0_keep 53 = .ok (.iadd, 1) := by decide +kernel
theorem dX0_keep_54 : decode cX0_keep 54 = .ok (.putfield 21, 3) := by decide +kernel
theorem dX0_keep_57 : decode cX0_keep 57 = .ok (.aload_n 0, 1) := by decide +kernel
theorem dX0_keep_58 : decode cX0_keep 58 = .ok (.dup, 1) := by decide +kernel
theorem dX0_keep_59 : decode cX0_keep 59 = .ok (.getfield 28, 3) := by decide +kernel
theorem dX0_keep_62 : decode cX0_keep 62 = .ok (.iload_n 1, 1) := by decide +kernel
theorem dX0_keep_63 : decode cX0_keep 63 = .ok (.iadd, 1) := by decide +kernel
theorem dX0_keep_64 : decode cX0_keep 64 = .ok (.putfield 28, 3) := by decide +kernel
theorem dX0_keep_67 : decode cX0_keep 67 = .ok (.aload_n 0, 1) := by decide +kernel
theorem dX0_keep_68 : decode cX0_keep 68 = .ok (.dup, 1) := by decide +kernel
theorem dX0_keep_69 : decode cX0_keep 69 = .ok (.getfield 31, 3) := by decide +kernel
theorem dX0_keep_72 : decode cX0_keep 72 = .ok (.iload_n 2, 1) := by decide +kernel
theorem dX0_keep_73 : decode cX0_keep 73 = .ok (.iadd, 1) := by decide +kernel
theorem dX0_keep_74 : decode cX0_keep 74 = .ok (.putfield 31, 3) := by decide +kernel
theorem dX0_keep_77 : decode cX0_keep 77 = .ok (.aload_n 0, 1) := by decide +kernel
theorem dX0_keep_78 : decode cX0_keep 78 = .ok (.aload_n 0, 1) := by decide +kernel
theorem dX0_keep_79 : decode cX0_keep 79 = .ok (.iload_n 1, 1) := by decide +kernel
theorem dX0_keep_80 : decode cX0_keep 80 = .ok (.iload_n 2, 1) := by decide +kernel
theorem dX0_keep_81 : decode cX0_keep 81 = .ok (.invokevirtual 53, 3) := by decide +kernel
theorem dX0_keep_84 : decode cX0_keep 84 = .ok (.putfield 25, 3) := by decide +kernel
theorem dX0_keep_87 : decode cX0_keep 87 = .ok (.return_, 1) := by decide +kernel
theorem dX0_paceBehind_0 : decode cX0_paceBehind 0 = .ok (.aload_n 0, 1) := by decide +kernel
theorem dX0_paceBehind_1 : decode cX0_paceBehind 1 = .ok (.getfield 25, 3) := by decide +kernel
theorem dX0_paceBehind_4 : decode cX0_paceBehind 4 = .ok (.istore_n 3, 1) := by decide +kernel
theorem dX0_paceBehind_5 : decode cX0_paceBehind 5 = .ok (.iload_n 2, 1) := by decide +kernel
theorem dX0_paceBehind_6 : decode cX0_paceBehind 6 = .ok (.bipush 100, 2) := by decide +kernel
theorem dX0_paceBehind_8 : decode cX0_paceBehind 8 = .ok (.imul, 1) := by decide +kernel
theorem dX0_paceBehind_9 : decode cX0_paceBehind 9 = .ok (.iload_n 1, 1) := by decide +kernel
theorem dX0_paceBehind_10 : decode cX0_paceBehind 10 = .ok (.bipush 95, 2) := by decide +kernel
theorem dX0_paceBehind_12 : decode cX0_paceBehind 12 = .ok (.imul, 1) := by decide +kernel
theorem dX0_paceBehind_13 : decode cX0_paceBehind 13 = .ok (.if_icmp .lt 21, 3) := by decide +kernel
theorem dX0_paceBehind_16 : decode cX0_paceBehind 16 = .ok (.aload_n 0, 1) := by decide +kernel
theorem dX0_paceBehind_17 : decode cX0_paceBehind 17 = .ok (.getfield 25, 3) := by decide +kernel
theorem dX0_paceBehind_20 : decode cX0_paceBehind 20 = .ok (.aload_n 0, 1) := by decide +kernel
theorem dX0_paceBehind_21 : decode cX0_paceBehind 21 = .ok (.getfield 25, 3) := by decide +kernel
theorem dX0_paceBehind_24 : decode cX0_paceBehind 24 = .ok (.bipush 20, 2) := by decide +kernel
theorem dX0_paceBehind_26 : decode cX0_paceBehind 26 = .ok (.idiv, 1) := by decide +kernel
theorem dX0_paceBehind_27 : decode cX0_paceBehind 27 = .ok (.iadd, 1) := by decide +kernel
theorem dX0_paceBehind_28 : decode cX0_paceBehind 28 = .ok (.iconst 1, 1) := by decide +kernel
theorem dX0_paceBehind_29 : decode cX0_paceBehind 29 = .ok (.iadd, 1) := by decide +kernel
theorem dX0_paceBehind_30 : decode cX0_paceBehind 30 = .ok (.istore_n 3, 1) := by decide +kernel
theorem dX0_paceBehind_31 : decode cX0_paceBehind 31 = .ok (.goto 27, 3) := by decide +kernel
theorem dX0_paceBehind_34 : decode cX0_paceBehind 34 = .ok (.iload_n 2, 1) := by decide +kernel
theorem dX0_paceBehind_35 : decode cX0_paceBehind 35 = .ok (.bipush 100, 2) := by decide +kernel
theorem dX0_paceBehind_37 : decode cX0_paceBehind 37 = .ok (.imul, 1) := by decide +kernel
theorem dX0_paceBehind_38 : decode cX0_paceBehind 38 = .ok (.iload_n 1, 1) := by decide +kernel
theorem dX0_paceBehind_39 : decode cX0_paceBehind 39 = .ok (.bipush 85, 2) := by decide +kernel
theorem dX0_paceBehind_41 : decode cX0_paceBehind 41 = .ok (.imul, 1) := by decide +kernel
theorem dX0_paceBehind_42 : decode cX0_paceBehind 42 = .ok (.if_icmp .ge 16, 3) := by decide +kernel
theorem dX0_paceBehind_45 : decode cX0_paceBehind 45 = .ok (.aload_n 0, 1) := by decide +kernel
theorem dX0_paceBehind_46 : decode cX0_paceBehind 46 = .ok (.getfield 25, 3) := by decide +kernel
theorem dX0_paceBehind_49 : decode cX0_paceBehind 49 = .ok (.aload_n 0, 1) := by decide +kernel
theorem dX0_paceBehind_50 : decode cX0_paceBehind 50 = .ok (.getfield 25, 3) := by decide +kernel
theorem dX0_paceBehind_53 : decode cX0_paceBehind 53 = .ok (.bipush 10, 2) := by decide +kernel
theorem dX0_paceBehind_55 : decode cX0_paceBehind 55 = .ok (.idiv, 1) := by decide +kernel
theorem dX0_paceBehind_56 : decode cX0_paceBehind 56 = .ok (.isub, 1) := by decide +kernel
theorem dX0_paceBehind_57 : decode cX0_paceBehind 57 = .ok (.istore_n 3, 1) := by decide +kernel
theorem dX0_paceBehind_58 : decode cX0_paceBehind 58 = .ok (.sipush 900, 3) := by decide +kernel
theorem dX0_paceBehind_61 : decode cX0_paceBehind 61 = .ok (.bipush 20, 2) := by decide +kernel
theorem dX0_paceBehind_63 : decode cX0_paceBehind 63 = .ok (.iload_n 3, 1) := by decide +kernel
theorem dX0_paceBehind_64 : decode cX0_paceBehind 64 = .ok (.invokestatic 43, 3) := by decide +kernel
theorem dX0_paceBehind_67 : decode cX0_paceBehind 67 = .ok (.invokestatic 56, 3) := by decide +kernel
theorem dX0_paceBehind_70 : decode cX0_paceBehind 70 = .ok (.ireturn, 1) := by decide +kernel
set_option maxRecDepth 20000 in
theorem ggX1_init_J7_fill_53178 : GoodIn wsX1_init wsJ7_fill_53178 := goodIn_r _ [15] (by decide +kernel) (by decide +kernel)
set_option maxRecDepth 20000 in
theorem gX1_init_J7_fill_53178 : GoodIn wsX1_init (va_wsS RX1 27 yJ7_fill_53178 wsJ7_fill_53178) := goodIn_app (goodIn_of _ (by decide +kernel)) ggX1_init_J7_fill_53178
theorem dX1_init_0 : decode cX1_init 0 = .ok (.aload_n 0, 1) := by decide +kernel
theorem dX1_init_1 : decode cX1_init 1 = .ok (.invokespecial 3, 3) := by decide +kernel
theorem dX1_init_4 : decode cX1_init 4 = .ok (.iconst 0, 1) := by decide +kernel
theorem dX1_init_5 : decode cX1_init 5 = .ok (.iload_n 1, 1) := by decide +kernel
theorem dX1_init_6 : decode cX1_init 6 = .ok (.invokestatic 9, 3) := by decide +kernel
theorem dX1_init_9 : decode cX1_init 9 = .ok (.istore_n 2, 1) := by decide +kernel
theorem dX1_init_10 : decode cX1_init 10 = .ok (.aload_n 0, 1) := by decide +kernel
theorem dX1_init_11 : decode cX1_init 11 = .ok (.iload_n 2, 1) := by decide +kernel
theorem dX1_init_12 : decode cX1_init 12 = .ok (.newarray .int, 2) := by decide +kernel
theorem dX1_init_14 : decode cX1_init 14 = .ok (.putfield 15, 3) := by decide +kernel
theorem dX1_init_17 : decode cX1_init 17 = .ok (.aload_n 0, 1) := by decide +kernel
theorem dX1_init_18 : decode cX1_init 18 = .ok (.iload_n 2, 1) := by decide +kernel
theorem dX1_init_19 : decode cX1_init 19 = .ok (.newarray .int, 2) := by decide +kernel
theorem dX1_init_21 : decode cX1_init 21 = .ok (.putfield 21, 3) := by decide +kernel
theorem dX1_init_24 : decode cX1_init 24 = .ok (.aload_n 0, 1) := by decide +kernel
theorem dX1_init_25 : decode cX1_init 25 = .ok (.iload_n 2, 1) := by decide +kernel
theorem dX1_init_26 : decode cX1_init 26 = .ok (.newarray .int, 2) := by decide +kernel
theorem dX1_init_28 : decode cX1_init 28 = .ok (.putfield 24, 3) := by decide +kernel
theorem dX1_init_31 : decode cX1_init 31 = .ok (.aload_n 0, 1) := by decide +kernel
theorem dX1_init_32 : decode cX1_init 32 = .ok (.getfield 24, 3) := by decide +kernel
theorem dX1_init_35 : decode cX1_init 35 = .ok (.sipush 500, 3) := by decide +kernel
theorem dX1_init_38 : decode cX1_init 38 = .ok (.invokestatic 27, 3) := by decide +kernel
theorem dX1_init_41 : decode cX1_init 41 = .ok (.return_, 1) := by decide +kernel
set_option maxRecDepth 20000 in
theorem ggX1_triesOf_X4_read : GoodIn wsX1_triesOf wsX4_read := goodIn_r _ [4] (by decide +kernel) (by decide +kernel)
set_option maxRecDepth 20000 in
theorem gX1_triesOf_X4_read_n33 : GoodIn wsX1_triesOf (wsX4_read) := ggX1_triesOf_X4_read
theorem dX1_triesOf_0 : decode cX1_triesOf 0 = .ok (.aload_n 0, 1) := by decide +kernel
theorem dX1_triesOf_1 : decode cX1_triesOf 1 = .ok (.getfield 15, 3) := by decide +kernel
theorem dX1_triesOf_4 : decode cX1_triesOf 4 = .ok (.iload_n 1, 1) := by decide +kernel
theorem dX1_triesOf_5 : decode cX1_triesOf 5 = .ok (.invokestatic 33, 3) := by decide +kernel
theorem dX1_triesOf_8 : decode cX1_triesOf 8 = .ok (.ireturn, 1) := by decide +kernel
set_option maxRecDepth 20000 in
theorem ggX1_levelOf_X4_read : GoodIn wsX1_levelOf wsX4_read := goodIn_r _ [4] (by decide +kernel) (by decide +kernel)
set_option maxRecDepth 20000 in
theorem gX1_levelOf_X4_read_n33 : GoodIn wsX1_levelOf (wsX4_read) := ggX1_levelOf_X4_read
theorem dX1_levelOf_0 : decode cX1_levelOf 0 = .ok (.aload_n 0, 1) := by decide +kernel
theorem dX1_levelOf_1 : decode cX1_levelOf 1 = .ok (.getfield 24, 3) := by decide +kernel
theorem dX1_levelOf_4 : decode cX1_levelOf 4 = .ok (.iload_n 1, 1) := by decide +kernel
theorem dX1_levelOf_5 : decode cX1_levelOf 5 = .ok (.invokestatic 33, 3) := by decide +kernel
theorem dX1_levelOf_8 : decode cX1_levelOf 8 = .ok (.ireturn, 1) := by decide +kernel
set_option maxRecDepth 20000 in
theorem ggX1_tell_X4_read : GoodIn wsX1_tell wsX4_read := goodIn_r _ [6] (by decide +kernel) (by decide +kernel)
set_option maxRecDepth 20000 in
theorem gX1_tell_X4_read_n33 : GoodIn wsX1_tell (wsX4_read) := ggX1_tell_X4_read
theorem dX1_tell_0 : decode cX1_tell 0 = .ok (.iload_n 2, 1) := by decide +kernel
theorem dX1_tell_1 : decode cX1_tell 1 = .ok (.lookupswitch 45 #[(0, 27), (1, 36)], 27) := by decide +kernel
theorem dX1_tell_28 : decode cX1_tell 28 = .ok (.aload_n 0, 1) := by decide +kernel
theorem dX1_tell_29 : decode cX1_tell 29 = .ok (.getfield 15, 3) := by decide +kernel
theorem dX1_tell_32 : decode cX1_tell 32 = .ok (.iload_n 1, 1) := by decide +kernel
theorem dX1_tell_33 : decode cX1_tell 33 = .ok (.invokestatic 33, 3) := by decide +kernel
theorem dX1_tell_36 : decode cX1_tell 36 = .ok (.ireturn, 1) := by decide +kernel
theorem dX1_tell_37 : decode cX1_tell 37 = .ok (.aload_n 0, 1) := by decide +kernel
theorem dX1_tell_38 : decode cX1_tell 38 = .ok (.getfield 21, 3) := by decide +kernel
theorem dX1_tell_41 : decode cX1_tell 41 = .ok (.iload_n 1, 1) := by decide +kernel
theorem dX1_tell_42 : decode cX1_tell 42 = .ok (.invokestatic 33, 3) := by decide +kernel
theorem dX1_tell_45 : decode cX1_tell 45 = .ok (.ireturn, 1) := by decide +kernel
theorem dX1_tell_46 : decode cX1_tell 46 = .ok (.aload_n 0, 1) := by decide +kernel
theorem dX1_tell_47 : decode cX1_tell 47 = .ok (.getfield 24, 3) := by decide +kernel
theorem dX1_tell_50 : decode cX1_tell 50 = .ok (.iload_n 1, 1) := by decide +kernel
theorem dX1_tell_51 : decode cX1_tell 51 = .ok (.invokestatic 33, 3) := by decide +kernel
theorem dX1_tell_54 : decode cX1_tell 54 = .ok (.ireturn, 1) := by decide +kernel
set_option maxRecDepth 20000 in
theorem ggX1_learn_X4_read : GoodIn wsX1_learn wsX4_read := goodIn_r _ [10] (by decide +kernel) (by decide +kernel)
set_option maxRecDepth 20000 in
theorem gX1_learn_X4_read_n33 : GoodIn wsX1_learn (wsX4_read) := ggX1_learn_X4_read
set_option maxRecDepth 20000 in
theorem ggX1_learn_X4_write : GoodIn wsX1_learn wsX4_write := goodIn_r _ [12] (by decide +kernel) (by decide +kernel)
set_option maxRecDepth 20000 in
theorem gX1_learn_X4_write_n37 : GoodIn wsX1_learn (wsX4_write) := ggX1_learn_X4_write
theorem dX1_learn_0 : decode cX1_learn 0 = .ok (.iload_n 2, 1) := by decide +kernel
theorem dX1_learn_1 : decode cX1_learn 1 = .ok (.ifCond .eq 17, 3) := by decide +kernel
theorem dX1_learn_4 : decode cX1_learn 4 = .ok (.iconst 0, 1) := by decide +kernel
theorem dX1_learn_5 : decode cX1_learn 5 = .ok (.sipush 1000, 3) := by decide +kernel
theorem dX1_learn_8 : decode cX1_learn 8 = .ok (.iload_n 3, 1) := by decide +kernel
theorem dX1_learn_9 : decode cX1_learn 9 = .ok (.iconst 5, 1) := by decide +kernel
theorem dX1_learn_10 : decode cX1_learn 10 = .ok (.idiv, 1) := by decide +kernel
theorem dX1_learn_11 : decode cX1_learn 11 = .ok (.isub, 1) := by decide +kernel
theorem dX1_learn_12 : decode cX1_learn 12 = .ok (.invokestatic 9, 3) := by decide +kernel
theorem dX1_learn_15 : decode cX1_learn 15 = .ok (.goto 4, 3) := by decide +kernel
theorem dX1_learn_18 : decode cX1_learn 18 = .ok (.iconst 0, 1) := by decide +kernel
theorem dX1_learn_19 : decode cX1_learn 19 = .ok (.istore 4, 2) := by decide +kernel
theorem dX1_learn_21 : decode cX1_learn 21 = .ok (.aload_n 0, 1) := by decide +kernel
theorem dX1_learn_22 : decode cX1_learn 22 = .ok (.getfield 24, 3) := by decide +kernel
theorem dX1_learn_25 : decode cX1_learn 25 = .ok (.iload_n 1, 1) := by decide +kernel
theorem dX1_learn_26 : decode cX1_learn 26 = .ok (.invokestatic 33, 3) := by decide +kernel
theorem dX1_learn_29 : decode cX1_learn 29 = .ok (.istore 5, 2) := by decide +kernel
theorem dX1_learn_31 : decode cX1_learn 31 = .ok (.aload_n 0, 1) := by decide +kernel
theorem dX1_learn_32 : decode cX1_learn 32 = .ok (.getfield 15, 3) := by decide +kernel
theorem dX1_learn_35 : decode cX1_learn 35 = .ok (.iload_n 1, 1) := by decide +kernel
theorem dX1_learn_36 : decode cX1_learn 36 = .ok (.aload_n 0, 1) := by decide +kernel
theorem dX1_learn_37 : decode cX1_learn 37 = .ok (.getfield 15, 3) := by decide +kernel
theorem dX1_learn_40 : decode cX1_learn 40 = .ok (.iload_n 1, 1) := by decide +kernel
theorem dX1_learn_41 : decode cX1_learn 41 = .ok (.invokestatic 33, 3) := by decide +kernel
theorem dX1_learn_44 : decode cX1_learn 44 = .ok (.iconst 1, 1) := by decide +kernel
theorem dX1_learn_45 : decode cX1_learn 45 = .ok (.iadd, 1) := by decide +kernel
theorem dX1_learn_46 : decode cX1_learn 46 = .ok (.invokestatic 37, 3) := by decide +kernel
theorem dX1_learn_49 : decode cX1_learn 49 = .ok (.iload_n 2, 1) := by decide +kernel
theorem dX1_learn_50 : decode cX1_learn 50 = .ok (.ifCond .ne 21, 3) := by decide +kernel
theorem dX1_learn_53 : decode cX1_learn 53 = .ok (.aload_n 0, 1) := by decide +kernel
theorem dX1_learn_54 : decode cX1_learn 54 = .ok (.getfield 21, 3) := by decide +kernel
theorem dX1_learn_57 : decode cX1_learn 57 = .ok (.iload_n 1, 1) := by decide +kernel
theorem dX1_learn_58 : decode cX1_learn 58 = .ok (.aload_n 0, 1) := by decide +kernel
theorem dX1_learn_59 : decode cX1_learn 59 = .ok (.getfield 21, 3) := by decide +kernel
theorem dX1_learn_62 : decode cX1_learn 62 = .ok (.iload_n 1, 1) := by decide +kernel
theorem dX1_learn_63 : decode cX1_learn 63 = .ok (.invokestatic 33, 3) := by decide +kernel
theorem dX1_learn_66 : decode cX1_learn 66 = .ok (.iconst 1, 1) := by decide +kernel
theorem dX1_learn_67 : decode cX1_learn 67 = .ok (.iadd, 1) := by decide +kernel
theorem dX1_learn_68 : decode cX1_learn 68 = .ok (.invokestatic 37, 3) := by decide +kernel
theorem dX1_learn_71 : decode cX1_learn 71 = .ok (.aload_n 0, 1) := by decide +kernel
theorem dX1_learn_72 : decode cX1_learn 72 = .ok (.getfield 24, 3) := by decide +kernel
theorem dX1_learn_75 : decode cX1_learn 75 = .ok (.iload_n 1, 1) := by decide +kernel
theorem dX1_learn_76 : decode cX1_learn 76 = .ok (.iload 5, 2) := by decide +kernel
theorem dX1_learn_78 : decode cX1_learn 78 = .ok (.iload 4, 2) := by decide +kernel
theorem dX1_learn_80 : decode cX1_learn 80 = .ok (.iload 5, 2) := by decide +kernel
theorem dX1_learn_82 : decode cX1_learn 82 = .ok (.isub, 1) := by decide +kernel
theorem dX1_learn_83 : decode cX1_learn 83 = .ok (.iconst 4, 1) := by decide +kernel
theorem dX1_learn_84 : decode cX1_learn 84 = .ok (.idiv, 1) := by decide +kernel
theorem dX1_learn_85 : decode cX1_learn 85 = .ok (.iadd, 1) := by decide +kernel
theorem dX1_learn_86 : decode cX1_learn 86 = .ok (.invokestatic 37, 3) := by decide +kernel
theorem dX1_learn_89 : decode cX1_learn 89 = .ok (.return_, 1) := by decide +kernel
theorem dX2_init_0 : decode cX2_init 0 = .ok (.aload_n 0, 1) := by decide +kernel
theorem dX2_init_1 : decode cX2_init 1 = .ok (.invokespecial 3, 3) := by decide +kernel
theorem dX2_init_4 : decode cX2_init 4 = .ok (.aload_n 0, 1) := by decide +kernel
theorem dX2_init_5 : decode cX2_init 5 = .ok (.bipush 6, 2) := by decide +kernel
theorem dX2_init_7 : decode cX2_init 7 = .ok (.newarray .int, 2) := by decide +kernel
theorem dX2_init_9 : decode cX2_init 9 = .ok (.putfield 9, 3) := by decide +kernel
theorem dX2_init_12 : decode cX2_init 12 = .ok (.aload_n 0, 1) := by decide +kernel
theorem dX2_init_13 : decode cX2_init 13 = .ok (.bipush 48, 2) := by decide +kernel
theorem dX2_init_15 : decode cX2_init 15 = .ok (.newarray .int, 2) := by decide +kernel
theorem dX2_init_17 : decode cX2_init 17 = .ok (.putfield 15, 3) := by decide +kernel
theorem dX2_init_20 : decode cX2_init 20 = .ok (.aload_n 0, 1) := by decide +kernel
theorem dX2_init_21 : decode cX2_init 21 = .ok (.bipush 48, 2) := by decide +kernel
theorem dX2_init_23 : decode cX2_init 23 = .ok (.newarray .int, 2) := by decide +kernel
theorem dX2_init_25 : decode cX2_init 25 = .ok (.putfield 18, 3) := by decide +kernel
theorem dX2_init_28 : decode cX2_init 28 = .ok (.aload_n 0, 1) := by decide +kernel
theorem dX2_init_29 : decode cX2_init 29 = .ok (.bipush 26, 2) := by decide +kernel
theorem dX2_init_31 : decode cX2_init 31 = .ok (.newarray .int, 2) := by decide +kernel
theorem dX2_init_33 : decode cX2_init 33 = .ok (.putfield 21, 3) := by decide +kernel
theorem dX2_init_36 : decode cX2_init 36 = .ok (.aload_n 0, 1) := by decide +kernel
theorem dX2_init_37 : decode cX2_init 37 = .ok (.iconst 0, 1) := by decide +kernel
theorem dX2_init_38 : decode cX2_init 38 = .ok (.putfield 24, 3) := by decide +kernel
theorem dX2_init_41 : decode cX2_init 41 = .ok (.aload_n 0, 1) := by decide +kernel
theorem dX2_init_42 : decode cX2_init 42 = .ok (.iconst 0, 1) := by decide +kernel
theorem dX2_init_43 : decode cX2_init 43 = .ok (.putfield 28, 3) := by decide +kernel
theorem dX2_init_46 : decode cX2_init 46 = .ok (.aload_n 0, 1) := by decide +kernel
theorem dX2_init_47 : decode cX2_init 47 = .ok (.iconst 0, 1) := by decide +kernel
theorem dX2_init_48 : decode cX2_init 48 = .ok (.putfield 32, 3) := by decide +kernel
theorem dX2_init_51 : decode cX2_init 51 = .ok (.aload_n 0, 1) := by decide +kernel
theorem dX2_init_52 : decode cX2_init 52 = .ok (.iconst 0, 1) := by decide +kernel
theorem dX2_init_53 : decode cX2_init 53 = .ok (.putfield 35, 3) := by decide +kernel
theorem dX2_init_56 : decode cX2_init 56 = .ok (.aload_n 0, 1) := by decide +kernel
theorem dX2_init_57 : decode cX2_init 57 = .ok (.iconst 0, 1) := by decide +kernel
theorem dX2_init_58 : decode cX2_init 58 = .ok (.putfield 38, 3) := by decide +kernel
theorem dX2_init_61 : decode cX2_init 61 = .ok (.aload_n 0, 1) := by decide +kernel
theorem dX2_init_62 : decode cX2_init 62 = .ok (.iconst 0, 1) := by decide +kernel
theorem dX2_init_63 : decode cX2_init 63 = .ok (.putfield 41, 3) := by decide +kernel
theorem dX2_init_66 : decode cX2_init 66 = .ok (.aload_n 0, 1) := by decide +kernel
theorem dX2_init_67 : decode cX2_init 67 = .ok (.iconst 0, 1) := by decide +kernel
theorem dX2_init_68 : decode cX2_init 68 = .ok (.putfield 44, 3) := by decide +kernel
theorem dX2_init_71 : decode cX2_init 71 = .ok (.return_, 1) := by decide +kernel
theorem dX2_isRunning_0 : decode cX2_isRunning 0 = .ok (.aload_n 0, 1) := by decide +kernel
theorem dX2_isRunning_1 : decode cX2_isRunning 1 = .ok (.getfield 24, 3) := by decide +kernel
theorem dX2_isRunning_4 : decode cX2_isRunning 4 = .ok (.ireturn, 1) := by decide +kernel
theorem dX2_wordTotal_0 : decode cX2_wordTotal 0 = .ok (.aload_n 0, 1) := by decide +kernel
theorem dX2_wordTotal_1 : decode cX2_wordTotal 1 = .ok (.getfield 28, 3) := by decide +kernel
theorem dX2_wordTotal_4 : decode cX2_wordTotal 4 = .ok (.ireturn, 1) := by decide +kernel
theorem dX2_letterTotal_0 : decode cX2_letterTotal 0 = .ok (.aload_n 0, 1) := by decide +kernel
theorem dX2_letterTotal_1 : decode cX2_letterTotal 1 = .ok (.getfield 32, 3) := by decide +kernel
theorem dX2_letterTotal_4 : decode cX2_letterTotal 4 = .ok (.ireturn, 1) := by decide +kernel
theorem dX2_triedTotal_0 : decode cX2_triedTotal 0 = .ok (.aload_n 0, 1) := by decide +kernel
theorem dX2_triedTotal_1 : decode cX2_triedTotal 1 = .ok (.getfield 35, 3) := by decide +kernel
theorem dX2_triedTotal_4 : decode cX2_triedTotal 4 = .ok (.ireturn, 1) := by decide +kernel
theorem dX2_cleanTotal_0 : decode cX2_cleanTotal 0 = .ok (.aload_n 0, 1) := by decide +kernel
theorem dX2_cleanTotal_1 : decode cX2_cleanTotal 1 = .ok (.getfield 38, 3) := by decide +kernel
theorem dX2_cleanTotal_4 : decode cX2_cleanTotal 4 = .ok (.ireturn, 1) := by decide +kernel
theorem dX2_timeSum_0 : decode cX2_timeSum 0 = .ok (.aload_n 0, 1) := by decide +kernel
theorem dX2_timeSum_1 : decode cX2_timeSum 1 = .ok (.getfield 41, 3) := by decide +kernel
theorem dX2_timeSum_4 : decode cX2_timeSum 4 = .ok (.ireturn, 1) := by decide +kernel
theorem dX2_mistakesHere_0 : decode cX2_mistakesHere 0 = .ok (.aload_n 0, 1) := by decide +kernel
theorem dX2_mistakesHere_1 : decode cX2_mistakesHere 1 = .ok (.getfield 44, 3) := by decide +kernel
theorem dX2_mistakesHere_4 : decode cX2_mistakesHere 4 = .ok (.ireturn, 1) := by decide +kernel
set_option maxRecDepth 20000 in
theorem ggX2_numberAt_X4_read : GoodIn wsX2_numberAt wsX4_read := goodIn_r _ [4] (by decide +kernel) (by decide +kernel)
set_option maxRecDepth 20000 in
theorem gX2_numberAt_X4_read_n47 : GoodIn wsX2_numberAt (wsX4_read) := ggX2_numberAt_X4_read
theorem dX2_numberAt_0 : decode cX2_numberAt 0 = .ok (.aload_n 0, 1) := by decide +kernel
theorem dX2_numberAt_1 : decode cX2_numberAt 1 = .ok (.getfield 9, 3) := by decide +kernel
theorem dX2_numberAt_4 : decode cX2_numberAt 4 = .ok (.iload_n 1, 1) := by decide +kernel
theorem dX2_numberAt_5 : decode cX2_numberAt 5 = .ok (.invokestatic 47, 3) := by decide +kernel
theorem dX2_numberAt_8 : decode cX2_numberAt 8 = .ok (.ireturn, 1) := by decide +kernel
set_option maxRecDepth 20000 in
theorem ggX2_letterHere_X4_read : GoodIn wsX2_letterHere wsX4_read := goodIn_r _ [5] (by decide +kernel) (by decide +kernel)
set_option maxRecDepth 20000 in
theorem gX2_letterHere_X4_read_n47 : GoodIn wsX2_letterHere (wsX4_read) := ggX2_letterHere_X4_read
theorem dX2_letterHere_0 : decode cX2_letterHere 0 = .ok (.aload_n 0, 1) := by decide +kernel
theorem dX2_letterHere_1 : decode cX2_letterHere 1 = .ok (.getfield 15, 3) := by decide +kernel
theorem dX2_letterHere_4 : decode cX2_letterHere 4 = .ok (.aload_n 0, 1) := by decide +kernel
theorem dX2_letterHere_5 : decode cX2_letterHere 5 = .ok (.getfield 35, 3) := by decide +kernel
theorem dX2_letterHere_8 : decode cX2_letterHere 8 = .ok (.invokestatic 47, 3) := by decide +kernel
theorem dX2_letterHere_11 : decode cX2_letterHere 11 = .ok (.ireturn, 1) := by decide +kernel
set_option maxRecDepth 20000 in
theorem ggX2_letterBefore_X2_letterInSameWord : GoodIn wsX2_letterBefore wsX2_letterInSameWord := goodIn_r _ [6, 7, 8, 1, 9, 10, 11, 12, 13, 14, 15, 16, 17, 18, 19, 20, 21, 22, 23] (by decide +kernel) (by decide +kernel)
set_option maxRecDepth 20000 in
theorem gX2_letterBefore_X2_letterInSameWord : GoodIn wsX2_letterBefore (wsV RX2 51 RX2 yX2_letterInSameWord wsX2_letterInSameWord) := goodIn_app (goodIn_of _ (by decide +kernel)) ggX2_letterBefore_X2_letterInSameWord
theorem dX2_letterBefore_0 : decode cX2_letterBefore 0 = .ok (.aload_n 0, 1) := by decide +kernel
theorem dX2_letterBefore_1 : decode cX2_letterBefore 1 = .ok (.aload_n 0, 1) := by decide +kernel
theorem dX2_letterBefore_2 : decode cX2_letterBefore 2 = .ok (.getfield 35, 3) := by decide +kernel
theorem dX2_letterBefore_5 : decode cX2_letterBefore 5 = .ok (.iconst 1, 1) := by decide +kernel
theorem dX2_letterBefore_6 : decode cX2_letterBefore 6 = .ok (.isub, 1) := by decide +kernel
theorem dX2_letterBefore_7 : decode cX2_letterBefore 7 = .ok (.invokevirtual 51, 3) := by decide +kernel
theorem dX2_letterBefore_10 : decode cX2_letterBefore 10 = .ok (.ireturn, 1) := by decide +kernel
set_option maxRecDepth 20000 in
theorem ggX2_letterAfter_X2_letterInSameWord : GoodIn wsX2_letterAfter wsX2_letterInSameWord := goodIn_r _ [6, 7, 8, 1, 9, 10, 11, 12, 13, 14, 15, 16, 17, 18, 19, 20, 21, 22, 23] (by decide +kernel) (by decide +kernel)
set_option maxRecDepth 20000 in
theorem gX2_letterAfter_X2_letterInSameWord : GoodIn wsX2_letterAfter (wsV RX2 51 RX2 yX2_letterInSameWord wsX2_letterInSameWord) := goodIn_app (goodIn_of _ (by decide +kernel)) ggX2_letterAfter_X2_letterInSameWord
theorem dX2_letterAfter_0 : decode cX2_letterAfter 0 = .ok (.aload_n 0, 1) := by decide +kernel
theorem dX2_letterAfter_1 : decode cX2_letterAfter 1 = .ok (.aload_n 0, 1) := by decide +kernel
theorem dX2_letterAfter_2 : decode cX2_letterAfter 2 = .ok (.getfield 35, 3) := by decide +kernel
theorem dX2_letterAfter_5 : decode cX2_letterAfter 5 = .ok (.iconst 1, 1) := by decide +kernel
theorem dX2_letterAfter_6 : decode cX2_letterAfter 6 = .ok (.iadd, 1) := by decide +kernel
theorem dX2_letterAfter_7 : decode cX2_letterAfter 7 = .ok (.invokevirtual 51, 3) := by decide +kernel
theorem dX2_letterAfter_10 : decode cX2_letterAfter 10 = .ok (.ireturn, 1) := by decide +kernel
set_option maxRecDepth 20000 in
theorem ggX2_letterInSameWord_X4_read : GoodIn wsX2_letterInSameWord wsX4_read := goodIn_r _ [7] (by decide +kernel) (by decide +kernel)
set_option maxRecDepth 20000 in
theorem gX2_letterInSameWord_X4_read_n47 : GoodIn wsX2_letterInSameWord (wsX4_read) := ggX2_letterInSameWord_X4_read
theorem dX2_letterInSameWord_0 : decode cX2_letterInSameWord 0 = .ok (.iload_n 1, 1) := by decide +kernel
theorem dX2_letterInSameWord_1 : decode cX2_letterInSameWord 1 = .ok (.ifCond .lt 33, 3) := by decide +kernel
theorem dX2_letterInSameWord_4 : decode cX2_letterInSameWord 4 = .ok (.iload_n 1, 1) := by decide +kernel
theorem dX2_letterInSameWord_5 : decode cX2_letterInSameWord 5 = .ok (.aload_n 0, 1) := by decide +kernel
theorem dX2_letterInSameWord_6 : decode cX2_letterInSameWord 6 = .ok (.getfield 32, 3) := by decide +kernel
theorem dX2_letterInSameWord_9 : decode cX2_letterInSameWord 9 = .ok (.if_icmp .ge 25, 3) := by decide +kernel
theorem dX2_letterInSameWord_12 : decode cX2_letterInSameWord 12 = .ok (.aload_n 0, 1) := by decide +kernel
theorem dX2_letterInSameWord_13 : decode cX2_letterInSameWord 13 = .ok (.getfield 18, 3) := by decide +kernel
theorem dX2_letterInSameWord_16 : decode cX2_letterInSameWord 16 = .ok (.iload_n 1, 1) := by decide +kernel
theorem dX2_letterInSameWord_17 : decode cX2_letterInSameWord 17 = .ok (.invokestatic 47, 3) := by decide +kernel
theorem dX2_letterInSameWord_20 : decode cX2_letterInSameWord 20 = .ok (.aload_n 0, 1) := by decide +kernel
theorem dX2_letterInSameWord_21 : decode cX2_letterInSameWord 21 = .ok (.getfield 18, 3) := by decide +kernel
theorem dX2_letterInSameWord_24 : decode cX2_letterInSameWord 24 = .ok (.aload_n 0, 1) := by decide +kernel
theorem dX2_letterInSameWord_25 : decode cX2_letterInSameWord 25 = .ok (.getfield 35, 3) := by decide +kernel
theorem dX2_letterInSameWord_28 : decode cX2_letterInSameWord 28 = .ok (.invokestatic 47, 3) := by decide +kernel
theorem dX2_letterInSameWord_31 : decode cX2_letterInSameWord 31 = .ok (.if_icmp .eq 5, 3) := by decide +kernel
theorem dX2_letterInSameWord_34 : decode cX2_letterInSameWord 34 = .ok (.iconst (-1), 1) := by decide +kernel
theorem dX2_letterInSameWord_35 : decode cX2_letterInSameWord 35 = .ok (.ireturn, 1) := by decide +kernel
theorem dX2_letterInSameWord_36 : decode cX2_letterInSameWord 36 = .ok (.aload_n 0, 1) := by decide +kernel
theorem dX2_letterInSameWord_37 : decode cX2_letterInSameWord 37 = .ok (.getfield 15, 3) := by decide +kernel
theorem dX2_letterInSameWord_40 : decode cX2_letterInSameWord 40 = .ok (.iload_n 1, 1) := by decide +kernel
theorem dX2_letterInSameWord_41 : decode cX2_letterInSameWord 41 = .ok (.invokestatic 47, 3) := by decide +kernel
theorem dX2_letterInSameWord_44 : decode cX2_letterInSameWord 44 = .ok (.ireturn, 1) := by decide +kernel
set_option maxRecDepth 20000 in
theorem ggX2_hasWord_X4_read : GoodIn wsX2_hasWord wsX4_read := goodIn_r _ [5] (by decide +kernel) (by decide +kernel)
set_option maxRecDepth 20000 in
theorem gX2_hasWord_X4_read_n47 : GoodIn wsX2_hasWord (wsX4_read) := ggX2_hasWord_X4_read
theorem dX2_hasWord_0 : decode cX2_hasWord 0 = .ok (.iconst 0, 1) := by decide +kernel
theorem dX2_hasWord_1 : decode cX2_hasWord 1 = .ok (.istore_n 2, 1) := by decide +kernel
theorem dX2_hasWord_2 : decode cX2_hasWord 2 = .ok (.iload_n 2, 1) := by decide +kernel
theorem dX2_hasWord_3 : decode cX2_hasWord 3 = .ok (.aload_n 0, 1) := by decide +kernel
theorem dX2_hasWord_4 : decode cX2_hasWord 4 = .ok (.getfield 28, 3) := by decide +kernel
theorem dX2_hasWord_7 : decode cX2_hasWord 7 = .ok (.if_icmp .ge 23, 3) := by decide +kernel
theorem dX2_hasWord_10 : decode cX2_hasWord 10 = .ok (.aload_n 0, 1) := by decide +kernel
theorem dX2_hasWord_11 : decode cX2_hasWord 11 = .ok (.getfield 9, 3) := by decide +kernel
theorem dX2_hasWord_14 : decode cX2_hasWord 14 = .ok (.iload_n 2, 1) := by decide +kernel
theorem dX2_hasWord_15 : decode cX2_hasWord 15 = .ok (.invokestatic 47, 3) := by decide +kernel
theorem dX2_hasWord_18 : decode cX2_hasWord 18 = .ok (.iload_n 1, 1) := by decide +kernel
theorem dX2_hasWord_19 : decode cX2_hasWord 19 = .ok (.if_icmp .ne 5, 3) := by decide +kernel
theorem dX2_hasWord_22 : decode cX2_hasWord 22 = .ok (.iconst 1, 1) := by decide +kernel
theorem dX2_hasWord_23 : decode cX2_hasWord 23 = .ok (.ireturn, 1) := by decide +kernel
theorem dX2_hasWord_24 : decode cX2_hasWord 24 = .ok (.iinc 2 1, 3) := by decide +kernel
theorem dX2_hasWord_27 : decode cX2_hasWord 27 = .ok (.goto (-25), 3) := by decide +kernel
theorem dX2_hasWord_30 : decode cX2_hasWord 30 = .ok (.iconst 0, 1) := by decide +kernel
theorem dX2_hasWord_31 : decode cX2_hasWord 31 = .ok (.ireturn, 1) := by decide +kernel
set_option maxRecDepth 20000 in
theorem ggX2_hasPair_X4_read : GoodIn wsX2_hasPair wsX4_read := goodIn_r _ [4] (by decide +kernel) (by decide +kernel)
set_option maxRecDepth 20000 in
theorem gX2_hasPair_X4_read_n47 : GoodIn wsX2_hasPair (wsX4_read) := ggX2_hasPair_X4_read
theorem dX2_hasPair_0 : decode cX2_hasPair 0 = .ok (.aload_n 0, 1) := by decide +kernel
theorem dX2_hasPair_1 : decode cX2_hasPair 1 = .ok (.getfield 21, 3) := by decide +kernel
theorem dX2_hasPair_4 : decode cX2_hasPair 4 = .ok (.iload_n 1, 1) := by decide +kernel
theorem dX2_hasPair_5 : decode cX2_hasPair 5 = .ok (.invokestatic 47, 3) := by decide +kernel
theorem dX2_hasPair_8 : decode cX2_hasPair 8 = .ok (.iconst 1, 1) := by decide +kernel
theorem dX2_hasPair_9 : decode cX2_hasPair 9 = .ok (.iload_n 2, 1) := by decide +kernel
theorem dX2_hasPair_10 : decode cX2_hasPair 10 = .ok (.ishl, 1) := by decide +kernel
theorem dX2_hasPair_11 : decode cX2_hasPair 11 = .ok (.iand, 1) := by decide +kernel
theorem dX2_hasPair_12 : decode cX2_hasPair 12 = .ok (.ifCond .eq 7, 3) := by decide +kernel
theorem dX2_hasPair_15 : decode cX2_hasPair 15 = .ok (.iconst 1, 1) := by decide +kernel
theorem dX2_hasPair_16 : decode cX2_hasPair 16 = .ok (.goto 4, 3) := by decide +kernel
theorem dX2_hasPair_19 : decode cX2_hasPair 19 = .ok (.iconst 0, 1) := by decide +kernel
theorem dX2_hasPair_20 : decode cX2_hasPair 20 = .ok (.ireturn, 1) := by decide +kernel
set_option maxRecDepth 20000 in
theorem ggX2_start_J7_fill_53178 : GoodIn wsX2_start wsJ7_fill_53178 := goodIn_r _ [12] (by decide +kernel) (by decide +kernel)
set_option maxRecDepth 20000 in
theorem gX2_start_J7_fill_53178 : GoodIn wsX2_start (va_wsS RX2 55 yJ7_fill_53178 wsJ7_fill_53178) := goodIn_app (goodIn_of _ (by decide +kernel)) ggX2_start_J7_fill_53178
theorem dX2_start_0 : decode cX2_start 0 = .ok (.aload_n 0, 1) := by decide +kernel
theorem dX2_start_1 : decode cX2_start 1 = .ok (.getfield 21, 3) := by decide +kernel
theorem dX2_start_4 : decode cX2_start 4 = .ok (.iconst 0, 1) := by decide +kernel
theorem dX2_start_5 : decode cX2_start 5 = .ok (.invokestatic 55, 3) := by decide +kernel
theorem dX2_start_8 : decode cX2_start 8 = .ok (.aload_n 0, 1) := by decide +kernel
theorem dX2_start_9 : decode cX2_start 9 = .ok (.iconst 1, 1) := by decide +kernel
theorem dX2_start_10 : decode cX2_start 10 = .ok (.putfield 24, 3) := by decide +kernel
theorem dX2_start_13 : decode cX2_start 13 = .ok (.aload_n 0, 1) := by decide +kernel
theorem dX2_start_14 : decode cX2_start 14 = .ok (.iconst 0, 1) := by decide +kernel
theorem dX2_start_15 : decode cX2_start 15 = .ok (.putfield 28, 3) := by decide +kernel
theorem dX2_start_18 : decode cX2_start 18 = .ok (.aload_n 0, 1) := by decide +kernel
theorem dX2_start_19 : decode cX2_start 19 = .ok (.iconst 0, 1) := by decide +kernel
theorem dX2_start_20 : decode cX2_start 20 = .ok (.putfield 32, 3) := by decide +kernel
theorem dX2_start_23 : decode cX2_start 23 = .ok (.aload_n 0, 1) := by decide +kernel
theorem dX2_start_24 : decode cX2_start 24 = .ok (.iconst 0, 1) := by decide +kernel
theorem dX2_start_25 : decode cX2_start 25 = .ok (.putfield 35, 3) := by decide +kernel
theorem dX2_start_28 : decode cX2_start 28 = .ok (.aload_n 0, 1) := by decide +kernel
theorem dX2_start_29 : decode cX2_start 29 = .ok (.iconst 0, 1) := by decide +kernel
theorem dX2_start_30 : decode cX2_start 30 = .ok (.putfield 38, 3) := by decide +kernel
theorem dX2_start_33 : decode cX2_start 33 = .ok (.aload_n 0, 1) := by decide +kernel
theorem dX2_start_34 : decode cX2_start 34 = .ok (.iconst 0, 1) := by decide +kernel
theorem dX2_start_35 : decode cX2_start 35 = .ok (.putfield 41, 3) := by decide +kernel
theorem dX2_start_38 : decode cX2_start 38 = .ok (.aload_n 0, 1) := by decide +kernel
theorem dX2_start_39 : decode cX2_start 39 = .ok (.iconst 0, 1) := by decide +kernel
theorem dX2_start_40 : decode cX2_start 40 = .ok (.putfield 44, 3) := by decide +kernel
theorem dX2_start_43 : decode cX2_start 43 = .ok (.return_, 1) := by decide +kernel
set_option maxRecDepth 20000 in
theorem ggX2_append_X4_lengthOf : GoodIn wsX2_append wsX4_lengthOf := goodIn_r _ [9] (by decide +kernel) (by decide +kernel)
set_option maxRecDepth 20000 in
theorem gX2_append_X4_lengthOf_n61 : GoodIn wsX2_append (wsX4_lengthOf) := ggX2_append_X4_lengthOf
set_option maxRecDepth 20000 in
theorem ggX2_append_X4_letterOf : GoodIn wsX2_append wsX4_letterOf := goodIn_r _ [11, 12] (by decide +kernel) (by decide +kernel)
set_option maxRecDepth 20000 in
theorem gX2_append_X4_letterOf_n65 : GoodIn wsX2_append (wsX4_letterOf) := ggX2_append_X4_letterOf
set_option maxRecDepth 20000 in
theorem ggX2_append_X4_read : GoodIn wsX2_append wsX4_read := goodIn_r _ [14] (by decide +kernel) (by decide +kernel)
set_option maxRecDepth 20000 in
theorem gX2_append_X4_read_n47 : GoodIn wsX2_append (wsX4_read) := ggX2_append_X4_read
set_option maxRecDepth 20000 in
theorem ggX2_append_X4_write : GoodIn wsX2_append wsX4_write := goodIn_r _ [16] (by decide +kernel) (by decide +kernel)
set_option maxRecDepth 20000 in
theorem gX2_append_X4_write_n69 : GoodIn wsX2_append (wsX4_write) := ggX2_append_X4_write
theorem dX2_append_0 : decode cX2_append 0 = .ok (.lload_n 2, 1) := by decide +kernel
theorem dX2_append_1 : decode cX2_append 1 = .ok (.invokestatic 61, 3) := by decide +kernel
theorem dX2_append_4 : decode cX2_append 4 = .ok (.istore 4, 2) := by decide +kernel
theorem dX2_append_6 : decode cX2_append 6 = .ok (.iconst 0, 1) := by decide +kernel
theorem dX2_append_7 : decode cX2_append 7 = .ok (.istore 5, 2) := by decide +kernel
theorem dX2_append_9 : decode cX2_append 9 = .ok (.iload 5, 2) := by decide +kernel
theorem dX2_append_11 : decode cX2_append 11 = .ok (.iload 4, 2) := by decide +kernel
theorem dX2_append_13 : decode cX2_append 13 = .ok (.if_icmp .ge 97, 3) := by decide +kernel
theorem dX2_append_16 : decode cX2_append 16 = .ok (.lload_n 2, 1) := by decide +kernel
theorem dX2_append_17 : decode cX2_append 17 = .ok (.iload 4, 2) := by decide +kernel
theorem dX2_append_19 : decode cX2_append 19 = .ok (.iload 5, 2) := by decide +kernel
theorem dX2_append_21 : decode cX2_append 21 = .ok (.invokestatic 65, 3) := by decide +kernel
theorem dX2_append_24 : decode cX2_append 24 = .ok (.istore 6, 2) := by decide +kernel
theorem dX2_append_26 : decode cX2_append 26 = .ok (.iload 5, 2) := by decide +kernel
theorem dX2_append_28 : decode cX2_append 28 = .ok (.ifCond .le 38, 3) := by decide +kernel
theorem dX2_append_31 : decode cX2_append 31 = .ok (.lload_n 2, 1) := by decide +kernel
theorem dX2_append_32 : decode cX2_append 32 = .ok (.iload 4, 2) := by decide +kernel
theorem dX2_append_34 : decode cX2_append 34 = .ok (.iload 5, 2) := by decide +kernel
theorem dX2_append_36 : decode cX2_append 36 = .ok (.iconst 1, 1) := by decide +kernel
theorem dX2_append_37 : decode cX2_append 37 = .ok (.isub, 1) := by decide +kernel
theorem dX2_append_38 : decode cX2_append 38 = .ok (.invokestatic 65, 3) := by decide +kernel
theorem dX2_append_41 : decode cX2_append 41 = .ok (.istore 7, 2) := by decide +kernel
theorem dX2_append_43 : decode cX2_append 43 = .ok (.aload_n 0, 1) := by decide +kernel
theorem dX2_append_44 : decode cX2_append 44 = .ok (.getfield 21, 3) := by decide +kernel
theorem dX2_append_47 : decode cX2_append 47 = .ok (.iload 7, 2) := by decide +kernel
theorem dX2_append_49 : decode cX2_append 49 = .ok (.aload_n 0, 1) := by decide +kernel
theorem dX2_append_50 : decode cX2_append 50 = .ok (.getfield 21, 3) := by decide +kernel
theorem dX2_append_53 : decode cX2_append 53 = .ok (.iload 7, 2) := by decide +kernel
theorem dX2_append_55 : decode cX2_append 55 = .ok (.invokestatic 47, 3) := by decide +kernel
theorem dX2_append_58 : decode cX2_append 58 = .ok (.iconst 1, 1) := by decide +kernel
theorem dX2_append_59 : decode cX2_append 59 = .ok (.iload 6, 2) := by decide +kernel
theorem dX2_append_61 : decode cX2_append 61 = .ok (.ishl, 1) := by decide +kernel
theorem dX2_append_62 : decode cX2_append 62 = .ok (.ior, 1) := by decide +kernel
theorem dX2_append_63 : decode cX2_append 63 = .ok (.invokestatic 69, 3) := by decide +kernel
theorem dX2_append_66 : decode cX2_append 66 = .ok (.aload_n 0, 1) := by decide +kernel
theorem dX2_append_67 : decode cX2_append 67 = .ok (.getfield 15, 3) := by decide +kernel
theorem dX2_append_70 : decode cX2_append 70 = .ok (.aload_n 0, 1) := by decide +kernel
theorem dX2_append_71 : decode cX2_append 71 = .ok (.getfield 32, 3) := by decide +kernel
theorem dX2_append_74 : decode cX2_append 74 = .ok (.iload 6, 2) := by decide +kernel
theorem dX2_append_76 : decode cX2_append 76 = .ok (.invokestatic 69, 3) := by decide +kernel
theorem dX2_append_79 : decode cX2_append 79 = .ok (.aload_n 0, 1) := by decide +kernel
theorem dX2_append_80 : decode cX2_append 80 = .ok (.getfield 18, 3) := by decide +kernel
theorem dX2_append_83 : decode cX2_append 83 = .ok (.aload_n 0, 1) := by decide +kernel
theorem dX2_append_84 : decode cX2_append 84 = .ok (.getfield 32, 3) := by decide +kernel
theorem dX2_append_87 : decode cX2_append 87 = .ok (.aload_n 0, 1) := by decide +kernel
theorem dX2_append_88 : decode cX2_append 88 = .ok (.getfield 28, 3) := by decide +kernel
theorem dX2_append_91 : decode cX2_append 91 = .ok (.invokestatic 69, 3) := by decide +kernel
theorem dX2_append_94 : decode cX2_append 94 = .ok (.aload_n 0, 1) := by decide +kernel
theorem dX2_append_95 : decode cX2_append 95 = .ok (.dup, 1) := by decide +kernel
theorem dX2_append_96 : decode cX2_append 96 = .ok (.getfield 32, 3) := by decide +kernel
theorem dX2_append_99 : decode cX2_append 99 = .ok (.iconst 1, 1) := by decide +kernel
theorem dX2_append_100 : decode cX2_append 100 = .ok (.iadd, 1) := by decide +kernel
theorem dX2_append_101 : decode cX2_append 101 = .ok (.putfield 32, 3) := by decide +kernel
theorem dX2_append_104 : decode cX2_append 104 = .ok (.iinc 5 1, 3) := by decide +kernel
theorem dX2_append_107 : decode cX2_append 107 = .ok (.goto (-98), 3) := by decide +kernel
theorem dX2_append_110 : decode cX2_append 110 = .ok (.aload_n 0, 1) := by decide +kernel
theorem dX2_append_111 : decode cX2_append 111 = .ok (.getfield 9, 3) := by decide +kernel
theorem dX2_append_114 : decode cX2_append 114 = .ok (.aload_n 0, 1) := by decide +kernel
theorem dX2_append_115 : decode cX2_append 115 = .ok (.getfield 28, 3) := by decide +kernel
theorem dX2_append_118 : decode cX2_append 118 = .ok (.iload_n 1, 1) := by decide +kernel
theorem dX2_append_119 : decode cX2_append 119 = .ok (.invokestatic 69, 3) := by decide +kernel
theorem dX2_append_122 : decode cX2_append 122 = .ok (.aload_n 0, 1) := by decide +kernel
theorem dX2_append_123 : decode cX2_append 123 = .ok (.dup, 1) := by decide +kernel
theorem dX2_append_124 : decode cX2_append 124 = .ok (.getfield 28, 3) := by decide +kernel
theorem dX2_append_127 : decode cX2_append 127 = .ok (.iconst 1, 1) := by decide +kernel
theorem dX2_append_128 : decode cX2_append 128 = .ok (.iadd, 1) := by decide +kernel
theorem dX2_append_129 : decode cX2_append 129 = .ok (.putfield 28, 3) := by decide +kernel
theorem dX2_append_132 : decode cX2_append 132 = .ok (.return_, 1) := by decide +kernel
theorem dX2_noteStroke_0 : decode cX2_noteStroke 0 = .ok (.aload_n 0, 1) := by decide +kernel
theorem dX2_noteStroke_1 : decode cX2_noteStroke 1 = .ok (.dup, 1) := by decide +kernel
theorem dX2_noteStroke_2 : decode cX2_noteStroke 2 = .ok (.getfield 41, 3) := by decide +kernel
theorem dX2_noteStroke_5 : decode cX2_noteStroke 5 = .ok (.iload_n 2, 1) := by decide +kernel
theorem dX2_noteStroke_6 : decode cX2_noteStroke 6 = .ok (.iadd, 1) := by decide +kernel
theorem dX2_noteStroke_7 : decode cX2_noteStroke 7 = .ok (.putfield 41, 3) := by decide +kernel
theorem dX2_noteStroke_10 : decode cX2_noteStroke 10 = .ok (.iload_n 1, 1) := by decide +kernel
theorem dX2_noteStroke_11 : decode cX2_noteStroke 11 = .ok (.ifCond .eq 13, 3) := by decide +kernel
theorem dX2_noteStroke_14 : decode cX2_noteStroke 14 = .ok (.aload_n 0, 1) := by decide +kernel
theorem dX2_noteStroke_15 : decode cX2_noteStroke 15 = .ok (.dup, 1) := by decide +kernel
theorem dX2_noteStroke_16 : decode cX2_noteStroke 16 = .ok (.getfield 44, 3) := by decide +kernel
theorem dX2_noteStroke_19 : decode cX2_noteStroke 19 = .ok (.iconst 1, 1) := by decide +kernel
theorem dX2_noteStroke_20 : decode cX2_noteStroke 20 = .ok (.iadd, 1) := by decide +kernel
theorem dX2_noteStroke_21 : decode cX2_noteStroke 21 = .ok (.putfield 44, 3) := by decide +kernel
theorem dX2_noteStroke_24 : decode cX2_noteStroke 24 = .ok (.return_, 1) := by decide +kernel
theorem dX2_goOn_0 : decode cX2_goOn 0 = .ok (.aload_n 0, 1) := by decide +kernel
theorem dX2_goOn_1 : decode cX2_goOn 1 = .ok (.dup, 1) := by decide +kernel
theorem dX2_goOn_2 : decode cX2_goOn 2 = .ok (.getfield 35, 3) := by decide +kernel
theorem dX2_goOn_5 : decode cX2_goOn 5 = .ok (.iconst 1, 1) := by decide +kernel
theorem dX2_goOn_6 : decode cX2_goOn 6 = .ok (.iadd, 1) := by decide +kernel
theorem dX2_goOn_7 : decode cX2_goOn 7 = .ok (.putfield 35, 3) := by decide +kernel
theorem dX2_goOn_10 : decode cX2_goOn 10 = .ok (.aload_n 0, 1) := by decide +kernel
theorem dX2_goOn_11 : decode cX2_goOn 11 = .ok (.iconst 0, 1) := by decide +kernel
theorem dX2_goOn_12 : decode cX2_goOn 12 = .ok (.putfield 44, 3) := by decide +kernel
theorem dX2_goOn_15 : decode cX2_goOn 15 = .ok (.iload_n 1, 1) := by decide +kernel
theorem dX2_goOn_16 : decode cX2_goOn 16 = .ok (.ifCond .eq 13, 3) := by decide +kernel
theorem dX2_goOn_19 : decode cX2_goOn 19 = .ok (.aload_n 0, 1) := by decide +kernel
theorem dX2_goOn_20 : decode cX2_goOn 20 = .ok (.dup, 1) := by decide +kernel
theorem dX2_goOn_21 : decode cX2_goOn 21 = .ok (.getfield 38, 3) := by decide +kernel
theorem dX2_goOn_24 : decode cX2_goOn 24 = .ok (.iconst 1, 1) := by decide +kernel
theorem dX2_goOn_25 : decode cX2_goOn 25 = .ok (.iadd, 1) := by decide +kernel
theorem dX2_goOn_26 : decode cX2_goOn 26 = .ok (.putfield 38, 3) := by decide +kernel
theorem dX2_goOn_29 : decode cX2_goOn 29 = .ok (.return_, 1) := by decide +kernel
theorem dX2_stop_0 : decode cX2_stop 0 = .ok (.aload_n 0, 1) := by decide +kernel
theorem dX2_stop_1 : decode cX2_stop 1 = .ok (.iconst 0, 1) := by decide +kernel
theorem dX2_stop_2 : decode cX2_stop 2 = .ok (.putfield 24, 3) := by decide +kernel
theorem dX2_stop_5 : decode cX2_stop 5 = .ok (.return_, 1) := by decide +kernel
theorem dX3_init_0 : decode cX3_init 0 = .ok (.aload_n 0, 1) := by decide +kernel
theorem dX3_init_1 : decode cX3_init 1 = .ok (.invokespecial 3, 3) := by decide +kernel
theorem dX3_init_4 : decode cX3_init 4 = .ok (.aload_n 0, 1) := by decide +kernel
theorem dX3_init_5 : decode cX3_init 5 = .ok (.bipush 40, 2) := by decide +kernel
theorem dX3_init_7 : decode cX3_init 7 = .ok (.newarray .long, 2) := by decide +kernel
theorem dX3_init_9 : decode cX3_init 9 = .ok (.putfield 9, 3) := by decide +kernel
theorem dX3_init_12 : decode cX3_init 12 = .ok (.aload_n 0, 1) := by decide +kernel
theorem dX3_init_13 : decode cX3_init 13 = .ok (.iconst 0, 1) := by decide +kernel
theorem dX3_init_14 : decode cX3_init 14 = .ok (.putfield 15, 3) := by decide +kernel
theorem dX3_init_17 : decode cX3_init 17 = .ok (.return_, 1) := by decide +kernel
theorem dX3_size_0 : decode cX3_size 0 = .ok (.aload_n 0, 1) := by decide +kernel
theorem dX3_size_1 : decode cX3_size 1 = .ok (.getfield 15, 3) := by decide +kernel
theorem dX3_size_4 : decode cX3_size 4 = .ok (.ireturn, 1) := by decide +kernel
theorem dX3_isFull_0 : decode cX3_isFull 0 = .ok (.aload_n 0, 1) := by decide +kernel
theorem dX3_isFull_1 : decode cX3_isFull 1 = .ok (.getfield 15, 3) := by decide +kernel
theorem dX3_isFull_4 : decode cX3_isFull 4 = .ok (.aload_n 0, 1) := by decide +kernel
theorem dX3_isFull_5 : decode cX3_isFull 5 = .ok (.getfield 9, 3) := by decide +kernel
theorem dX3_isFull_8 : decode cX3_isFull 8 = .ok (.arraylength, 1) := by decide +kernel
theorem dX3_isFull_9 : decode cX3_isFull 9 = .ok (.if_icmp .lt 7, 3) := by decide +kernel
theorem dX3_isFull_12 : decode cX3_isFull 12 = .ok (.iconst 1, 1) := by decide +kernel
theorem dX3_isFull_13 : decode cX3_isFull 13 = .ok (.goto 4, 3) := by decide +kernel
theorem dX3_isFull_16 : decode cX3_isFull 16 = .ok (.iconst 0, 1) := by decide +kernel
theorem dX3_isFull_17 : decode cX3_isFull 17 = .ok (.ireturn, 1) := by decide +kernel
theorem dX3_hasNumber_0 : decode cX3_hasNumber 0 = .ok (.iload_n 1, 1) := by decide +kernel
theorem dX3_hasNumber_1 : decode cX3_hasNumber 1 = .ok (.ifCond .lt 15, 3) := by decide +kernel
theorem dX3_hasNumber_4 : decode cX3_hasNumber 4 = .ok (.iload_n 1, 1) := by decide +kernel
theorem dX3_hasNumber_5 : decode cX3_hasNumber 5 = .ok (.aload_n 0, 1) := by decide +kernel
theorem dX3_hasNumber_6 : decode cX3_hasNumber 6 = .ok (.getfield 15, 3) := by decide +kernel
theorem dX3_hasNumber_9 : decode cX3_hasNumber 9 = .ok (.if_icmp .ge 7, 3) := by decide +kernel
theorem dX3_hasNumber_12 : decode cX3_hasNumber 12 = .ok (.iconst 1, 1) := by decide +kernel
theorem dX3_hasNumber_13 : decode cX3_hasNumber 13 = .ok (.goto 4, 3) := by decide +kernel
theorem dX3_hasNumber_16 : decode cX3_hasNumber 16 = .ok (.iconst 0, 1) := by decide +kernel
theorem dX3_hasNumber_17 : decode cX3_hasNumber 17 = .ok (.ireturn, 1) := by decide +kernel
set_option maxRecDepth 20000 in
theorem ggX3_holds_X3_wordAt : GoodIn wsX3_holds wsX3_wordAt := goodIn_r _ [6, 7, 8, 9] (by decide +kernel) (by decide +kernel)
set_option maxRecDepth 20000 in
theorem gX3_holds_X3_wordAt : GoodIn wsX3_holds (wsV RX3 19 RX3 yX3_wordAt wsX3_wordAt) := goodIn_app (goodIn_of _ (by decide +kernel)) ggX3_holds_X3_wordAt
theorem dX3_holds_0 : decode cX3_holds 0 = .ok (.iconst 0, 1) := by decide +kernel
theorem dX3_holds_1 : decode cX3_holds 1 = .ok (.istore_n 3, 1) := by decide +kernel
theorem dX3_holds_2 : decode cX3_holds 2 = .ok (.iload_n 3, 1) := by decide +kernel
theorem dX3_holds_3 : decode cX3_holds 3 = .ok (.aload_n 0, 1) := by decide +kernel
theorem dX3_holds_4 : decode cX3_holds 4 = .ok (.getfield 15, 3) := by decide +kernel
theorem dX3_holds_7 : decode cX3_holds 7 = .ok (.if_icmp .ge 21, 3) := by decide +kernel
theorem dX3_holds_10 : decode cX3_holds 10 = .ok (.aload_n 0, 1) := by decide +kernel
theorem dX3_holds_11 : decode cX3_holds 11 = .ok (.iload_n 3, 1) := by decide +kernel
theorem dX3_holds_12 : decode cX3_holds 12 = .ok (.invokevirtual 19, 3) := by decide +kernel
theorem dX3_holds_15 : decode cX3_holds 15 = .ok (.lload_n 1, 1) := by decide +kernel
theorem dX3_holds_16 : decode cX3_holds 16 = .ok (.lcmp, 1) := by decide +kernel
theorem dX3_holds_17 : decode cX3_holds 17 = .ok (.ifCond .ne 5, 3) := by decide +kernel
theorem dX3_holds_20 : decode cX3_holds 20 = .ok (.iconst 1, 1) := by decide +kernel
theorem dX3_holds_21 : decode cX3_holds 21 = .ok (.ireturn, 1) := by decide +kernel
theorem dX3_holds_22 : decode cX3_holds 22 = .ok (.iinc 3 1, 3) := by decide +kernel
theorem dX3_holds_25 : decode cX3_holds 25 = .ok (.goto (-23), 3) := by decide +kernel
theorem dX3_holds_28 : decode cX3_holds 28 = .ok (.iconst 0, 1) := by decide +kernel
theorem dX3_holds_29 : decode cX3_holds 29 = .ok (.ireturn, 1) := by decide +kernel
theorem dX3_wordAt_0 : decode cX3_wordAt 0 = .ok (.iload_n 1, 1) := by decide +kernel
theorem dX3_wordAt_1 : decode cX3_wordAt 1 = .ok (.ifCond .lt 21, 3) := by decide +kernel
theorem dX3_wordAt_4 : decode cX3_wordAt 4 = .ok (.iload_n 1, 1) := by decide +kernel
theorem dX3_wordAt_5 : decode cX3_wordAt 5 = .ok (.aload_n 0, 1) := by decide +kernel
theorem dX3_wordAt_6 : decode cX3_wordAt 6 = .ok (.getfield 9, 3) := by decide +kernel
theorem dX3_wordAt_9 : decode cX3_wordAt 9 = .ok (.arraylength, 1) := by decide +kernel
theorem dX3_wordAt_10 : decode cX3_wordAt 10 = .ok (.if_icmp .ge 12, 3) := by decide +kernel
theorem dX3_wordAt_13 : decode cX3_wordAt 13 = .ok (.aload_n 0, 1) := by decide +kernel
theorem dX3_wordAt_14 : decode cX3_wordAt 14 = .ok (.getfield 9, 3) := by decide +kernel
theorem dX3_wordAt_17 : decode cX3_wordAt 17 = .ok (.iload_n 1, 1) := by decide +kernel
theorem dX3_wordAt_18 : decode cX3_wordAt 18 = .ok (.laload, 1) := by decide +kernel
theorem dX3_wordAt_19 : decode cX3_wordAt 19 = .ok (.goto 4, 3) := by decide +kernel
theorem dX3_wordAt_22 : decode cX3_wordAt 22 = .ok (.lconst 0, 1) := by decide +kernel
theorem dX3_wordAt_23 : decode cX3_wordAt 23 = .ok (.lreturn, 1) := by decide +kernel
theorem dX3_append_0 : decode cX3_append 0 = .ok (.aload_n 0, 1) := by decide +kernel
theorem dX3_append_1 : decode cX3_append 1 = .ok (.getfield 15, 3) := by decide +kernel
theorem dX3_append_4 : decode cX3_append 4 = .ok (.ifCond .lt 15, 3) := by decide +kernel
theorem dX3_append_7 : decode cX3_append 7 = .ok (.aload_n 0, 1) := by decide +kernel
theorem dX3_append_8 : decode cX3_append 8 = .ok (.getfield 15, 3) := by decide +kernel
theorem dX3_append_11 : decode cX3_append 11 = .ok (.aload_n 0, 1) := by decide +kernel
theorem dX3_append_12 : decode cX3_append 12 = .ok (.getfield 9, 3) := by decide +kernel
theorem dX3_append_15 : decode cX3_append 15 = .ok (.arraylength, 1) := by decide +kernel
theorem dX3_append_16 : decode cX3_append 16 = .ok (.if_icmp .lt 5, 3) := by decide +kernel
theorem dX3_append_19 : decode cX3_append 19 = .ok (.iconst (-1), 1) := by decide +kernel
theorem dX3_append_20 : decode cX3_append 20 = .ok (.ireturn, 1) := by decide +kernel
theorem dX3_append_21 : decode cX3_append 21 = .ok (.aload_n 0, 1) := by decide +kernel
theorem dX3_append_22 : decode cX3_append 22 = .ok (.getfield 9, 3) := by decide +kernel
theorem dX3_append_25 : decode cX3_append 25 = .ok (.aload_n 0, 1) := by decide +kernel
theorem dX3_append_26 : decode cX3_append 26 = .ok (.getfield 15, 3) := by decide +kernel
theorem dX3_append_29 : decode cX3_append 29 = .ok (.lload_n 1, 1) := by decide +kernel
theorem dX3_append_30 : decode cX3_append 30 = .ok (.lastore, 1) := by decide +kernel
theorem dX3_append_31 : decode cX3_append 31 = .ok (.aload_n 0, 1) := by decide +kernel
theorem dX3_append_32 : decode cX3_append 32 = .ok (.dup, 1) := by decide +kernel
theorem dX3_append_33 : decode cX3_append 33 = .ok (.getfield 15, 3) := by decide +kernel
theorem dX3_append_36 : decode cX3_append 36 = .ok (.iconst 1, 1) := by decide +kernel
theorem dX3_append_37 : decode cX3_append 37 = .ok (.iadd, 1) := by decide +kernel
theorem dX3_append_38 : decode cX3_append 38 = .ok (.putfield 15, 3) := by decide +kernel
theorem dX3_append_41 : decode cX3_append 41 = .ok (.aload_n 0, 1) := by decide +kernel
theorem dX3_append_42 : decode cX3_append 42 = .ok (.getfield 15, 3) := by decide +kernel
theorem dX3_append_45 : decode cX3_append 45 = .ok (.iconst 1, 1) := by decide +kernel
theorem dX3_append_46 : decode cX3_append 46 = .ok (.isub, 1) := by decide +kernel
theorem dX3_append_47 : decode cX3_append 47 = .ok (.ireturn, 1) := by decide +kernel
set_option maxRecDepth 20000 in
theorem ggX4_init_X3_init : GoodIn wsX4_init wsX3_init := goodIn_r _ [24, 25, 2, 3, 26, 27, 28, 68, 69] (by decide +kernel) (by decide +kernel)
set_option maxRecDepth 20000 in
theorem gX4_init_X3_init_n11 : GoodIn wsX4_init (wsX3_init) := ggX4_init_X3_init
set_option maxRecDepth 20000 in
theorem ggX4_init_X1_init : GoodIn wsX4_init wsX1_init := goodIn_r _ [31, 32, 2, 3, 33, 34, 35, 36, 21, 37, 38, 39, 40, 41, 42, 43, 76, 77, 78] (by decide +kernel) (by decide +kernel)
set_option maxRecDepth 20000 in
theorem gX4_init_X1_init : GoodIn wsX4_init (wsX1_init) := ggX4_init_X1_init
set_option maxRecDepth 20000 in
theorem ggX4_init_X2_init : GoodIn wsX4_init wsX2_init := goodIn_r _ [45, 46, 2, 3, 21, 47, 48, 49, 50, 51, 52, 53, 54, 55, 56, 57, 79, 80, 81, 82, 83, 84, 85, 86, 87, 88, 89] (by decide +kernel) (by decide +kernel)
set_option maxRecDepth 20000 in
theorem gX4_init_X2_init_n30 : GoodIn wsX4_init (wsX2_init) := ggX4_init_X2_init
set_option maxRecDepth 20000 in
theorem ggX4_init_X0_init : GoodIn wsX4_init wsX0_init := goodIn_r _ [59, 60, 2, 3, 21, 61, 62, 63, 64, 65, 66, 67, 90, 91, 92, 93, 94, 95, 96] (by decide +kernel) (by decide +kernel)
set_option maxRecDepth 20000 in
theorem gX4_init_X0_init_n37 : GoodIn wsX4_init (wsX0_init) := ggX4_init_X0_init
theorem dX4_init_0 : decode cX4_init 0 = .ok (.aload_n 0, 1) := by decide +kernel
theorem dX4_init_1 : decode cX4_init 1 = .ok (.invokespecial 3, 3) := by decide +kernel
theorem dX4_init_4 : decode cX4_init 4 = .ok (.aload_n 0, 1) := by decide +kernel
theorem dX4_init_5 : decode cX4_init 5 = .ok (.new 9, 3) := by decide +kernel
theorem dX4_init_8 : decode cX4_init 8 = .ok (.dup, 1) := by decide +kernel
theorem dX4_init_9 : decode cX4_init 9 = .ok (.invokespecial 11, 3) := by decide +kernel
theorem dX4_init_12 : decode cX4_init 12 = .ok (.putfield 12, 3) := by decide +kernel
theorem dX4_init_15 : decode cX4_init 15 = .ok (.aload_n 0, 1) := by decide +kernel
theorem dX4_init_16 : decode cX4_init 16 = .ok (.new 16, 3) := by decide +kernel
theorem dX4_init_19 : decode cX4_init 19 = .ok (.dup, 1) := by decide +kernel
theorem dX4_init_20 : decode cX4_init 20 = .ok (.bipush 26, 2) := by decide +kernel
theorem dX4_init_22 : decode cX4_init 22 = .ok (.invokespecial 18, 3) := by decide +kernel
theorem dX4_init_25 : decode cX4_init 25 = .ok (.putfield 21, 3) := by decide +kernel
theorem dX4_init_28 : decode cX4_init 28 = .ok (.aload_n 0, 1) := by decide +kernel
theorem dX4_init_29 : decode cX4_init 29 = .ok (.new 16, 3) := by decide +kernel
theorem dX4_init_32 : decode cX4_init 32 = .ok (.dup, 1) := by decide +kernel
theorem dX4_init_33 : decode cX4_init 33 = .ok (.sipush 676, 3) := by decide +kernel
theorem dX4_init_36 : decode cX4_init 36 = .ok (.invokespecial 18, 3) := by decide +kernel
theorem dX4_init_39 : decode cX4_init 39 = .ok (.putfield 25, 3) := by decide +kernel
theorem dX4_init_42 : decode cX4_init 42 = .ok (.aload_n 0, 1) := by decide +kernel
theorem dX4_init_43 : decode cX4_init 43 = .ok (.new 28, 3) := by decide +kernel
theorem dX4_init_46 : decode cX4_init 46 = .ok (.dup, 1) := by decide +kernel
theorem dX4_init_47 : decode cX4_init 47 = .ok (.invokespecial 30, 3) := by decide +kernel
theorem dX4_init_50 : decode cX4_init 50 = .ok (.putfield 31, 3) := by decide +kernel
theorem dX4_init_53 : decode cX4_init 53 = .ok (.aload_n 0, 1) := by decide +kernel
theorem dX4_init_54 : decode cX4_init 54 = .ok (.new 35, 3) := by decide +kernel
theorem dX4_init_57 : decode cX4_init 57 = .ok (.dup, 1) := by decide +kernel
theorem dX4_init_58 : decode cX4_init 58 = .ok (.invokespecial 37, 3) := by decide +kernel
theorem dX4_init_61 : decode cX4_init 61 = .ok (.putfield 38, 3) := by decide +kernel
theorem dX4_init_64 : decode cX4_init 64 = .ok (.aload_n 0, 1) := by decide +kernel
theorem dX4_init_65 : decode cX4_init 65 = .ok (.iconst 5, 1) := by decide +kernel
theorem dX4_init_66 : decode cX4_init 66 = .ok (.newarray .int, 2) := by decide +kernel
theorem dX4_init_68 : decode cX4_init 68 = .ok (.putfield 42, 3) := by decide +kernel
theorem dX4_init_71 : decode cX4_init 71 = .ok (.return_, 1) := by decide +kernel
set_option maxRecDepth 20000 in
theorem ggX4_addWord_X4_tellsWord : GoodIn wsX4_addWord wsX4_tellsWord := goodIn_r _ [9, 10, 11, 12] (by decide +kernel) (by decide +kernel)
set_option maxRecDepth 20000 in
theorem gX4_addWord_X4_tellsWord : GoodIn wsX4_addWord (va_wsS RX4 46 yX4_tellsWord wsX4_tellsWord) := goodIn_app (goodIn_of _ (by decide +kernel)) ggX4_addWord_X4_tellsWord
set_option maxRecDepth 20000 in
theorem ggX4_addWord_X3_isFull : GoodIn wsX4_addWord wsX3_isFull := goodIn_r _ [17, 18, 19, 38, 39] (by decide +kernel) (by decide +kernel)
set_option maxRecDepth 20000 in
theorem gX4_addWord_X3_isFull : GoodIn wsX4_addWord (wsV RX4 57 RX3 yX3_isFull wsX3_isFull) := goodIn_app (goodIn_of _ (by decide +kernel)) ggX4_addWord_X3_isFull
set_option maxRecDepth 20000 in
theorem ggX4_addWord_X3_holds : GoodIn wsX4_addWord wsX3_holds := goodIn_r _ [23, 18, 24, 25, 26, 16, 27, 19, 38, 39] (by decide +kernel) (by decide +kernel)
set_option maxRecDepth 20000 in
theorem gX4_addWord_X3_holds : GoodIn wsX4_addWord (wsV RX4 61 RX3 yX3_holds wsX3_holds) := goodIn_app (goodIn_of _ (by decide +kernel)) ggX4_addWord_X3_holds
set_option maxRecDepth 20000 in
theorem ggX4_addWord_X3_append : GoodIn wsX4_addWord wsX3_append := goodIn_r _ [31, 18, 19, 38, 39] (by decide +kernel) (by decide +kernel)
set_option maxRecDepth 20000 in
theorem gX4_addWord_X3_append : GoodIn wsX4_addWord (wsV RX4 69 RX3 yX3_append wsX3_append) := goodIn_app (goodIn_of _ (by decide +kernel)) ggX4_addWord_X3_append
theorem dX4_addWord_0 : decode cX4_addWord 0 = .ok (.lload_n 1, 1) := by decide +kernel
theorem dX4_addWord_1 : decode cX4_addWord 1 = .ok (.invokestatic 46, 3) := by decide +kernel
theorem dX4_addWord_4 : decode cX4_addWord 4 = .ok (.ifCond .ne 13, 3) := by decide +kernel
theorem dX4_addWord_7 : decode cX4_addWord 7 = .ok (.new 50, 3) := by decide +kernel
theorem dX4_addWord_10 : decode cX4_addWord 10 = .ok (.dup, 1) := by decide +kernel
theorem dX4_addWord_11 : decode cX4_addWord 11 = .ok (.ldc 52, 2) := by decide +kernel
theorem dX4_addWord_13 : decode cX4_addWord 13 = .ok (.invokespecial 54, 3) := by decide +kernel
theorem dX4_addWord_16 : decode cX4_addWord 16 = .ok (.athrow, 1) := by decide +kernel
theorem dX4_addWord_17 : decode cX4_addWord 17 = .ok (.aload_n 0, 1) := by decide +kernel
theorem dX4_addWord_18 : decode cX4_addWord 18 = .ok (.getfield 12, 3) := by decide +kernel
theorem dX4_addWord_21 : decode cX4_addWord 21 = .ok (.invokevirtual 57, 3) := by decide +kernel
theorem dX4_addWord_24 : decode cX4_addWord 24 = .ok (.ifCond .ne 14, 3) := by decide +kernel
theorem dX4_addWord_27 : decode cX4_addWord 27 = .ok (.aload_n 0, 1) := by decide +kernel
theorem dX4_addWord_28 : decode cX4_addWord 28 = .ok (.getfield 12, 3) := by decide +kernel
theorem dX4_addWord_31 : decode cX4_addWord 31 = .ok (.lload_n 1, 1) := by decide +kernel
theorem dX4_addWord_32 : decode cX4_addWord 32 = .ok (.invokevirtual 61, 3) := by decide +kernel
theorem dX4_addWord_35 : decode cX4_addWord 35 = .ok (.ifCond .eq 13, 3) := by decide +kernel
theorem dX4_addWord_38 : decode cX4_addWord 38 = .ok (.new 64, 3) := by decide +kernel
theorem dX4_addWord_41 : decode cX4_addWord 41 = .ok (.dup, 1) := by decide +kernel
theorem dX4_addWord_42 : decode cX4_addWord 42 = .ok (.ldc 66, 2) := by decide +kernel
theorem dX4_addWord_44 : decode cX4_addWord 44 = .ok (.invokespecial 68, 3) := by decide +kernel
theorem dX4_addWord_47 : decode cX4_addWord 47 = .ok (.athrow, 1) := by decide +kernel
theorem dX4_addWord_48 : decode cX4_addWord 48 = .ok (.aload_n 0, 1) := by decide +kernel
theorem dX4_addWord_49 : decode cX4_addWord 49 = .ok (.getfield 12, 3) := by decide +kernel
theorem dX4_addWord_52 : decode cX4_addWord 52 = .ok (.lload_n 1, 1) := by decide +kernel
theorem dX4_addWord_53 : decode cX4_addWord 53 = .ok (.invokevirtual 69, 3) := by decide +kernel
theorem dX4_addWord_56 : decode cX4_addWord 56 = .ok (.ireturn, 1) := by decide +kernel
set_option maxRecDepth 20000 in
theorem ggX4_wordCount_X3_size : GoodIn wsX4_wordCount wsX3_size := goodIn_r _ [6, 7, 14, 15] (by decide +kernel) (by decide +kernel)
set_option maxRecDepth 20000 in
theorem gX4_wordCount_X3_size : GoodIn wsX4_wordCount (wsV RX4 73 RX3 yX3_size wsX3_size) := goodIn_app (goodIn_of _ (by decide +kernel)) ggX4_wordCount_X3_size
theorem dX4_wordCount_0 : decode cX4_wordCount 0 = .ok (.aload_n 0, 1) := by decide +kernel
theorem dX4_wordCount_1 : decode cX4_wordCount 1 = .ok (.getfield 12, 3) := by decide +kernel
theorem dX4_wordCount_4 : decode cX4_wordCount 4 = .ok (.invokevirtual 73, 3) := by decide +kernel
theorem dX4_wordCount_7 : decode cX4_wordCount 7 = .ok (.ireturn, 1) := by decide +kernel
set_option maxRecDepth 20000 in
theorem ggX4_word_X3_hasNumber : GoodIn wsX4_word wsX3_hasNumber := goodIn_r _ [8, 9, 21, 22] (by decide +kernel) (by decide +kernel)
set_option maxRecDepth 20000 in
theorem gX4_word_X3_hasNumber : GoodIn wsX4_word (wsV RX4 77 RX3 yX3_hasNumber wsX3_hasNumber) := goodIn_app (goodIn_of _ (by decide +kernel)) ggX4_word_X3_hasNumber
set_option maxRecDepth 20000 in
theorem ggX4_word_X3_wordAt : GoodIn wsX4_word wsX3_wordAt := goodIn_r _ [13, 14, 21, 22] (by decide +kernel) (by decide +kernel)
set_option maxRecDepth 20000 in
theorem gX4_word_X3_wordAt : GoodIn wsX4_word (wsV RX4 86 RX3 yX3_wordAt wsX3_wordAt) := goodIn_app (goodIn_of _ (by decide +kernel)) ggX4_word_X3_wordAt
theorem dX4_word_0 : decode cX4_word 0 = .ok (.aload_n 0, 1) := by decide +kernel
theorem dX4_word_1 : decode cX4_word 1 = .ok (.getfield 12, 3) := by decide +kernel
theorem dX4_word_4 : decode cX4_word 4 = .ok (.iload_n 1, 1) := by decide +kernel
theorem dX4_word_5 : decode cX4_word 5 = .ok (.invokevirtual 77, 3) := by decide +kernel
theorem dX4_word_8 : decode cX4_word 8 = .ok (.ifCond .ne 13, 3) := by decide +kernel
theorem dX4_word_11 : decode cX4_word 11 = .ok (.new 81, 3) := by decide +kernel
theorem dX4_word_14 : decode cX4_word 14 = .ok (.dup, 1) := by decide +kernel
theorem dX4_word_15 : decode cX4_word 15 = .ok (.ldc 83, 2) := by decide +kernel
theorem dX4_word_17 : decode cX4_word 17 = .ok (.invokespecial 85, 3) := by decide +kernel
theorem dX4_word_20 : decode cX4_word 20 = .ok (.athrow, 1) := by decide +kernel
theorem dX4_word_21 : decode cX4_word 21 = .ok (.aload_n 0, 1) := by decide +kernel
theorem dX4_word_22 : decode cX4_word 22 = .ok (.getfield 12, 3) := by decide +kernel
theorem dX4_word_25 : decode cX4_word 25 = .ok (.iload_n 1, 1) := by decide +kernel
theorem dX4_word_26 : decode cX4_word 26 = .ok (.invokevirtual 86, 3) := by decide +kernel
theorem dX4_word_29 : decode cX4_word 29 = .ok (.lreturn, 1) := by decide +kernel
set_option maxRecDepth 20000 in
theorem ggX4_weight_X3_hasNumber : GoodIn wsX4_weight wsX3_hasNumber := goodIn_r _ [8, 9, 58, 59] (by decide +kernel) (by decide +kernel)
set_option maxRecDepth 20000 in
theorem gX4_weight_X3_hasNumber : GoodIn wsX4_weight (wsV RX4 77 RX3 yX3_hasNumber wsX3_hasNumber) := goodIn_app (goodIn_of _ (by decide +kernel)) ggX4_weight_X3_hasNumber
set_option maxRecDepth 20000 in
theorem ggX4_weight_X3_wordAt : GoodIn wsX4_weight wsX3_wordAt := goodIn_r _ [13, 14, 58, 59] (by decide +kernel) (by decide +kernel)
set_option maxRecDepth 20000 in
theorem gX4_weight_X3_wordAt : GoodIn wsX4_weight (wsV RX4 86 RX3 yX3_wordAt wsX3_wordAt) := goodIn_app (goodIn_of _ (by decide +kernel)) ggX4_weight_X3_wordAt
set_option maxRecDepth 20000 in
theorem ggX4_weight_X4_weightOf : GoodIn wsX4_weight wsX4_weightOf := goodIn_r _ [19, 20, 21, 22, 18, 23, 24, 25, 26, 27, 28, 29, 30, 31, 32, 33, 34, 35, 36, 37, 38, 39, 40, 41, 42, 43, 44, 45, 46, 47, 48, 49, 50, 51, 52, 53, 54, 55, 56, 57, 60, 61, 62] (by decide +kernel) (by decide +kernel)
set_option maxRecDepth 20000 in
theorem gX4_weight_X4_weightOf : GoodIn wsX4_weight (wsV RX4 90 RX4 yX4_weightOf wsX4_weightOf) := goodIn_app (goodIn_of _ (by decide +kernel)) ggX4_weight_X4_weightOf
theorem dX4_weight_0 : decode cX4_weight 0 = .ok (.aload_n 0, 1) := by decide +kernel
theorem dX4_weight_1 : decode cX4_weight 1 = .ok (.getfield 12, 3) := by decide +kernel
theorem dX4_weight_4 : decode cX4_weight 4 = .ok (.iload_n 1, 1) := by decide +kernel
theorem dX4_weight_5 : decode cX4_weight 5 = .ok (.invokevirtual 77, 3) := by decide +kernel
theorem dX4_weight_8 : decode cX4_weight 8 = .ok (.ifCond .ne 13, 3) := by decide +kernel
theorem dX4_weight_11 : decode cX4_weight 11 = .ok (.new 81, 3) := by decide +kernel
theorem dX4_weight_14 : decode cX4_weight 14 = .ok (.dup, 1) := by decide +kernel
theorem dX4_weight_15 : decode cX4_weight 15 = .ok (.ldc 83, 2) := by decide +kernel
theorem dX4_weight_17 : decode cX4_weight 17 = .ok (.invokespecial 85, 3) := by decide +kernel
theorem dX4_weight_20 : decode cX4_weight 20 = .ok (.athrow, 1) := by decide +kernel
theorem dX4_weight_21 : decode cX4_weight 21 = .ok (.aload_n 0, 1) := by decide +kernel
theorem dX4_weight_22 : decode cX4_weight 22 = .ok (.aload_n 0, 1) := by decide +kernel
theorem dX4_weight_23 : decode cX4_weight 23 = .ok (.getfield 12, 3) := by decide +kernel
theorem dX4_weight_26 : decode cX4_weight 26 = .ok (.iload_n 1, 1) := by decide +kernel
theorem dX4_weight_27 : decode cX4_weight 27 = .ok (.invokevirtual 86, 3) := by decide +kernel
theorem dX4_weight_30 : decode cX4_weight 30 = .ok (.invokevirtual 90, 3) := by decide +kernel
theorem dX4_weight_33 : decode cX4_weight 33 = .ok (.ireturn, 1) := by decide +kernel
set_option maxRecDepth 20000 in
theorem ggX4_areNeighbours_X4_isKey : GoodIn wsX4_areNeighbours wsX4_isKey := goodIn_r _ [6] (by decide +kernel) (by decide +kernel)
set_option maxRecDepth 20000 in
theorem gX4_areNeighbours_X4_isKey : GoodIn wsX4_areNeighbours (va_wsS RX4 93 yX4_isKey wsX4_isKey) := goodIn_app (goodIn_of _ (by decide +kernel)) ggX4_areNeighbours_X4_isKey
set_option maxRecDepth 20000 in
theorem ggX4_areNeighbours_X4_standSideBySide : GoodIn wsX4_areNeighbours wsX4_standSideBySide := goodIn_r _ [9, 10, 11, 12, 13, 14, 15, 16, 17, 5, 18] (by decide +kernel) (by decide +kernel)
set_option maxRecDepth 20000 in
theorem gX4_areNeighbours_X4_standSideBySide : GoodIn wsX4_areNeighbours (va_wsS RX4 98 yX4_standSideBySide wsX4_standSideBySide) := goodIn_app (goodIn_of _ (by decide +kernel)) ggX4_areNeighbours_X4_standSideBySide
theorem dX4_areNeighbours_0 : decode cX4_areNeighbours 0 = .ok (.iload_n 1, 1) := by decide +kernel
theorem dX4_areNeighbours_1 : decode cX4_areNeighbours 1 = .ok (.invokestatic 93, 3) := by decide +kernel
theorem dX4_areNeighbours_4 : decode cX4_areNeighbours 4 = .ok (.ifCond .eq 10, 3) := by decide +kernel
theorem dX4_areNeighbours_7 : decode cX4_areNeighbours 7 = .ok (.iload_n 2, 1) := by decide +kernel
theorem dX4_areNeighbours_8 : decode cX4_areNeighbours 8 = .ok (.invokestatic 93, 3) := by decide +kernel
theorem dX4_areNeighbours_11 : decode cX4_areNeighbours 11 = .ok (.ifCond .ne 13, 3) := by decide +kernel
theorem dX4_areNeighbours_14 : decode cX4_areNeighbours 14 = .ok (.new 81, 3) := by decide +kernel
theorem dX4_areNeighbours_17 : decode cX4_areNeighbours 17 = .ok (.dup, 1) := by decide +kernel
theorem dX4_areNeighbours_18 : decode cX4_areNeighbours 18 = .ok (.ldc 96, 2) := by decide +kernel
theorem dX4_areNeighbours_20 : decode cX4_areNeighbours 20 = .ok (.invokespecial 85, 3) := by decide +kernel
theorem dX4_areNeighbours_23 : decode cX4_areNeighbours 23 = .ok (.athrow, 1) := by decide +kernel
theorem dX4_areNeighbours_24 : decode cX4_areNeighbours 24 = .ok (.iload_n 1, 1) := by decide +kernel
theorem dX4_areNeighbours_25 : decode cX4_areNeighbours 25 = .ok (.iload_n 2, 1) := by decide +kernel
theorem dX4_areNeighbours_26 : decode cX4_areNeighbours 26 = .ok (.invokestatic 98, 3) := by decide +kernel
theorem dX4_areNeighbours_29 : decode cX4_areNeighbours 29 = .ok (.ireturn, 1) := by decide +kernel
set_option maxRecDepth 20000 in
theorem ggX4_open_X2_isRunning : GoodIn wsX4_open wsX2_isRunning := goodIn_r _ [11, 12, 111, 112, 113, 114, 115, 116, 117, 118, 119, 120, 121] (by decide +kernel) (by decide +kernel)
set_option maxRecDepth 20000 in
theorem gX4_open_X2_isRunning : GoodIn wsX4_open (wsV RX4 104 RX2 yX2_isRunning wsX2_isRunning) := goodIn_app (goodIn_of _ (by decide +kernel)) ggX4_open_X2_isRunning
set_option maxRecDepth 20000 in
theorem ggX4_open_X3_size : GoodIn wsX4_open wsX3_size := goodIn_r _ [17, 18, 122, 123] (by decide +kernel) (by decide +kernel)
set_option maxRecDepth 20000 in
theorem gX4_open_X3_size : GoodIn wsX4_open (wsV RX4 73 RX3 yX3_size wsX3_size) := goodIn_app (goodIn_of _ (by decide +kernel)) ggX4_open_X3_size
set_option maxRecDepth 20000 in
theorem ggX4_open_X2_start : GoodIn wsX4_open wsX2_start := goodIn_r _ [22, 23, 12, 24, 25, 26, 27, 28, 29, 30, 31, 32, 33, 111, 112, 113, 114, 115, 116, 117, 118, 119, 120, 121] (by decide +kernel) (by decide +kernel)
set_option maxRecDepth 20000 in
theorem gX4_open_X2_start : GoodIn wsX4_open (wsV RX4 109 RX2 yX2_start wsX2_start) := goodIn_app (goodIn_of _ (by decide +kernel)) ggX4_open_X2_start
set_option maxRecDepth 20000 in
theorem ggX4_open_X4_weakestWordLeft : GoodIn wsX4_open wsX4_weakestWordLeft := goodIn_r _ [38, 6, 5, 13, 14, 15, 16, 17, 18, 39, 40, 41, 10, 42, 24, 43, 44, 37, 45, 46, 47, 48, 49, 50, 51, 52, 53, 54, 55, 56, 57, 58, 59, 60, 61, 62, 63, 64, 65, 66, 67, 68, 69, 70, 71, 72, 73, 74, 75, 76, 77, 78, 79, 80, 81, 82, 83, 84, 85, 86, 87, 88, 89, 90, 91, 92, 23, 105, 106, 107, 108, 109, 110, 122, 123, 111, 112, 113, 114, 115, 116, 117, 118, 119, 120, 121, 124, 125, 126] (by decide +kernel) (by decide +kernel)
set_option maxRecDepth 20000 in
theorem gX4_open_X4_weakestWordLeft : GoodIn wsX4_open (wsV RX4 112 RX4 yX4_weakestWordLeft wsX4_weakestWordLeft) := goodIn_app (goodIn_of _ (by decide +kernel)) ggX4_open_X4_weakestWordLeft
set_option maxRecDepth 20000 in
theorem ggX4_open_X3_wordAt : GoodIn wsX4_open wsX3_wordAt := goodIn_r _ [49, 50, 122, 123] (by decide +kernel) (by decide +kernel)
set_option maxRecDepth 20000 in
theorem gX4_open_X3_wordAt : GoodIn wsX4_open (wsV RX4 86 RX3 yX3_wordAt wsX3_wordAt) := goodIn_app (goodIn_of _ (by decide +kernel)) ggX4_open_X3_wordAt
set_option maxRecDepth 20000 in
theorem ggX4_open_X2_append : GoodIn wsX4_open wsX2_append := goodIn_r _ [96, 23, 97, 25, 98, 24, 43, 56, 37, 57, 64, 65, 66, 44, 45, 99, 100, 111, 112, 113, 114, 115, 116, 117, 118, 119, 120, 121] (by decide +kernel) (by decide +kernel)
set_option maxRecDepth 20000 in
theorem gX4_open_X2_append : GoodIn wsX4_open (wsV RX4 115 RX2 yX2_append wsX2_append) := goodIn_app (goodIn_of _ (by decide +kernel)) ggX4_open_X2_append
set_option maxRecDepth 20000 in
theorem ggX4_open_X2_wordTotal : GoodIn wsX4_open wsX2_wordTotal := goodIn_r _ [104, 24, 111, 112, 113, 114, 115, 116, 117, 118, 119, 120, 121] (by decide +kernel) (by decide +kernel)
set_option maxRecDepth 20000 in
theorem gX4_open_X2_wordTotal : GoodIn wsX4_open (wsV RX4 118 RX2 yX2_wordTotal wsX2_wordTotal) := goodIn_app (goodIn_of _ (by decide +kernel)) ggX4_open_X2_wordTotal
theorem dX4_open_0 : decode cX4_open 0 = .ok (.iload_n 1, 1) := by decide +kernel
theorem dX4_open_1 : decode cX4_open 1 = .ok (.iconst 1, 1) := by decide +kernel
theorem dX4_open_2 : decode cX4_open 2 = .ok (.if_icmp .lt 9, 3) := by decide +kernel
theorem dX4_open_5 : decode cX4_open 5 = .ok (.iload_n 1, 1) := by decide +kernel
theorem dX4_open_6 : decode cX4_open 6 = .ok (.bipush 6, 2) := by decide +kernel
theorem dX4_open_8 : decode cX4_open 8 = .ok (.if_icmp .le 13, 3) := by decide +kernel
theorem dX4_open_11 : decode cX4_open 11 = .ok (.new 50, 3) := by decide +kernel
theorem dX4_open_14 : decode cX4_open 14 = .ok (.dup, 1) := by decide +kernel
theorem dX4_open_15 : decode cX4_open 15 = .ok (.ldc 102, 2) := by decide +kernel
theorem dX4_open_17 : decode cX4_open 17 = .ok (.invokespecial 54, 3) := by decide +kernel
theorem dX4_open_20 : decode cX4_open 20 = .ok (.athrow, 1) := by decide +kernel
theorem dX4_open_21 : decode cX4_open 21 = .ok (.aload_n 0, 1) := by decide +kernel
theorem dX4_open_22 : decode cX4_open 22 = .ok (.getfield 31, 3) := by decide +kernel
theorem dX4_open_25 : decode cX4_open 25 = .ok (.invokevirtual 104, 3) := by decide +kernel
theorem dX4_open_28 : decode cX4_open 28 = .ok (.ifCond .ne 13, 3) := by decide +kernel
theorem dX4_open_31 : decode cX4_open 31 = .ok (.aload_n 0, 1) := by decide +kernel
theorem dX4_open_32 : decode cX4_open 32 = .ok (.getfield 12, 3) := by decide +kernel
theorem dX4_open_35 : decode cX4_open 35 = .ok (.invokevirtual 73, 3) := by decide +kernel
theorem dX4_open_38 : decode cX4_open 38 = .ok (.ifCond .ne 13, 3) := by decide +kernel
theorem dX4_open_41 : decode cX4_open 41 = .ok (.new 64, 3) := by decide +kernel
theorem dX4_open_44 : decode cX4_open 44 = .ok (.dup, 1) := by decide +kernel
theorem dX4_open_45 : decode cX4_open 45 = .ok (.ldc 107, 2) := by decide +kernel
theorem dX4_open_47 : decode cX4_open 47 = .ok (.invokespecial 68, 3) := by decide +kernel
theorem dX4_open_50 : decode cX4_open 50 = .ok (.athrow, 1) := by decide +kernel
theorem dX4_open_51 : decode cX4_open 51 = .ok (.aload_n 0, 1) := by decide +kernel
theorem dX4_open_52 : decode cX4_open 52 = .ok (.getfield 31, 3) := by decide +kernel
theorem dX4_open_55 : decode cX4_open 55 = .ok (.invokevirtual 109, 3) := by decide +kernel
theorem dX4_open_58 : decode cX4_open 58 = .ok (.iconst 0, 1) := by decide +kernel
theorem dX4_open_59 : decode cX4_open 59 = .ok (.istore_n 2, 1) := by decide +kernel
theorem dX4_open_60 : decode cX4_open 60 = .ok (.iload_n 2, 1) := by decide +kernel
theorem dX4_open_61 : decode cX4_open 61 = .ok (.iload_n 1, 1) := by decide +kernel
theorem dX4_open_62 : decode cX4_open 62 = .ok (.if_icmp .ge 38, 3) := by decide +kernel
theorem dX4_open_65 : decode cX4_open 65 = .ok (.aload_n 0, 1) := by decide +kernel
theorem dX4_open_66 : decode cX4_open 66 = .ok (.invokevirtual 112, 3) := by decide +kernel
theorem dX4_open_69 : decode cX4_open 69 = .ok (.istore_n 3, 1) := by decide +kernel
theorem dX4_open_70 : decode cX4_open 70 = .ok (.iload_n 3, 1) := by decide +kernel
theorem dX4_open_71 : decode cX4_open 71 = .ok (.iconst (-1), 1) := by decide +kernel
theorem dX4_open_72 : decode cX4_open 72 = .ok (.if_icmp .ne 6, 3) := by decide +kernel
theorem dX4_open_75 : decode cX4_open 75 = .ok (.goto 25, 3) := by decide +kernel
theorem dX4_open_78 : decode cX4_open 78 = .ok (.aload_n 0, 1) := by decide +kernel
theorem dX4_open_79 : decode cX4_open 79 = .ok (.getfield 31, 3) := by decide +kernel
theorem dX4_open_82 : decode cX4_open 82 = .ok (.iload_n 3, 1) := by decide +kernel
theorem dX4_open_83 : decode cX4_open 83 = .ok (.aload_n 0, 1) := by decide +kernel
theorem dX4_open_84 : decode cX4_open 84 = .ok (.getfield 12, 3) := by decide +kernel
theorem dX4_open_87 : decode cX4_open 87 = .ok (.iload_n 3, 1) := by decide +kernel
theorem dX4_open_88 : decode cX4_open 88 = .ok (.invokevirtual 86, 3) := by decide +kernel
theorem dX4_open_91 : decode cX4_open 91 = .ok (.invokevirtual 115, 3) := by decide +kernel
theorem dX4_open_94 : decode cX4_open 94 = .ok (.iinc 2 1, 3) := by decide +kernel
theorem dX4_open_97 : decode cX4_open 97 = .ok (.goto (-37), 3) := by decide +kernel
theorem dX4_open_100 : decode cX4_open 100 = .ok (.aload_n 0, 1) := by decide +kernel
theorem dX4_open_101 : decode cX4_open 101 = .ok (.getfield 31, 3) := by decide +kernel
theorem dX4_open_104 : decode cX4_open 104 = .ok (.invokevirtual 118, 3) := by decide +kernel
theorem dX4_open_107 : decode cX4_open 107 = .ok (.ireturn, 1) := by decide +kernel
set_option maxRecDepth 20000 in
theorem ggX4_openWord_X3_hasNumber : GoodIn wsX4_openWord wsX3_hasNumber := goodIn_r _ [11, 12, 66, 67] (by decide +kernel) (by decide +kernel)
set_option maxRecDepth 20000 in
theorem gX4_openWord_X3_hasNumber : GoodIn wsX4_openWord (wsV RX4 77 RX3 yX3_hasNumber wsX3_hasNumber) := goodIn_app (goodIn_of _ (by decide +kernel)) ggX4_openWord_X3_hasNumber
set_option maxRecDepth 20000 in
theorem ggX4_openWord_X2_isRunning : GoodIn wsX4_openWord wsX2_isRunning := goodIn_r _ [17, 18, 68, 69, 70, 71, 72, 73, 74, 75, 76, 77, 78] (by decide +kernel) (by decide +kernel)
set_option maxRecDepth 20000 in
theorem gX4_openWord_X2_isRunning : GoodIn wsX4_openWord (wsV RX4 104 RX2 yX2_isRunning wsX2_isRunning) := goodIn_app (goodIn_of _ (by decide +kernel)) ggX4_openWord_X2_isRunning
set_option maxRecDepth 20000 in
theorem ggX4_openWord_X2_start : GoodIn wsX4_openWord wsX2_start := goodIn_r _ [22, 23, 18, 24, 25, 26, 27, 28, 29, 30, 31, 32, 33, 68, 69, 70, 71, 72, 73, 74, 75, 76, 77, 78] (by decide +kernel) (by decide +kernel)
set_option maxRecDepth 20000 in
theorem gX4_openWord_X2_start : GoodIn wsX4_openWord (wsV RX4 109 RX2 yX2_start wsX2_start) := goodIn_app (goodIn_of _ (by decide +kernel)) ggX4_openWord_X2_start
set_option maxRecDepth 20000 in
theorem ggX4_openWord_X3_wordAt : GoodIn wsX4_openWord wsX3_wordAt := goodIn_r _ [37, 38, 66, 67] (by decide +kernel) (by decide +kernel)
set_option maxRecDepth 20000 in
theorem gX4_openWord_X3_wordAt : GoodIn wsX4_openWord (wsV RX4 86 RX3 yX3_wordAt wsX3_wordAt) := goodIn_app (goodIn_of _ (by decide +kernel)) ggX4_openWord_X3_wordAt
set_option maxRecDepth 20000 in
theorem ggX4_openWord_X2_append : GoodIn wsX4_openWord wsX2_append := goodIn_r _ [42, 23, 43, 25, 44, 24, 45, 46, 47, 48, 49, 50, 51, 52, 53, 54, 55, 68, 69, 70, 71, 72, 73, 74, 75, 76, 77, 78] (by decide +kernel) (by decide +kernel)
set_option maxRecDepth 20000 in
theorem gX4_openWord_X2_append : GoodIn wsX4_openWord (wsV RX4 115 RX2 yX2_append wsX2_append) := goodIn_app (goodIn_of _ (by decide +kernel)) ggX4_openWord_X2_append
set_option maxRecDepth 20000 in
theorem ggX4_openWord_X2_letterTotal : GoodIn wsX4_openWord wsX2_letterTotal := goodIn_r _ [59, 25, 68, 69, 70, 71, 72, 73, 74, 75, 76, 77, 78] (by decide +kernel) (by decide +kernel)
set_option maxRecDepth 20000 in
theorem gX4_openWord_X2_letterTotal : GoodIn wsX4_openWord (wsV RX4 123 RX2 yX2_letterTotal wsX2_letterTotal) := goodIn_app (goodIn_of _ (by decide +kernel)) ggX4_openWord_X2_letterTotal
theorem dX4_openWord_0 : decode cX4_openWord 0 = .ok (.aload_n 0, 1) := by decide +kernel
theorem dX4_openWord_1 : decode cX4_openWord 1 = .ok (.getfield 12, 3) := by decide +kernel
theorem dX4_openWord_4 : decode cX4_openWord 4 = .ok (.iload_n 1, 1) := by decide +kernel
theorem dX4_openWord_5 : decode cX4_openWord 5 = .ok (.invokevirtual 77, 3) := by decide +kernel
theorem dX4_openWord_8 : decode cX4_openWord 8 = .ok (.ifCond .ne 13, 3) := by decide +kernel
theorem dX4_openWord_11 : decode cX4_openWord 11 = .ok (.new 81, 3) := by decide +kernel
theorem dX4_openWord_14 : decode cX4_openWord 14 = .ok (.dup, 1) := by decide +kernel
theorem dX4_openWord_15 : decode cX4_openWord 15 = .ok (.ldc 83, 2) := by decide +kernel
theorem dX4_openWord_17 : decode cX4_openWord 17 = .ok (.invokespecial 85, 3) := by decide +kernel
theorem dX4_openWord_20 : decode cX4_openWord 20 = .ok (.athrow, 1) := by decide +kernel
theorem dX4_openWord_21 : decode cX4_openWord 21 = .ok (.aload_n 0, 1) := by decide +kernel
theorem dX4_openWord_22 : decode cX4_openWord 22 = .ok (.getfield 31, 3) := by decide +kernel
theorem dX4_openWord_25 : decode cX4_openWord 25 = .ok (.invokevirtual 104, 3) := by decide +kernel
theorem dX4_openWord_28 : decode cX4_openWord 28 = .ok (.ifCond .eq 13, 3) := by decide +kernel
theorem dX4_openWord_31 : decode cX4_openWord 31 = .ok (.new 64, 3) := by decide +kernel
theorem dX4_openWord_34 : decode cX4_openWord 34 = .ok (.dup, 1) := by decide +kernel
theorem dX4_openWord_35 : decode cX4_openWord 35 = .ok (.ldc 121, 2) := by decide +kernel
theorem dX4_openWord_37 : decode cX4_openWord 37 = .ok (.invokespecial 68, 3) := by decide +kernel
theorem dX4_openWord_40 : decode cX4_openWord 40 = .ok (.athrow, 1) := by decide +kernel
theorem dX4_openWord_41 : decode cX4_openWord 41 = .ok (.aload_n 0, 1) := by decide +kernel
theorem dX4_openWord_42 : decode cX4_openWord 42 = .ok (.getfield 31, 3) := by decide +kernel
theorem dX4_openWord_45 : decode cX4_openWord 45 = .ok (.invokevirtual 109, 3) := by decide +kernel
theorem dX4_openWord_48 : decode cX4_openWord 48 = .ok (.aload_n 0, 1) := by decide +kernel
theorem dX4_openWord_49 : decode cX4_openWord 49 = .ok (.getfield 31, 3) := by decide +kernel
theorem dX4_openWord_52 : decode cX4_openWord 52 = .ok (.iload_n 1, 1) := by decide +kernel
theorem dX4_openWord_53 : decode cX4_openWord 53 = .ok (.aload_n 0, 1) := by decide +kernel
theorem dX4_openWord_54 : decode cX4_openWord 54 = .ok (.getfield 12, 3) := by decide +kernel
theorem dX4_openWord_57 : decode cX4_openWord 57 = .ok (.iload_n 1, 1) := by decide +kernel
theorem dX4_openWord_58 : decode cX4_openWord 58 = .ok (.invokevirtual 86, 3) := by decide +kernel
theorem dX4_openWord_61 : decode cX4_openWord 61 = .ok (.invokevirtual 115, 3) := by decide +kernel
theorem dX4_openWord_64 : decode cX4_openWord 64 = .ok (.aload_n 0, 1) := by decide +kernel
theorem dX4_openWord_65 : decode cX4_openWord 65 = .ok (.getfield 31, 3) := by decide +kernel
theorem dX4_openWord_68 : decode cX4_openWord 68 = .ok (.invokevirtual 123, 3) := by decide +kernel
theorem dX4_openWord_71 : decode cX4_openWord 71 = .ok (.ireturn, 1) := by decide +kernel
set_option maxRecDepth 20000 in
theorem ggX4_giveUp_X2_isRunning : GoodIn wsX4_giveUp wsX2_isRunning := goodIn_r _ [8, 9, 30, 31, 32, 33, 34, 35, 36, 37, 38, 39, 40] (by decide +kernel) (by decide +kernel)
set_option maxRecDepth 20000 in
theorem gX4_giveUp_X2_isRunning : GoodIn wsX4_giveUp (wsV RX4 104 RX2 yX2_isRunning wsX2_isRunning) := goodIn_app (goodIn_of _ (by decide +kernel)) ggX4_giveUp_X2_isRunning
set_option maxRecDepth 20000 in
theorem ggX4_giveUp_X2_stop : GoodIn wsX4_giveUp wsX2_stop := goodIn_r _ [13, 9, 30, 31, 32, 33, 34, 35, 36, 37, 38, 39, 40] (by decide +kernel) (by decide +kernel)
set_option maxRecDepth 20000 in
theorem gX4_giveUp_X2_stop : GoodIn wsX4_giveUp (wsV RX4 128 RX2 yX2_stop wsX2_stop) := goodIn_app (goodIn_of _ (by decide +kernel)) ggX4_giveUp_X2_stop
set_option maxRecDepth 20000 in
theorem ggX4_giveUp_X2_letterTotal : GoodIn wsX4_giveUp wsX2_letterTotal := goodIn_r _ [17, 18, 30, 31, 32, 33, 34, 35, 36, 37, 38, 39, 40] (by decide +kernel) (by decide +kernel)
set_option maxRecDepth 20000 in
theorem gX4_giveUp_X2_letterTotal : GoodIn wsX4_giveUp (wsV RX4 123 RX2 yX2_letterTotal wsX2_letterTotal) := goodIn_app (goodIn_of _ (by decide +kernel)) ggX4_giveUp_X2_letterTotal
set_option maxRecDepth 20000 in
theorem ggX4_giveUp_X2_triedTotal : GoodIn wsX4_giveUp wsX2_triedTotal := goodIn_r _ [22, 23, 30, 31, 32, 33, 34, 35, 36, 37, 38, 39, 40] (by decide +kernel) (by decide +kernel)
set_option maxRecDepth 20000 in
theorem gX4_giveUp_X2_triedTotal : GoodIn wsX4_giveUp (wsV RX4 131 RX2 yX2_triedTotal wsX2_triedTotal) := goodIn_app (goodIn_of _ (by decide +kernel)) ggX4_giveUp_X2_triedTotal
theorem dX4_giveUp_0 : decode cX4_giveUp 0 = .ok (.aload_n 0, 1) := by decide +kernel
theorem dX4_giveUp_1 : decode cX4_giveUp 1 = .ok (.getfield 31, 3) := by decide +kernel
theorem dX4_giveUp_4 : decode cX4_giveUp 4 = .ok (.invokevirtual 104, 3) := by decide +kernel
theorem dX4_giveUp_7 : decode cX4_giveUp 7 = .ok (.ifCond .ne 13, 3) := by decide +kernel
theorem dX4_giveUp_10 : decode cX4_giveUp 10 = .ok (.new 64, 3) := by decide +kernel
theorem dX4_giveUp_13 : decode cX4_giveUp 13 = .ok (.dup, 1) := by decide +kernel
theorem dX4_giveUp_14 : decode cX4_giveUp 14 = .ok (.ldc 126, 2) := by decide +kernel
theorem dX4_giveUp_16 : decode cX4_giveUp 16 = .ok (.invokespecial 68, 3) := by decide +kernel
theorem dX4_giveUp_19 : decode cX4_giveUp 19 = .ok (.athrow, 1) := by decide +kernel
theorem dX4_giveUp_20 : decode cX4_giveUp 20 = .ok (.aload_n 0, 1) := by decide +kernel
theorem dX4_giveUp_21 : decode cX4_giveUp 21 = .ok (.getfield 31, 3) := by decide +kernel
theorem dX4_giveUp_24 : decode cX4_giveUp 24 = .ok (.invokevirtual 128, 3) := by decide +kernel
theorem dX4_giveUp_27 : decode cX4_giveUp 27 = .ok (.aload_n 0, 1) := by decide +kernel
theorem dX4_giveUp_28 : decode cX4_giveUp 28 = .ok (.getfield 31, 3) := by decide +kernel
theorem dX4_giveUp_31 : decode cX4_giveUp 31 = .ok (.invokevirtual 123, 3) := by decide +kernel
theorem dX4_giveUp_34 : decode cX4_giveUp 34 = .ok (.aload_n 0, 1) := by decide +kernel
theorem dX4_giveUp_35 : decode cX4_giveUp 35 = .ok (.getfield 31, 3) := by decide +kernel
theorem dX4_giveUp_38 : decode cX4_giveUp 38 = .ok (.invokevirtual 131, 3) := by decide +kernel
theorem dX4_giveUp_41 : decode cX4_giveUp 41 = .ok (.isub, 1) := by decide +kernel
theorem dX4_giveUp_42 : decode cX4_giveUp 42 = .ok (.ireturn, 1) := by decide +kernel
set_option maxRecDepth 20000 in
theorem ggX4_isOpen_X2_isRunning : GoodIn wsX4_isOpen wsX2_isRunning := goodIn_r _ [6, 7, 14, 15, 16, 17, 18, 19, 20, 21, 22, 23, 24] (by decide +kernel) (by decide +kernel)
set_option maxRecDepth 20000 in
theorem gX4_isOpen_X2_isRunning : GoodIn wsX4_isOpen (wsV RX4 104 RX2 yX2_isRunning wsX2_isRunning) := goodIn_app (goodIn_of _ (by decide +kernel)) ggX4_isOpen_X2_isRunning
theorem dX4_isOpen_0 : decode cX4_isOpen 0 = .ok (.aload_n 0, 1) := by decide +kernel
theorem dX4_isOpen_1 : decode cX4_isOpen 1 = .ok (.getfield 31, 3) := by decide +kernel
theorem dX4_isOpen_4 : decode cX4_isOpen 4 = .ok (.invokevirtual 104, 3) := by decide +kernel
theorem dX4_isOpen_7 : decode cX4_isOpen 7 = .ok (.ireturn, 1) := by decide +kernel
set_option maxRecDepth 20000 in
theorem ggX4_lessonWord_X2_isRunning : GoodIn wsX4_lessonWord wsX2_isRunning := goodIn_r _ [10, 11, 31, 32, 33, 34, 35, 36, 37, 38, 39, 40, 41] (by decide +kernel) (by decide +kernel)
set_option maxRecDepth 20000 in
theorem gX4_lessonWord_X2_isRunning : GoodIn wsX4_lessonWord (wsV RX4 104 RX2 yX2_isRunning wsX2_isRunning) := goodIn_app (goodIn_of _ (by decide +kernel)) ggX4_lessonWord_X2_isRunning
set_option maxRecDepth 20000 in
theorem ggX4_lessonWord_X2_wordTotal : GoodIn wsX4_lessonWord wsX2_wordTotal := goodIn_r _ [15, 16, 31, 32, 33, 34, 35, 36, 37, 38, 39, 40, 41] (by decide +kernel) (by decide +kernel)
set_option maxRecDepth 20000 in
theorem gX4_lessonWord_X2_wordTotal : GoodIn wsX4_lessonWord (wsV RX4 118 RX2 yX2_wordTotal wsX2_wordTotal) := goodIn_app (goodIn_of _ (by decide +kernel)) ggX4_lessonWord_X2_wordTotal
set_option maxRecDepth 20000 in
theorem ggX4_lessonWord_X2_numberAt : GoodIn wsX4_lessonWord wsX2_numberAt := goodIn_r _ [20, 21, 22, 23, 24, 31, 32, 33, 34, 35, 36, 37, 38, 39, 40, 41] (by decide +kernel) (by decide +kernel)
set_option maxRecDepth 20000 in
theorem gX4_lessonWord_X2_numberAt : GoodIn wsX4_lessonWord (wsV RX4 136 RX2 yX2_numberAt wsX2_numberAt) := goodIn_app (goodIn_of _ (by decide +kernel)) ggX4_lessonWord_X2_numberAt
theorem dX4_lessonWord_0 : decode cX4_lessonWord 0 = .ok (.aload_n 0, 1) := by decide +kernel
theorem dX4_lessonWord_1 : decode cX4_lessonWord 1 = .ok (.getfield 31, 3) := by decide +kernel
theorem dX4_lessonWord_4 : decode cX4_lessonWord 4 = .ok (.invokevirtual 104, 3) := by decide +kernel
theorem dX4_lessonWord_7 : decode cX4_lessonWord 7 = .ok (.ifCond .ne 13, 3) := by decide +kernel
theorem dX4_lessonWord_10 : decode cX4_lessonWord 10 = .ok (.new 64, 3) := by decide +kernel
theorem dX4_lessonWord_13 : decode cX4_lessonWord 13 = .ok (.dup, 1) := by decide +kernel
theorem dX4_lessonWord_14 : decode cX4_lessonWord 14 = .ok (.ldc 126, 2) := by decide +kernel
theorem dX4_lessonWord_16 : decode cX4_lessonWord 16 = .ok (.invokespecial 68, 3) := by decide +kernel
theorem dX4_lessonWord_19 : decode cX4_lessonWord 19 = .ok (.athrow, 1) := by decide +kernel
theorem dX4_lessonWord_20 : decode cX4_lessonWord 20 = .ok (.iload_n 1, 1) := by decide +kernel
theorem dX4_lessonWord_21 : decode cX4_lessonWord 21 = .ok (.ifCond .lt 14, 3) := by decide +kernel
theorem dX4_lessonWord_24 : decode cX4_lessonWord 24 = .ok (.iload_n 1, 1) := by decide +kernel
theorem dX4_lessonWord_25 : decode cX4_lessonWord 25 = .ok (.aload_n 0, 1) := by decide +kernel
theorem dX4_lessonWord_26 : decode cX4_lessonWord 26 = .ok (.getfield 31, 3) := by decide +kernel
theorem dX4_lessonWord_29 : decode cX4_lessonWord 29 = .ok (.invokevirtual 118, 3) := by decide +kernel
theorem dX4_lessonWord_32 : decode cX4_lessonWord 32 = .ok (.if_icmp .lt 13, 3) := by decide +kernel
theorem dX4_lessonWord_35 : decode cX4_lessonWord 35 = .ok (.new 81, 3) := by decide +kernel
theorem dX4_lessonWord_38 : decode cX4_lessonWord 38 = .ok (.dup, 1) := by decide +kernel
theorem dX4_lessonWord_39 : decode cX4_lessonWord 39 = .ok (.ldc 134, 2) := by decide +kernel
theorem dX4_lessonWord_41 : decode cX4_lessonWord 41 = .ok (.invokespecial 85, 3) := by decide +kernel
theorem dX4_lessonWord_44 : decode cX4_lessonWord 44 = .ok (.athrow, 1) := by decide +kernel
theorem dX4_lessonWord_45 : decode cX4_lessonWord 45 = .ok (.aload_n 0, 1) := by decide +kernel
theorem dX4_lessonWord_46 : decode cX4_lessonWord 46 = .ok (.getfield 31, 3) := by decide +kernel
theorem dX4_lessonWord_49 : decode cX4_lessonWord 49 = .ok (.iload_n 1, 1) := by decide +kernel
theorem dX4_lessonWord_50 : decode cX4_lessonWord 50 = .ok (.invokevirtual 136, 3) := by decide +kernel
theorem dX4_lessonWord_53 : decode cX4_lessonWord 53 = .ok (.ireturn, 1) := by decide +kernel
set_option maxRecDepth 20000 in
theorem ggX4_wanted_X2_isRunning : GoodIn wsX4_wanted wsX2_isRunning := goodIn_r _ [8, 9, 25, 26, 27, 28, 29, 30, 31, 32, 33, 34, 35] (by decide +kernel) (by decide +kernel)
set_option maxRecDepth 20000 in
theorem gX4_wanted_X2_isRunning : GoodIn wsX4_wanted (wsV RX4 104 RX2 yX2_isRunning wsX2_isRunning) := goodIn_app (goodIn_of _ (by decide +kernel)) ggX4_wanted_X2_isRunning
set_option maxRecDepth 20000 in
theorem ggX4_wanted_X2_letterHere : GoodIn wsX4_wanted wsX2_letterHere := goodIn_r _ [13, 14, 15, 16, 17, 18, 25, 26, 27, 28, 29, 30, 31, 32, 33, 34, 35] (by decide +kernel) (by decide +kernel)
set_option maxRecDepth 20000 in
theorem gX4_wanted_X2_letterHere : GoodIn wsX4_wanted (wsV RX4 140 RX2 yX2_letterHere wsX2_letterHere) := goodIn_app (goodIn_of _ (by decide +kernel)) ggX4_wanted_X2_letterHere
theorem dX4_wanted_0 : decode cX4_wanted 0 = .ok (.aload_n 0, 1) := by decide +kernel
theorem dX4_wanted_1 : decode cX4_wanted 1 = .ok (.getfield 31, 3) := by decide +kernel
theorem dX4_wanted_4 : decode cX4_wanted 4 = .ok (.invokevirtual 104, 3) := by decide +kernel
theorem dX4_wanted_7 : decode cX4_wanted 7 = .ok (.ifCond .ne 13, 3) := by decide +kernel
theorem dX4_wanted_10 : decode cX4_wanted 10 = .ok (.new 64, 3) := by decide +kernel
theorem dX4_wanted_13 : decode cX4_wanted 13 = .ok (.dup, 1) := by decide +kernel
theorem dX4_wanted_14 : decode cX4_wanted 14 = .ok (.ldc 126, 2) := by decide +kernel
theorem dX4_wanted_16 : decode cX4_wanted 16 = .ok (.invokespecial 68, 3) := by decide +kernel
theorem dX4_wanted_19 : decode cX4_wanted 19 = .ok (.athrow, 1) := by decide +kernel
theorem dX4_wanted_20 : decode cX4_wanted 20 = .ok (.aload_n 0, 1) := by decide +kernel
theorem dX4_wanted_21 : decode cX4_wanted 21 = .ok (.getfield 31, 3) := by decide +kernel
theorem dX4_wanted_24 : decode cX4_wanted 24 = .ok (.invokevirtual 140, 3) := by decide +kernel
theorem dX4_wanted_27 : decode cX4_wanted 27 = .ok (.ireturn, 1) := by decide +kernel
set_option maxRecDepth 20000 in
theorem ggX4_done_X2_isRunning : GoodIn wsX4_done wsX2_isRunning := goodIn_r _ [8, 9, 21, 22, 23, 24, 25, 26, 27, 28, 29, 30, 31] (by decide +kernel) (by decide +kernel)
set_option maxRecDepth 20000 in
theorem gX4_done_X2_isRunning : GoodIn wsX4_done (wsV RX4 104 RX2 yX2_isRunning wsX2_isRunning) := goodIn_app (goodIn_of _ (by decide +kernel)) ggX4_done_X2_isRunning
set_option maxRecDepth 20000 in
theorem ggX4_done_X2_triedTotal : GoodIn wsX4_done wsX2_triedTotal := goodIn_r _ [13, 14, 21, 22, 23, 24, 25, 26, 27, 28, 29, 30, 31] (by decide +kernel) (by decide +kernel)
set_option maxRecDepth 20000 in
theorem gX4_done_X2_triedTotal : GoodIn wsX4_done (wsV RX4 131 RX2 yX2_triedTotal wsX2_triedTotal) := goodIn_app (goodIn_of _ (by decide +kernel)) ggX4_done_X2_triedTotal
theorem dX4_done_0 : decode cX4_done 0 = .ok (.aload_n 0, 1) := by decide +kernel
theorem dX4_done_1 : decode cX4_done 1 = .ok (.getfield 31, 3) := by decide +kernel
theorem dX4_done_4 : decode cX4_done 4 = .ok (.invokevirtual 104, 3) := by decide +kernel
theorem dX4_done_7 : decode cX4_done 7 = .ok (.ifCond .ne 13, 3) := by decide +kernel
theorem dX4_done_10 : decode cX4_done 10 = .ok (.new 64, 3) := by decide +kernel
theorem dX4_done_13 : decode cX4_done 13 = .ok (.dup, 1) := by decide +kernel
theorem dX4_done_14 : decode cX4_done 14 = .ok (.ldc 126, 2) := by decide +kernel
theorem dX4_done_16 : decode cX4_done 16 = .ok (.invokespecial 68, 3) := by decide +kernel
theorem dX4_done_19 : decode cX4_done 19 = .ok (.athrow, 1) := by decide +kernel
theorem dX4_done_20 : decode cX4_done 20 = .ok (.aload_n 0, 1) := by decide +kernel
theorem dX4_done_21 : decode cX4_done 21 = .ok (.getfield 31, 3) := by decide +kernel
theorem dX4_done_24 : decode cX4_done 24 = .ok (.invokevirtual 131, 3) := by decide +kernel
theorem dX4_done_27 : decode cX4_done 27 = .ok (.ireturn, 1) := by decide +kernel
set_option maxRecDepth 20000 in
theorem ggX4_strike_X4_isKey : GoodIn wsX4_strike wsX4_isKey := goodIn_r _ [12] (by decide +kernel) (by decide +kernel)
set_option maxRecDepth 20000 in
theorem gX4_strike_X4_isKey : GoodIn wsX4_strike (va_wsS RX4 93 yX4_isKey wsX4_isKey) := goodIn_app (goodIn_of _ (by decide +kernel)) ggX4_strike_X4_isKey
set_option maxRecDepth 20000 in
theorem ggX4_strike_X2_isRunning : GoodIn wsX4_strike wsX2_isRunning := goodIn_r _ [17, 18, 140, 141, 142, 143, 144, 145, 146, 147, 148, 149, 150] (by decide +kernel) (by decide +kernel)
set_option maxRecDepth 20000 in
theorem gX4_strike_X2_isRunning : GoodIn wsX4_strike (wsV RX4 104 RX2 yX2_isRunning wsX2_isRunning) := goodIn_app (goodIn_of _ (by decide +kernel)) ggX4_strike_X2_isRunning
set_option maxRecDepth 20000 in
theorem ggX4_strike_X4_kindOfStroke : GoodIn wsX4_strike wsX4_kindOfStroke := goodIn_r _ [22, 7, 23, 24, 25, 16, 26, 27, 28, 29, 11, 30, 31, 32, 33, 34, 35, 36, 37, 38, 39, 40, 41, 42, 43, 44, 45, 46, 47, 48, 49, 50, 51, 52, 53, 54, 134, 135, 136, 137, 138, 139, 140, 141, 142, 143, 144, 145, 146, 147, 148, 149, 150] (by decide +kernel) (by decide +kernel)
set_option maxRecDepth 20000 in
theorem gX4_strike_X4_kindOfStroke : GoodIn wsX4_strike (wsV RX4 145 RX4 yX4_kindOfStroke wsX4_kindOfStroke) := goodIn_app (goodIn_of _ (by decide +kernel)) ggX4_strike_X4_kindOfStroke
set_option maxRecDepth 20000 in
theorem ggX4_strike_X2_noteStroke : GoodIn wsX4_strike wsX2_noteStroke := goodIn_r _ [58, 59, 60, 140, 141, 142, 143, 144, 145, 146, 147, 148, 149, 150] (by decide +kernel) (by decide +kernel)
set_option maxRecDepth 20000 in
theorem gX4_strike_X2_noteStroke : GoodIn wsX4_strike (wsV RX4 148 RX2 yX2_noteStroke wsX2_noteStroke) := goodIn_app (goodIn_of _ (by decide +kernel)) ggX4_strike_X2_noteStroke
set_option maxRecDepth 20000 in
theorem ggX4_strike_X4_read : GoodIn wsX4_strike wsX4_read := goodIn_r _ [30] (by decide +kernel) (by decide +kernel)
set_option maxRecDepth 20000 in
theorem gX4_strike_X4_read : GoodIn wsX4_strike (va_wsS RX4 152 yX4_read wsX4_read) := goodIn_app (goodIn_of _ (by decide +kernel)) ggX4_strike_X4_read
set_option maxRecDepth 20000 in
theorem ggX4_strike_X4_write : GoodIn wsX4_strike wsX4_write := goodIn_r _ [63] (by decide +kernel) (by decide +kernel)
set_option maxRecDepth 20000 in
theorem gX4_strike_X4_write : GoodIn wsX4_strike (va_wsS RX4 156 yX4_write wsX4_write) := goodIn_app (goodIn_of _ (by decide +kernel)) ggX4_strike_X4_write
set_option maxRecDepth 20000 in
theorem ggX4_strike_X2_mistakesHere : GoodIn wsX4_strike wsX2_mistakesHere := goodIn_r _ [67, 60, 140, 141, 142, 143, 144, 145, 146, 147, 148, 149, 150] (by decide +kernel) (by decide +kernel)
set_option maxRecDepth 20000 in
theorem gX4_strike_X2_mistakesHere : GoodIn wsX4_strike (wsV RX4 160 RX2 yX2_mistakesHere wsX2_mistakesHere) := goodIn_app (goodIn_of _ (by decide +kernel)) ggX4_strike_X2_mistakesHere
set_option maxRecDepth 20000 in
theorem ggX4_strike_X4_tryLetter : GoodIn wsX4_strike wsX4_tryLetter := goodIn_r _ [71, 7, 72, 73, 74, 64, 65, 66, 16, 67, 60, 23, 24, 25, 26, 27, 28, 29, 11, 30, 41, 42, 43, 44, 35, 36, 37, 38, 39, 40, 75, 76, 77, 78, 79, 80, 81, 51, 82, 83, 84, 85, 62, 63, 86, 87, 88, 89, 90, 91, 92, 93, 94, 95, 96, 97, 98, 99, 100, 101, 102, 103, 104, 105, 18, 106, 107, 108, 109, 110, 111, 112, 113, 59, 114, 115, 116, 117, 118, 119, 120, 121, 122, 123, 124, 125, 126, 127, 128, 129, 130, 131, 132, 133, 134, 135, 136, 137, 138, 139, 140, 141, 142, 143, 144, 145, 146, 147, 148, 149, 150, 151, 152, 153, 154, 155, 156, 157, 158, 159, 160] (by decide +kernel) (by decide +kernel)
set_option maxRecDepth 20000 in
theorem gX4_strike_X4_tryLetter : GoodIn wsX4_strike (wsV RX4 163 RX4 yX4_tryLetter wsX4_tryLetter) := goodIn_app (goodIn_of _ (by decide +kernel)) ggX4_strike_X4_tryLetter
theorem dX4_strike_0 : decode cX4_strike 0 = .ok (.iload_n 1, 1) := by decide +kernel
theorem dX4_strike_1 : decode cX4_strike 1 = .ok (.invokestatic 93, 3) := by decide +kernel
theorem dX4_strike_4 : decode cX4_strike 4 = .ok (.ifCond .ne 13, 3) := by decide +kernel
theorem dX4_strike_7 : decode cX4_strike 7 = .ok (.new 81, 3) := by decide +kernel
theorem dX4_strike_10 : decode cX4_strike 10 = .ok (.dup, 1) := by decide +kernel
theorem dX4_strike_11 : decode cX4_strike 11 = .ok (.ldc 96, 2) := by decide +kernel
theorem dX4_strike_13 : decode cX4_strike 13 = .ok (.invokespecial 85, 3) := by decide +kernel
theorem dX4_strike_16 : decode cX4_strike 16 = .ok (.athrow, 1) := by decide +kernel
theorem dX4_strike_17 : decode cX4_strike 17 = .ok (.iload_n 2, 1) := by decide +kernel
theorem dX4_strike_18 : decode cX4_strike 18 = .ok (.iconst 1, 1) := by decide +kernel
theorem dX4_strike_19 : decode cX4_strike 19 = .ok (.if_icmp .lt 10, 3) := by decide +kernel
theorem dX4_strike_22 : decode cX4_strike 22 = .ok (.iload_n 2, 1) := by decide +kernel
theorem dX4_strike_23 : decode cX4_strike 23 = .ok (.sipush 5000, 3) := by decide +kernel
theorem dX4_strike_26 : decode cX4_strike 26 = .ok (.if_icmp .le 13, 3) := by decide +kernel
theorem dX4_strike_29 : decode cX4_strike 29 = .ok (.new 50, 3) := by decide +kernel
theorem dX4_strike_32 : decode cX4_strike 32 = .ok (.dup, 1) := by decide +kernel
theorem dX4_strike_33 : decode cX4_strike 33 = .ok (.ldc 143, 2) := by decide +kernel
theorem dX4_strike_35 : decode cX4_strike 35 = .ok (.invokespecial 54, 3) := by decide +kernel
theorem dX4_strike_38 : decode cX4_strike 38 = .ok (.athrow, 1) := by decide +kernel
theorem dX4_strike_39 : decode cX4_strike 39 = .ok (.aload_n 0, 1) := by decide +kernel
theorem dX4_strike_40 : decode cX4_strike 40 = .ok (.getfield 31, 3) := by decide +kernel
theorem dX4_strike_43 : decode cX4_strike 43 = .ok (.invokevirtual 104, 3) := by decide +kernel
theorem dX4_strike_46 : decode cX4_strike 46 = .ok (.ifCond .ne 13, 3) := by decide +kernel
theorem dX4_strike_49 : decode cX4_strike 49 = .ok (.new 64, 3) := by decide +kernel
theorem dX4_strike_52 : decode cX4_strike 52 = .ok (.dup, 1) := by decide +kernel
theorem dX4_strike_53 : decode cX4_strike 53 = .ok (.ldc 126, 2) := by decide +kernel
theorem dX4_strike_55 : decode cX4_strike 55 = .ok (.invokespecial 68, 3) := by decide +kernel
theorem dX4_strike_58 : decode cX4_strike 58 = .ok (.athrow, 1) := by decide +kernel
theorem dX4_strike_59 : decode cX4_strike 59 = .ok (.aload_n 0, 1) := by decide +kernel
theorem dX4_strike_60 : decode cX4_strike 60 = .ok (.iload_n 1, 1) := by decide +kernel
theorem dX4_strike_61 : decode cX4_strike 61 = .ok (.invokevirtual 145, 3) := by decide +kernel
theorem dX4_strike_64 : decode cX4_strike 64 = .ok (.istore_n 3, 1) := by decide +kernel
theorem dX4_strike_65 : decode cX4_strike 65 = .ok (.aload_n 0, 1) := by decide +kernel
theorem dX4_strike_66 : decode cX4_strike 66 = .ok (.getfield 31, 3) := by decide +kernel
theorem dX4_strike_69 : decode cX4_strike 69 = .ok (.iload_n 3, 1) := by decide +kernel
theorem dX4_strike_70 : decode cX4_strike 70 = .ok (.iload_n 2, 1) := by decide +kernel
theorem dX4_strike_71 : decode cX4_strike 71 = .ok (.invokevirtual 148, 3) := by decide +kernel
theorem dX4_strike_74 : decode cX4_strike 74 = .ok (.iload_n 3, 1) := by decide +kernel
theorem dX4_strike_75 : decode cX4_strike 75 = .ok (.ifCond .eq 21, 3) := by decide +kernel
theorem dX4_strike_78 : decode cX4_strike 78 = .ok (.aload_n 0, 1) := by decide +kernel
theorem dX4_strike_79 : decode cX4_strike 79 = .ok (.getfield 42, 3) := by decide +kernel
theorem dX4_strike_82 : decode cX4_strike 82 = .ok (.iload_n 3, 1) := by decide +kernel
theorem dX4_strike_83 : decode cX4_strike 83 = .ok (.aload_n 0, 1) := by decide +kernel
theorem dX4_strike_84 : decode cX4_strike 84 = .ok (.getfield 42, 3) := by decide +kernel
theorem dX4_strike_87 : decode cX4_strike 87 = .ok (.iload_n 3, 1) := by decide +kernel
theorem dX4_strike_88 : decode cX4_strike 88 = .ok (.invokestatic 152, 3) := by decide +kernel
theorem dX4_strike_91 : decode cX4_strike 91 = .ok (.iconst 1, 1) := by decide +kernel
theorem dX4_strike_92 : decode cX4_strike 92 = .ok (.iadd, 1) := by decide +kernel
theorem dX4_strike_93 : decode cX4_strike 93 = .ok (.invokestatic 156, 3) := by decide +kernel
theorem dX4_strike_96 : decode cX4_strike 96 = .ok (.iload_n 3, 1) := by decide +kernel
theorem dX4_strike_97 : decode cX4_strike 97 = .ok (.ifCond .eq 14, 3) := by decide +kernel
theorem dX4_strike_100 : decode cX4_strike 100 = .ok (.aload_n 0, 1) := by decide +kernel
theorem dX4_strike_101 : decode cX4_strike 101 = .ok (.getfield 31, 3) := by decide +kernel
theorem dX4_strike_104 : decode cX4_strike 104 = .ok (.invokevirtual 160, 3) := by decide +kernel
theorem dX4_strike_107 : decode cX4_strike 107 = .ok (.iconst 2, 1) := by decide +kernel
theorem dX4_strike_108 : decode cX4_strike 108 = .ok (.if_icmp .lt 8, 3) := by decide +kernel
theorem dX4_strike_111 : decode cX4_strike 111 = .ok (.aload_n 0, 1) := by decide +kernel
theorem dX4_strike_112 : decode cX4_strike 112 = .ok (.iload_n 2, 1) := by decide +kernel
theorem dX4_strike_113 : decode cX4_strike 113 = .ok (.invokevirtual 163, 3) := by decide +kernel
theorem dX4_strike_116 : decode cX4_strike 116 = .ok (.iload_n 3, 1) := by decide +kernel
theorem dX4_strike_117 : decode cX4_strike 117 = .ok (.ireturn, 1) := by decide +kernel
set_option maxRecDepth 20000 in
theorem ggX4_key_X4_isKey : GoodIn wsX4_key wsX4_isKey := goodIn_r _ [7] (by decide +kernel) (by decide +kernel)
set_option maxRecDepth 20000 in
theorem gX4_key_X4_isKey : GoodIn wsX4_key (va_wsS RX4 93 yX4_isKey wsX4_isKey) := goodIn_app (goodIn_of _ (by decide +kernel)) ggX4_key_X4_isKey
set_option maxRecDepth 20000 in
theorem ggX4_key_X1_tell : GoodIn wsX4_key wsX1_tell := goodIn_r _ [12, 13, 14, 15, 16, 6, 17, 24, 25, 26] (by decide +kernel) (by decide +kernel)
set_option maxRecDepth 20000 in
theorem gX4_key_X1_tell : GoodIn wsX4_key (wsV RX4 168 RX1 yX1_tell wsX1_tell) := goodIn_app (goodIn_of _ (by decide +kernel)) ggX4_key_X1_tell
theorem dX4_key_0 : decode cX4_key 0 = .ok (.iload_n 1, 1) := by decide +kernel
theorem dX4_key_1 : decode cX4_key 1 = .ok (.invokestatic 93, 3) := by decide +kernel
theorem dX4_key_4 : decode cX4_key 4 = .ok (.ifCond .eq 12, 3) := by decide +kernel
theorem dX4_key_7 : decode cX4_key 7 = .ok (.iload_n 2, 1) := by decide +kernel
theorem dX4_key_8 : decode cX4_key 8 = .ok (.ifCond .lt 8, 3) := by decide +kernel
theorem dX4_key_11 : decode cX4_key 11 = .ok (.iload_n 2, 1) := by decide +kernel
theorem dX4_key_12 : decode cX4_key 12 = .ok (.iconst 2, 1) := by decide +kernel
theorem dX4_key_13 : decode cX4_key 13 = .ok (.if_icmp .le 13, 3) := by decide +kernel
theorem dX4_key_16 : decode cX4_key 16 = .ok (.new 81, 3) := by decide +kernel
theorem dX4_key_19 : decode cX4_key 19 = .ok (.dup, 1) := by decide +kernel
theorem dX4_key_20 : decode cX4_key 20 = .ok (.ldc 166, 2) := by decide +kernel
theorem dX4_key_22 : decode cX4_key 22 = .ok (.invokespecial 85, 3) := by decide +kernel
theorem dX4_key_25 : decode cX4_key 25 = .ok (.athrow, 1) := by decide +kernel
theorem dX4_key_26 : decode cX4_key 26 = .ok (.aload_n 0, 1) := by decide +kernel
theorem dX4_key_27 : decode cX4_key 27 = .ok (.getfield 21, 3) := by decide +kernel
theorem dX4_key_30 : decode cX4_key 30 = .ok (.iload_n 1, 1) := by decide +kernel
theorem dX4_key_31 : decode cX4_key 31 = .ok (.iload_n 2, 1) := by decide +kernel
theorem dX4_key_32 : decode cX4_key 32 = .ok (.invokevirtual 168, 3) := by decide +kernel
theorem dX4_key_35 : decode cX4_key 35 = .ok (.ireturn, 1) := by decide +kernel
set_option maxRecDepth 20000 in
theorem ggX4_pair_X4_isKey : GoodIn wsX4_pair wsX4_isKey := goodIn_r _ [7] (by decide +kernel) (by decide +kernel)
set_option maxRecDepth 20000 in
theorem gX4_pair_X4_isKey : GoodIn wsX4_pair (va_wsS RX4 93 yX4_isKey wsX4_isKey) := goodIn_app (goodIn_of _ (by decide +kernel)) ggX4_pair_X4_isKey
set_option maxRecDepth 20000 in
theorem ggX4_pair_X4_pairOf : GoodIn wsX4_pair wsX4_pairOf := goodIn_r _ [10] (by decide +kernel) (by decide +kernel)
set_option maxRecDepth 20000 in
theorem gX4_pair_X4_pairOf : GoodIn wsX4_pair (va_wsS RX4 174 yX4_pairOf wsX4_pairOf) := goodIn_app (goodIn_of _ (by decide +kernel)) ggX4_pair_X4_pairOf
set_option maxRecDepth 20000 in
theorem ggX4_pair_X4_weaknessOf : GoodIn wsX4_pair wsX4_weaknessOf := goodIn_r _ [14, 3, 15, 16, 17, 18, 19, 20, 21, 6, 22, 23, 24, 25, 26, 27, 33, 34, 35, 36, 37, 38, 39, 40, 41] (by decide +kernel) (by decide +kernel)
set_option maxRecDepth 20000 in
theorem gX4_pair_X4_weaknessOf : GoodIn wsX4_pair (wsV RX4 177 RX4 yX4_weaknessOf wsX4_weaknessOf) := goodIn_app (goodIn_of _ (by decide +kernel)) ggX4_pair_X4_weaknessOf
set_option maxRecDepth 20000 in
theorem ggX4_pair_X1_tell : GoodIn wsX4_pair wsX1_tell := goodIn_r _ [31, 27, 32, 20, 21, 6, 22, 39, 40, 41] (by decide +kernel) (by decide +kernel)
set_option maxRecDepth 20000 in
theorem gX4_pair_X1_tell : GoodIn wsX4_pair (wsV RX4 168 RX1 yX1_tell wsX1_tell) := goodIn_app (goodIn_of _ (by decide +kernel)) ggX4_pair_X1_tell
theorem dX4_pair_0 : decode cX4_pair 0 = .ok (.iload_n 1, 1) := by decide +kernel
theorem dX4_pair_1 : decode cX4_pair 1 = .ok (.invokestatic 93, 3) := by decide +kernel
theorem dX4_pair_4 : decode cX4_pair 4 = .ok (.ifCond .eq 19, 3) := by decide +kernel
theorem dX4_pair_7 : decode cX4_pair 7 = .ok (.iload_n 2, 1) := by decide +kernel
theorem dX4_pair_8 : decode cX4_pair 8 = .ok (.invokestatic 93, 3) := by decide +kernel
theorem dX4_pair_11 : decode cX4_pair 11 = .ok (.ifCond .eq 12, 3) := by decide +kernel
theorem dX4_pair_14 : decode cX4_pair 14 = .ok (.iload_n 3, 1) := by decide +kernel
theorem dX4_pair_15 : decode cX4_pair 15 = .ok (.ifCond .lt 8, 3) := by decide +kernel
theorem dX4_pair_18 : decode cX4_pair 18 = .ok (.iload_n 3, 1) := by decide +kernel
theorem dX4_pair_19 : decode cX4_pair 19 = .ok (.iconst 3, 1) := by decide +kernel
theorem dX4_pair_20 : decode cX4_pair 20 = .ok (.if_icmp .le 13, 3) := by decide +kernel
theorem dX4_pair_23 : decode cX4_pair 23 = .ok (.new 81, 3) := by decide +kernel
theorem dX4_pair_26 : decode cX4_pair 26 = .ok (.dup, 1) := by decide +kernel
theorem dX4_pair_27 : decode cX4_pair 27 = .ok (.ldc 172, 2) := by decide +kernel
theorem dX4_pair_29 : decode cX4_pair 29 = .ok (.invokespecial 85, 3) := by decide +kernel
theorem dX4_pair_32 : decode cX4_pair 32 = .ok (.athrow, 1) := by decide +kernel
theorem dX4_pair_33 : decode cX4_pair 33 = .ok (.iload_n 1, 1) := by decide +kernel
theorem dX4_pair_34 : decode cX4_pair 34 = .ok (.iload_n 2, 1) := by decide +kernel
theorem dX4_pair_35 : decode cX4_pair 35 = .ok (.invokestatic 174, 3) := by decide +kernel
theorem dX4_pair_38 : decode cX4_pair 38 = .ok (.istore 4, 2) := by decide +kernel
theorem dX4_pair_40 : decode cX4_pair 40 = .ok (.iload_n 3, 1) := by decide +kernel
theorem dX4_pair_41 : decode cX4_pair 41 = .ok (.iconst 3, 1) := by decide +kernel
theorem dX4_pair_42 : decode cX4_pair 42 = .ok (.if_icmp .ne 12, 3) := by decide +kernel
theorem dX4_pair_45 : decode cX4_pair 45 = .ok (.aload_n 0, 1) := by decide +kernel
theorem dX4_pair_46 : decode cX4_pair 46 = .ok (.iload 4, 2) := by decide +kernel
theorem dX4_pair_48 : decode cX4_pair 48 = .ok (.invokevirtual 177, 3) := by decide +kernel
theorem dX4_pair_51 : decode cX4_pair 51 = .ok (.goto 13, 3) := by decide +kernel
theorem dX4_pair_54 : decode cX4_pair 54 = .ok (.aload_n 0, 1) := by decide +kernel
theorem dX4_pair_55 : decode cX4_pair 55 = .ok (.getfield 25, 3) := by decide +kernel
theorem dX4_pair_58 : decode cX4_pair 58 = .ok (.iload 4, 2) := by decide +kernel
theorem dX4_pair_60 : decode cX4_pair 60 = .ok (.iload_n 3, 1) := by decide +kernel
theorem dX4_pair_61 : decode cX4_pair 61 = .ok (.invokevirtual 168, 3) := by decide +kernel
theorem dX4_pair_64 : decode cX4_pair 64 = .ok (.ireturn, 1) := by decide +kernel
set_option maxRecDepth 20000 in
theorem ggX4_weakest_X1_triesOf : GoodIn wsX4_weakest wsX1_triesOf := goodIn_r _ [6, 7, 8, 9, 10, 26, 27, 28] (by decide +kernel) (by decide +kernel)
set_option maxRecDepth 20000 in
theorem gX4_weakest_X1_triesOf : GoodIn wsX4_weakest (wsV RX4 180 RX1 yX1_triesOf wsX1_triesOf) := goodIn_app (goodIn_of _ (by decide +kernel)) ggX4_weakest_X1_triesOf
set_option maxRecDepth 20000 in
theorem ggX4_weakest_X4_weaknessOf : GoodIn wsX4_weakest wsX4_weaknessOf := goodIn_r _ [14, 1, 15, 16, 17, 5, 18, 19, 8, 9, 10, 2, 3, 4, 6, 7, 20, 21, 22, 23, 24, 25, 26, 27, 28] (by decide +kernel) (by decide +kernel)
set_option maxRecDepth 20000 in
theorem gX4_weakest_X4_weaknessOf : GoodIn wsX4_weakest (wsV RX4 177 RX4 yX4_weaknessOf wsX4_weaknessOf) := goodIn_app (goodIn_of _ (by decide +kernel)) ggX4_weakest_X4_weaknessOf
theorem dX4_weakest_0 : decode cX4_weakest 0 = .ok (.iconst (-1), 1) := by decide +kernel
theorem dX4_weakest_1 : decode cX4_weakest 1 = .ok (.istore_n 1, 1) := by decide +kernel
theorem dX4_weakest_2 : decode cX4_weakest 2 = .ok (.iconst 0, 1) := by decide +kernel
theorem dX4_weakest_3 : decode cX4_weakest 3 = .ok (.istore_n 2, 1) := by decide +kernel
theorem dX4_weakest_4 : decode cX4_weakest 4 = .ok (.iload_n 2, 1) := by decide +kernel
theorem dX4_weakest_5 : decode cX4_weakest 5 = .ok (.sipush 676, 3) := by decide +kernel
theorem dX4_weakest_8 : decode cX4_weakest 8 = .ok (.if_icmp .ge 40, 3) := by decide +kernel
theorem dX4_weakest_11 : decode cX4_weakest 11 = .ok (.aload_n 0, 1) := by decide +kernel
theorem dX4_weakest_12 : decode cX4_weakest 12 = .ok (.getfield 25, 3) := by decide +kernel
theorem dX4_weakest_15 : decode cX4_weakest 15 = .ok (.iload_n 2, 1) := by decide +kernel
theorem dX4_weakest_16 : decode cX4_weakest 16 = .ok (.invokevirtual 180, 3) := by decide +kernel
theorem dX4_weakest_19 : decode cX4_weakest 19 = .ok (.ifCond .le 23, 3) := by decide +kernel
theorem dX4_weakest_22 : decode cX4_weakest 22 = .ok (.iload_n 1, 1) := by decide +kernel
theorem dX4_weakest_23 : decode cX4_weakest 23 = .ok (.iconst (-1), 1) := by decide +kernel
theorem dX4_weakest_24 : decode cX4_weakest 24 = .ok (.if_icmp .eq 16, 3) := by decide +kernel
theorem dX4_weakest_27 : decode cX4_weakest 27 = .ok (.aload_n 0, 1) := by decide +kernel
theorem dX4_weakest_28 : decode cX4_weakest 28 = .ok (.iload_n 2, 1) := by decide +kernel
theorem dX4_weakest_29 : decode cX4_weakest 29 = .ok (.invokevirtual 177, 3) := by decide +kernel
theorem dX4_weakest_32 : decode cX4_weakest 32 = .ok (.aload_n 0, 1) := by decide +kernel
theorem dX4_weakest_33 : decode cX4_weakest 33 = .ok (.iload_n 1, 1) := by decide +kernel
theorem dX4_weakest_34 : decode cX4_weakest 34 = .ok (.invokevirtual 177, 3) := by decide +kernel
theorem dX4_weakest_37 : decode cX4_weakest 37 = .ok (.if_icmp .le 5, 3) := by decide +kernel
theorem dX4_weakest_40 : decode cX4_weakest 40 = .ok (.iload_n 2, 1) := by decide +kernel
theorem dX4_weakest_41 : decode cX4_weakest 41 = .ok (.istore_n 1, 1) := by decide +kernel
theorem dX4_weakest_42 : decode cX4_weakest 42 = .ok (.iinc 2 1, 3) := by decide +kernel
theorem dX4_weakest_45 : decode cX4_weakest 45 = .ok (.goto (-41), 3) := by decide +kernel
theorem dX4_weakest_48 : decode cX4_weakest 48 = .ok (.iload_n 1, 1) := by decide +kernel
theorem dX4_weakest_49 : decode cX4_weakest 49 = .ok (.ireturn, 1) := by decide +kernel
set_option maxRecDepth 20000 in
theorem ggX4_mistakes_X4_read : GoodIn wsX4_mistakes wsX4_read := goodIn_r _ [7] (by decide +kernel) (by decide +kernel)
set_option maxRecDepth 20000 in
theorem gX4_mistakes_X4_read : GoodIn wsX4_mistakes (va_wsS RX4 152 yX4_read wsX4_read) := goodIn_app (goodIn_of _ (by decide +kernel)) ggX4_mistakes_X4_read
theorem dX4_mistakes_0 : decode cX4_mistakes 0 = .ok (.iload_n 1, 1) := by decide +kernel
theorem dX4_mistakes_1 : decode cX4_mistakes 1 = .ok (.iconst 1, 1) := by decide +kernel
theorem dX4_mistakes_2 : decode cX4_mistakes 2 = .ok (.if_icmp .lt 8, 3) := by decide +kernel
theorem dX4_mistakes_5 : decode cX4_mistakes 5 = .ok (.iload_n 1, 1) := by decide +kernel
theorem dX4_mistakes_6 : decode cX4_mistakes 6 = .ok (.iconst 4, 1) := by decide +kernel
theorem dX4_mistakes_7 : decode cX4_mistakes 7 = .ok (.if_icmp .le 13, 3) := by decide +kernel
theorem dX4_mistakes_10 : decode cX4_mistakes 10 = .ok (.new 81, 3) := by decide +kernel
theorem dX4_mistakes_13 : decode cX4_mistakes 13 = .ok (.dup, 1) := by decide +kernel
theorem dX4_mistakes_14 : decode cX4_mistakes 14 = .ok (.ldc 183, 2) := by decide +kernel
theorem dX4_mistakes_16 : decode cX4_mistakes 16 = .ok (.invokespecial 85, 3) := by decide +kernel
theorem dX4_mistakes_19 : decode cX4_mistakes 19 = .ok (.athrow, 1) := by decide +kernel
theorem dX4_mistakes_20 : decode cX4_mistakes 20 = .ok (.aload_n 0, 1) := by decide +kernel
theorem dX4_mistakes_21 : decode cX4_mistakes 21 = .ok (.getfield 42, 3) := by decide +kernel
theorem dX4_mistakes_24 : decode cX4_mistakes 24 = .ok (.iload_n 1, 1) := by decide +kernel
theorem dX4_mistakes_25 : decode cX4_mistakes 25 = .ok (.invokestatic 152, 3) := by decide +kernel
theorem dX4_mistakes_28 : decode cX4_mistakes 28 = .ok (.ireturn, 1) := by decide +kernel
set_option maxRecDepth 20000 in
theorem ggX4_lessons_X0_size : GoodIn wsX4_lessons wsX0_size := goodIn_r _ [6, 7, 14, 15, 16, 17, 18, 19, 20] (by decide +kernel) (by decide +kernel)
set_option maxRecDepth 20000 in
theorem gX4_lessons_X0_size : GoodIn wsX4_lessons (wsV RX4 185 RX0 yX0_size wsX0_size) := goodIn_app (goodIn_of _ (by decide +kernel)) ggX4_lessons_X0_size
theorem dX4_lessons_0 : decode cX4_lessons 0 = .ok (.aload_n 0, 1) := by decide +kernel
theorem dX4_lessons_1 : decode cX4_lessons 1 = .ok (.getfield 38, 3) := by decide +kernel
theorem dX4_lessons_4 : decode cX4_lessons 4 = .ok (.invokevirtual 185, 3) := by decide +kernel
theorem dX4_lessons_7 : decode cX4_lessons 7 = .ok (.ireturn, 1) := by decide +kernel
set_option maxRecDepth 20000 in
theorem ggX4_lesson_X0_size : GoodIn wsX4_lesson wsX0_size := goodIn_r _ [8, 9, 31, 32, 33, 34, 35, 36, 37] (by decide +kernel) (by decide +kernel)
set_option maxRecDepth 20000 in
theorem gX4_lesson_X0_size : GoodIn wsX4_lesson (wsV RX4 185 RX0 yX0_size wsX0_size) := goodIn_app (goodIn_of _ (by decide +kernel)) ggX4_lesson_X0_size
set_option maxRecDepth 20000 in
theorem ggX4_lesson_X0_tell : GoodIn wsX4_lesson wsX0_tell := goodIn_r _ [13, 14, 15, 16, 17, 18, 19, 20, 21, 22, 7, 23, 24, 31, 32, 33, 34, 35, 36, 37] (by decide +kernel) (by decide +kernel)
set_option maxRecDepth 20000 in
theorem gX4_lesson_X0_tell : GoodIn wsX4_lesson (wsV RX4 188 RX0 yX0_tell wsX0_tell) := goodIn_app (goodIn_of _ (by decide +kernel)) ggX4_lesson_X0_tell
theorem dX4_lesson_0 : decode cX4_lesson 0 = .ok (.iload_n 1, 1) := by decide +kernel
theorem dX4_lesson_1 : decode cX4_lesson 1 = .ok (.ifCond .lt 23, 3) := by decide +kernel
theorem dX4_lesson_4 : decode cX4_lesson 4 = .ok (.iload_n 1, 1) := by decide +kernel
theorem dX4_lesson_5 : decode cX4_lesson 5 = .ok (.aload_n 0, 1) := by decide +kernel
theorem dX4_lesson_6 : decode cX4_lesson 6 = .ok (.getfield 38, 3) := by decide +kernel
theorem dX4_lesson_9 : decode cX4_lesson 9 = .ok (.invokevirtual 185, 3) := by decide +kernel
theorem dX4_lesson_12 : decode cX4_lesson 12 = .ok (.if_icmp .ge 12, 3) := by decide +kernel
theorem dX4_lesson_15 : decode cX4_lesson 15 = .ok (.iload_n 2, 1) := by decide +kernel
theorem dX4_lesson_16 : decode cX4_lesson 16 = .ok (.ifCond .lt 8, 3) := by decide +kernel
theorem dX4_lesson_19 : decode cX4_lesson 19 = .ok (.iload_n 2, 1) := by decide +kernel
theorem dX4_lesson_20 : decode cX4_lesson 20 = .ok (.iconst 3, 1) := by decide +kernel
theorem dX4_lesson_21 : decode cX4_lesson 21 = .ok (.if_icmp .le 13, 3) := by decide +kernel
theorem dX4_lesson_24 : decode cX4_lesson 24 = .ok (.new 81, 3) := by decide +kernel
theorem dX4_lesson_27 : decode cX4_lesson 27 = .ok (.dup, 1) := by decide +kernel
theorem dX4_lesson_28 : decode cX4_lesson 28 = .ok (.ldc 186, 2) := by decide +kernel
theorem dX4_lesson_30 : decode cX4_lesson 30 = .ok (.invokespecial 85, 3) := by decide +kernel
theorem dX4_lesson_33 : decode cX4_lesson 33 = .ok (.athrow, 1) := by decide +kernel
theorem dX4_lesson_34 : decode cX4_lesson 34 = .ok (.aload_n 0, 1) := by decide +kernel
theorem dX4_lesson_35 : decode cX4_lesson 35 = .ok (.getfield 38, 3) := by decide +kernel
theorem dX4_lesson_38 : decode cX4_lesson 38 = .ok (.iload_n 1, 1) := by decide +kernel
theorem dX4_lesson_39 : decode cX4_lesson 39 = .ok (.iload_n 2, 1) := by decide +kernel
theorem dX4_lesson_40 : decode cX4_lesson 40 = .ok (.invokevirtual 188, 3) := by decide +kernel
theorem dX4_lesson_43 : decode cX4_lesson 43 = .ok (.ireturn, 1) := by decide +kernel
set_option maxRecDepth 20000 in
theorem ggX4_pace_X0_advisedPace : GoodIn wsX4_pace wsX0_advisedPace := goodIn_r _ [6, 7, 14, 15, 16, 17, 18, 19, 20] (by decide +kernel) (by decide +kernel)
set_option maxRecDepth 20000 in
theorem gX4_pace_X0_advisedPace : GoodIn wsX4_pace (wsV RX4 189 RX0 yX0_advisedPace wsX0_advisedPace) := goodIn_app (goodIn_of _ (by decide +kernel)) ggX4_pace_X0_advisedPace
theorem dX4_pace_0 : decode cX4_pace 0 = .ok (.aload_n 0, 1) := by decide +kernel
theorem dX4_pace_1 : decode cX4_pace 1 = .ok (.getfield 38, 3) := by decide +kernel
theorem dX4_pace_4 : decode cX4_pace 4 = .ok (.invokevirtual 189, 3) := by decide +kernel
theorem dX4_pace_7 : decode cX4_pace 7 = .ok (.ireturn, 1) := by decide +kernel
set_option maxRecDepth 20000 in
theorem ggX4_isPlateau_X0_size : GoodIn wsX4_isPlateau wsX0_size := goodIn_r _ [6, 7, 32, 33, 34, 35, 36, 37, 38] (by decide +kernel) (by decide +kernel)
set_option maxRecDepth 20000 in
theorem gX4_isPlateau_X0_size : GoodIn wsX4_isPlateau (wsV RX4 185 RX0 yX0_size wsX0_size) := goodIn_app (goodIn_of _ (by decide +kernel)) ggX4_isPlateau_X0_size
set_option maxRecDepth 20000 in
theorem ggX4_isPlateau_X0_greatestSpeed : GoodIn wsX4_isPlateau wsX0_greatestSpeed := goodIn_r _ [11, 12, 13, 14, 15, 16, 17, 18, 5, 19, 20, 21, 22, 23, 24, 25, 32, 33, 34, 35, 36, 37, 38] (by decide +kernel) (by decide +kernel)
set_option maxRecDepth 20000 in
theorem gX4_isPlateau_X0_greatestSpeed : GoodIn wsX4_isPlateau (wsV RX4 192 RX0 yX0_greatestSpeed wsX0_greatestSpeed) := goodIn_app (goodIn_of _ (by decide +kernel)) ggX4_isPlateau_X0_greatestSpeed
theorem dX4_isPlateau_0 : decode cX4_isPlateau 0 = .ok (.aload_n 0, 1) := by decide +kernel
theorem dX4_isPlateau_1 : decode cX4_isPlateau 1 = .ok (.getfield 38, 3) := by decide +kernel
theorem dX4_isPlateau_4 : decode cX4_isPlateau 4 = .ok (.invokevirtual 185, 3) := by decide +kernel
theorem dX4_isPlateau_7 : decode cX4_isPlateau 7 = .ok (.istore_n 1, 1) := by decide +kernel
theorem dX4_isPlateau_8 : decode cX4_isPlateau 8 = .ok (.iload_n 1, 1) := by decide +kernel
theorem dX4_isPlateau_9 : decode cX4_isPlateau 9 = .ok (.bipush 6, 2) := by decide +kernel
theorem dX4_isPlateau_11 : decode cX4_isPlateau 11 = .ok (.if_icmp .ge 5, 3) := by decide +kernel
theorem dX4_isPlateau_14 : decode cX4_isPlateau 14 = .ok (.iconst 0, 1) := by decide +kernel
theorem dX4_isPlateau_15 : decode cX4_isPlateau 15 = .ok (.ireturn, 1) := by decide +kernel
theorem dX4_isPlateau_16 : decode cX4_isPlateau 16 = .ok (.aload_n 0, 1) := by decide +kernel
theorem dX4_isPlateau_17 : decode cX4_isPlateau 17 = .ok (.getfield 38, 3) := by decide +kernel
theorem dX4_isPlateau_20 : decode cX4_isPlateau 20 = .ok (.iload_n 1, 1) := by decide +kernel
theorem dX4_isPlateau_21 : decode cX4_isPlateau 21 = .ok (.iconst 3, 1) := by decide +kernel
theorem dX4_isPlateau_22 : decode cX4_isPlateau 22 = .ok (.isub, 1) := by decide +kernel
theorem dX4_isPlateau_23 : decode cX4_isPlateau 23 = .ok (.iload_n 1, 1) := by decide +kernel
theorem dX4_isPlateau_24 : decode cX4_isPlateau 24 = .ok (.invokevirtual 192, 3) := by decide +kernel
theorem dX4_isPlateau_27 : decode cX4_isPlateau 27 = .ok (.istore_n 2, 1) := by decide +kernel
theorem dX4_isPlateau_28 : decode cX4_isPlateau 28 = .ok (.aload_n 0, 1) := by decide +kernel
theorem dX4_isPlateau_29 : decode cX4_isPlateau 29 = .ok (.getfield 38, 3) := by decide +kernel
theorem dX4_isPlateau_32 : decode cX4_isPlateau 32 = .ok (.iload_n 1, 1) := by decide +kernel
theorem dX4_isPlateau_33 : decode cX4_isPlateau 33 = .ok (.bipush 6, 2) := by decide +kernel
theorem dX4_isPlateau_35 : decode cX4_isPlateau 35 = .ok (.isub, 1) := by decide +kernel
theorem dX4_isPlateau_36 : decode cX4_isPlateau 36 = .ok (.iload_n 1, 1) := by decide +kernel
theorem dX4_isPlateau_37 : decode cX4_isPlateau 37 = .ok (.iconst 3, 1) := by decide +kernel
theorem dX4_isPlateau_38 : decode cX4_isPlateau 38 = .ok (.isub, 1) := by decide +kernel
theorem dX4_isPlateau_39 : decode cX4_isPlateau 39 = .ok (.invokevirtual 192, 3) := by decide +kernel
theorem dX4_isPlateau_42 : decode cX4_isPlateau 42 = .ok (.istore_n 3, 1) := by decide +kernel
theorem dX4_isPlateau_43 : decode cX4_isPlateau 43 = .ok (.iload_n 2, 1) := by decide +kernel
theorem dX4_isPlateau_44 : decode cX4_isPlateau 44 = .ok (.iload_n 3, 1) := by decide +kernel
theorem dX4_isPlateau_45 : decode cX4_isPlateau 45 = .ok (.if_icmp .gt 7, 3) := by decide +kernel
theorem dX4_isPlateau_48 : decode cX4_isPlateau 48 = .ok (.iconst 1, 1) := by decide +kernel
theorem dX4_isPlateau_49 : decode cX4_isPlateau 49 = .ok (.goto 4, 3) := by decide +kernel
theorem dX4_isPlateau_52 : decode cX4_isPlateau 52 = .ok (.iconst 0, 1) := by decide +kernel
theorem dX4_isPlateau_53 : decode cX4_isPlateau 53 = .ok (.ireturn, 1) := by decide +kernel
set_option maxRecDepth 20000 in
theorem ggX4_accuracy_X0_letterSum : GoodIn wsX4_accuracy wsX0_letterSum := goodIn_r _ [6, 7, 19, 20, 21, 22, 23, 24, 25] (by decide +kernel) (by decide +kernel)
set_option maxRecDepth 20000 in
theorem gX4_accuracy_X0_letterSum : GoodIn wsX4_accuracy (wsV RX4 195 RX0 yX0_letterSum wsX0_letterSum) := goodIn_app (goodIn_of _ (by decide +kernel)) ggX4_accuracy_X0_letterSum
set_option maxRecDepth 20000 in
theorem ggX4_accuracy_X0_cleanSum : GoodIn wsX4_accuracy wsX0_cleanSum := goodIn_r _ [11, 12, 19, 20, 21, 22, 23, 24, 25] (by decide +kernel) (by decide +kernel)
set_option maxRecDepth 20000 in
theorem gX4_accuracy_X0_cleanSum : GoodIn wsX4_accuracy (wsV RX4 198 RX0 yX0_cleanSum wsX0_cleanSum) := goodIn_app (goodIn_of _ (by decide +kernel)) ggX4_accuracy_X0_cleanSum
theorem dX4_accuracy_0 : decode cX4_accuracy 0 = .ok (.aload_n 0, 1) := by decide +kernel
theorem dX4_accuracy_1 : decode cX4_accuracy 1 = .ok (.getfield 38, 3) := by decide +kernel
theorem dX4_accuracy_4 : decode cX4_accuracy 4 = .ok (.invokevirtual 195, 3) := by decide +kernel
theorem dX4_accuracy_7 : decode cX4_accuracy 7 = .ok (.istore_n 1, 1) := by decide +kernel
theorem dX4_accuracy_8 : decode cX4_accuracy 8 = .ok (.iload_n 1, 1) := by decide +kernel
theorem dX4_accuracy_9 : decode cX4_accuracy 9 = .ok (.ifCond .le 17, 3) := by decide +kernel
theorem dX4_accuracy_12 : decode cX4_accuracy 12 = .ok (.aload_n 0, 1) := by decide +kernel
theorem dX4_accuracy_13 : decode cX4_accuracy 13 = .ok (.getfield 38, 3) := by decide +kernel
theorem dX4_accuracy_16 : decode cX4_accuracy 16 = .ok (.invokevirtual 198, 3) := by decide +kernel
theorem dX4_accuracy_19 : decode cX4_accuracy 19 = .ok (.i2d, 1) := by decide +kernel
theorem dX4_accuracy_20 : decode cX4_accuracy 20 = .ok (.iload_n 1, 1) := by decide +kernel
theorem dX4_accuracy_21 : decode cX4_accuracy 21 = .ok (.i2d, 1) := by decide +kernel
theorem dX4_accuracy_22 : decode cX4_accuracy 22 = .ok (.ddiv, 1) := by decide +kernel
theorem dX4_accuracy_23 : decode cX4_accuracy 23 = .ok (.goto 4, 3) := by decide +kernel
theorem dX4_accuracy_26 : decode cX4_accuracy 26 = .ok (.dconst 1, 1) := by decide +kernel
theorem dX4_accuracy_27 : decode cX4_accuracy 27 = .ok (.dreturn, 1) := by decide +kernel
set_option maxRecDepth 20000 in
theorem ggX4_digest_X4_digestOfWords : GoodIn wsX4_digest wsX4_digestOfWords := goodIn_r _ [6, 7, 8, 9, 10, 11, 12, 13, 14, 15, 5, 16, 17, 18, 19, 20, 21, 22, 102, 103, 104, 105, 106, 107, 108, 109] (by decide +kernel) (by decide +kernel)
set_option maxRecDepth 20000 in
theorem gX4_digest_X4_digestOfWords : GoodIn wsX4_digest (wsV RX4 203 RX4 yX4_digestOfWords wsX4_digestOfWords) := goodIn_app (goodIn_of _ (by decide +kernel)) ggX4_digest_X4_digestOfWords
set_option maxRecDepth 20000 in
theorem ggX4_digest_X4_digestOfKnowledge : GoodIn wsX4_digest wsX4_digestOfKnowledge := goodIn_r _ [26, 27, 28, 29, 30, 31, 5, 32, 33, 34, 35, 36, 37, 38, 39, 40, 41, 42, 14, 15, 16, 17, 43, 44, 45, 46, 47, 102, 103, 104, 105, 106, 107, 110, 111, 112] (by decide +kernel) (by decide +kernel)
set_option maxRecDepth 20000 in
theorem gX4_digest_X4_digestOfKnowledge : GoodIn wsX4_digest (wsV RX4 207 RX4 yX4_digestOfKnowledge wsX4_digestOfKnowledge) := goodIn_app (goodIn_of _ (by decide +kernel)) ggX4_digest_X4_digestOfKnowledge
set_option maxRecDepth 20000 in
theorem ggX4_digest_X4_digestOfLesson : GoodIn wsX4_digest wsX4_digestOfLesson := goodIn_r _ [51, 52, 53, 54, 55, 56, 57, 58, 14, 15, 5, 16, 17, 59, 60, 61, 62, 63, 64, 65, 66, 67, 68, 41, 42, 69, 70, 71, 72, 73, 102, 103, 104, 105, 106, 107, 113, 114, 115, 116, 117, 118, 119, 120, 121, 122, 123] (by decide +kernel) (by decide +kernel)
set_option maxRecDepth 20000 in
theorem gX4_digest_X4_digestOfLesson : GoodIn wsX4_digest (wsV RX4 210 RX4 yX4_digestOfLesson wsX4_digestOfLesson) := goodIn_app (goodIn_of _ (by decide +kernel)) ggX4_digest_X4_digestOfLesson
set_option maxRecDepth 20000 in
theorem ggX4_digest_X4_digestOfHistory : GoodIn wsX4_digest wsX4_digestOfHistory := goodIn_r _ [77, 78, 79, 80, 81, 82, 83, 84, 14, 15, 5, 16, 17, 85, 86, 87, 88, 89, 90, 91, 41, 42, 92, 93, 94, 95, 96, 97, 98, 99, 100, 101, 102, 103, 104, 105, 106, 107, 124, 125, 126, 127, 128, 129, 130] (by decide +kernel) (by decide +kernel)
set_option maxRecDepth 20000 in
theorem gX4_digest_X4_digestOfHistory : GoodIn wsX4_digest (wsV RX4 213 RX4 yX4_digestOfHistory wsX4_digestOfHistory) := goodIn_app (goodIn_of _ (by decide +kernel)) ggX4_digest_X4_digestOfHistory
theorem dX4_digest_0 : decode cX4_digest 0 = .ok (.aload_n 0, 1) := by decide +kernel
theorem dX4_digest_1 : decode cX4_digest 1 = .ok (.ldc2_w 201, 3) := by decide +kernel
theorem dX4_digest_4 : decode cX4_digest 4 = .ok (.invokevirtual 203, 3) := by decide +kernel
theorem dX4_digest_7 : decode cX4_digest 7 = .ok (.lstore_n 1, 1) := by decide +kernel
theorem dX4_digest_8 : decode cX4_digest 8 = .ok (.aload_n 0, 1) := by decide +kernel
theorem dX4_digest_9 : decode cX4_digest 9 = .ok (.lload_n 1, 1) := by decide +kernel
theorem dX4_digest_10 : decode cX4_digest 10 = .ok (.invokevirtual 207, 3) := by decide +kernel
theorem dX4_digest_13 : decode cX4_digest 13 = .ok (.lstore_n 1, 1) := by decide +kernel
theorem dX4_digest_14 : decode cX4_digest 14 = .ok (.aload_n 0, 1) := by decide +kernel
theorem dX4_digest_15 : decode cX4_digest 15 = .ok (.lload_n 1, 1) := by decide +kernel
theorem dX4_digest_16 : decode cX4_digest 16 = .ok (.invokevirtual 210, 3) := by decide +kernel
theorem dX4_digest_19 : decode cX4_digest 19 = .ok (.lstore_n 1, 1) := by decide +kernel
theorem dX4_digest_20 : decode cX4_digest 20 = .ok (.aload_n 0, 1) := by decide +kernel
theorem dX4_digest_21 : decode cX4_digest 21 = .ok (.lload_n 1, 1) := by decide +kernel
theorem dX4_digest_22 : decode cX4_digest 22 = .ok (.invokevirtual 213, 3) := by decide +kernel
theorem dX4_digest_25 : decode cX4_digest 25 = .ok (.lreturn, 1) := by decide +kernel
theorem dX4_read_0 : decode cX4_read 0 = .ok (.iload_n 1, 1) := by decide +kernel
theorem dX4_read_1 : decode cX4_read 1 = .ok (.ifCond .lt 15, 3) := by decide +kernel
theorem dX4_read_4 : decode cX4_read 4 = .ok (.iload_n 1, 1) := by decide +kernel
theorem dX4_read_5 : decode cX4_read 5 = .ok (.aload_n 0, 1) := by decide +kernel
theorem dX4_read_6 : decode cX4_read 6 = .ok (.arraylength, 1) := by decide +kernel
theorem dX4_read_7 : decode cX4_read 7 = .ok (.if_icmp .ge 9, 3) := by decide +kernel
theorem dX4_read_10 : decode cX4_read 10 = .ok (.aload_n 0, 1) := by decide +kernel
theorem dX4_read_11 : decode cX4_read 11 = .ok (.iload_n 1, 1) := by decide +kernel
theorem dX4_read_12 : decode cX4_read 12 = .ok (.iaload, 1) := by decide +kernel
theorem dX4_read_13 : decode cX4_read 13 = .ok (.goto 4, 3) := by decide +kernel
theorem dX4_read_16 : decode cX4_read 16 = .ok (.iconst 0, 1) := by decide +kernel
theorem dX4_read_17 : decode cX4_read 17 = .ok (.ireturn, 1) := by decide +kernel
theorem dX4_write_0 : decode cX4_write 0 = .ok (.iload_n 1, 1) := by decide +kernel
theorem dX4_write_1 : decode cX4_write 1 = .ok (.ifCond .lt 13, 3) := by decide +kernel
theorem dX4_write_4 : decode cX4_write 4 = .ok (.iload_n 1, 1) := by decide +kernel
theorem dX4_write_5 : decode cX4_write 5 = .ok (.aload_n 0, 1) := by decide +kernel
theorem dX4_write_6 : decode cX4_write 6 = .ok (.arraylength, 1) := by decide +kernel
theorem dX4_write_7 : decode cX4_write 7 = .ok (.if_icmp .ge 7, 3) := by decide +kernel
theorem dX4_write_10 : decode cX4_write 10 = .ok (.aload_n 0, 1) := by decide +kernel
theorem dX4_write_11 : decode cX4_write 11 = .ok (.iload_n 1, 1) := by decide +kernel
theorem dX4_write_12 : decode cX4_write 12 = .ok (.iload_n 2, 1) := by decide +kernel
theorem dX4_write_13 : decode cX4_write 13 = .ok (.iastore, 1) := by decide +kernel
theorem dX4_write_14 : decode cX4_write 14 = .ok (.return_, 1) := by decide +kernel
theorem dX4_isKey_0 : decode cX4_isKey 0 = .ok (.iload_n 0, 1) := by decide +kernel
theorem dX4_isKey_1 : decode cX4_isKey 1 = .ok (.ifCond .lt 13, 3) := by decide +kernel
theorem dX4_isKey_4 : decode cX4_isKey 4 = .ok (.iload_n 0, 1) := by decide +kernel
theorem dX4_isKey_5 : decode cX4_isKey 5 = .ok (.bipush 26, 2) := by decide +kernel
theorem dX4_isKey_7 : decode cX4_isKey 7 = .ok (.if_icmp .ge 7, 3) := by decide +kernel
theorem dX4_isKey_10 : decode cX4_isKey 10 = .ok (.iconst 1, 1) := by decide +kernel
theorem dX4_isKey_11 : decode cX4_isKey 11 = .ok (.goto 4, 3) := by decide +kernel
theorem dX4_isKey_14 : decode cX4_isKey 14 = .ok (.iconst 0, 1) := by decide +kernel
theorem dX4_isKey_15 : decode cX4_isKey 15 = .ok (.ireturn, 1) := by decide +kernel
theorem dX4_pairOf_0 : decode cX4_pairOf 0 = .ok (.bipush 26, 2) := by decide +kernel
theorem dX4_pairOf_2 : decode cX4_pairOf 2 = .ok (.iload_n 0, 1) := by decide +kernel
theorem dX4_pairOf_3 : decode cX4_pairOf 3 = .ok (.imul, 1) := by decide +kernel
theorem dX4_pairOf_4 : decode cX4_pairOf 4 = .ok (.iload_n 1, 1) := by decide +kernel
theorem dX4_pairOf_5 : decode cX4_pairOf 5 = .ok (.iadd, 1) := by decide +kernel
theorem dX4_pairOf_6 : decode cX4_pairOf 6 = .ok (.ireturn, 1) := by decide +kernel
set_option maxRecDepth 20000 in
theorem ggX4_standSideBySide_X4_read : GoodIn wsX4_standSideBySide wsX4_read := goodIn_r _ [10] (by decide +kernel) (by decide +kernel)
set_option maxRecDepth 20000 in
theorem gX4_standSideBySide_X4_read : GoodIn wsX4_standSideBySide (va_wsS RX4 152 yX4_read wsX4_read) := goodIn_app (goodIn_of _ (by decide +kernel)) ggX4_standSideBySide_X4_read
theorem dX4_standSideBySide_0 : decode cX4_standSideBySide 0 = .ok (.getstatic 216, 3) := by decide +kernel
theorem dX4_standSideBySide_3 : decode cX4_standSideBySide 3 = .ok (.iload_n 0, 1) := by decide +kernel
theorem dX4_standSideBySide_4 : decode cX4_standSideBySide 4 = .ok (.invokestatic 152, 3) := by decide +kernel
theorem dX4_standSideBySide_7 : decode cX4_standSideBySide 7 = .ok (.getstatic 216, 3) := by decide +kernel
theorem dX4_standSideBySide_10 : decode cX4_standSideBySide 10 = .ok (.iload_n 1, 1) := by decide +kernel
theorem dX4_standSideBySide_11 : decode cX4_standSideBySide 11 = .ok (.invokestatic 152, 3) := by decide +kernel
theorem dX4_standSideBySide_14 : decode cX4_standSideBySide 14 = .ok (.isub, 1) := by decide +kernel
theorem dX4_standSideBySide_15 : decode cX4_standSideBySide 15 = .ok (.invokestatic 219, 3) := by decide +kernel
theorem dX4_standSideBySide_18 : decode cX4_standSideBySide 18 = .ok (.istore_n 2, 1) := by decide +kernel
theorem dX4_standSideBySide_19 : decode cX4_standSideBySide 19 = .ok (.getstatic 224, 3) := by decide +kernel
theorem dX4_standSideBySide_22 : decode cX4_standSideBySide 22 = .ok (.iload_n 0, 1) := by decide +kernel
theorem dX4_standSideBySide_23 : decode cX4_standSideBySide 23 = .ok (.invokestatic 152, 3) := by decide +kernel
theorem dX4_standSideBySide_26 : decode cX4_standSideBySide 26 = .ok (.getstatic 224, 3) := by decide +kernel
theorem dX4_standSideBySide_29 : decode cX4_standSideBySide 29 = .ok (.iload_n 1, 1) := by decide +kernel
theorem dX4_standSideBySide_30 : decode cX4_standSideBySide 30 = .ok (.invokestatic 152, 3) := by decide +kernel
theorem dX4_standSideBySide_33 : decode cX4_standSideBySide 33 = .ok (.isub, 1) := by decide +kernel
theorem dX4_standSideBySide_34 : decode cX4_standSideBySide 34 = .ok (.invokestatic 219, 3) := by decide +kernel
theorem dX4_standSideBySide_37 : decode cX4_standSideBySide 37 = .ok (.istore_n 3, 1) := by decide +kernel
theorem dX4_standSideBySide_38 : decode cX4_standSideBySide 38 = .ok (.iload_n 2, 1) := by decide +kernel
theorem dX4_standSideBySide_39 : decode cX4_standSideBySide 39 = .ok (.ifCond .ne 16, 3) := by decide +kernel
theorem dX4_standSideBySide_42 : decode cX4_standSideBySide 42 = .ok (.iload_n 3, 1) := by decide +kernel
theorem dX4_standSideBySide_43 : decode cX4_standSideBySide 43 = .ok (.iconst 1, 1) := by decide +kernel
theorem dX4_standSideBySide_44 : decode cX4_standSideBySide 44 = .ok (.if_icmp .ne 7, 3) := by decide +kernel
theorem dX4_standSideBySide_47 : decode cX4_standSideBySide 47 = .ok (.iconst 1, 1) := by decide +kernel
theorem dX4_standSideBySide_48 : decode cX4_standSideBySide 48 = .ok (.goto 22, 3) := by decide +kernel
theorem dX4_standSideBySide_51 : decode cX4_standSideBySide 51 = .ok (.iconst 0, 1) := by decide +kernel
theorem dX4_standSideBySide_52 : decode cX4_standSideBySide 52 = .ok (.goto 18, 3) := by decide +kernel
theorem dX4_standSideBySide_55 : decode cX4_standSideBySide 55 = .ok (.iload_n 2, 1) := by decide +kernel
theorem dX4_standSideBySide_56 : decode cX4_standSideBySide 56 = .ok (.iconst 1, 1) := by decide +kernel
theorem dX4_standSideBySide_57 : decode cX4_standSideBySide 57 = .ok (.if_icmp .ne 12, 3) := by decide +kernel
theorem dX4_standSideBySide_60 : decode cX4_standSideBySide 60 = .ok (.iload_n 3, 1) := by decide +kernel
theorem dX4_standSideBySide_61 : decode cX4_standSideBySide 61 = .ok (.iconst 1, 1) := by decide +kernel
theorem dX4_standSideBySide_62 : decode cX4_standSideBySide 62 = .ok (.if_icmp .gt 7, 3) := by decide +kernel
theorem dX4_standSideBySide_65 : decode cX4_standSideBySide 65 = .ok (.iconst 1, 1) := by decide +kernel
theorem dX4_standSideBySide_66 : decode cX4_standSideBySide 66 = .ok (.goto 4, 3) := by decide +kernel
theorem dX4_standSideBySide_69 : decode cX4_standSideBySide 69 = .ok (.iconst 0, 1) := by decide +kernel
theorem dX4_standSideBySide_70 : decode cX4_standSideBySide 70 = .ok (.ireturn, 1) := by decide +kernel
theorem dX4_tellsWord_0 : decode cX4_tellsWord 0 = .ok (.lload_n 0, 1) := by decide +kernel
theorem dX4_tellsWord_1 : decode cX4_tellsWord 1 = .ok (.lstore_n 2, 1) := by decide +kernel
theorem dX4_tellsWord_2 : decode cX4_tellsWord 2 = .ok (.iconst 0, 1) := by decide +kernel
theorem dX4_tellsWord_3 : decode cX4_tellsWord 3 = .ok (.istore 4, 2) := by decide +kernel
theorem dX4_tellsWord_5 : decode cX4_tellsWord 5 = .ok (.iload 4, 2) := by decide +kernel
theorem dX4_tellsWord_7 : decode cX4_tellsWord 7 = .ok (.bipush 8, 2) := by decide +kernel
theorem dX4_tellsWord_9 : decode cX4_tellsWord 9 = .ok (.if_icmp .ge 47, 3) := by decide +kernel
theorem dX4_tellsWord_12 : decode cX4_tellsWord 12 = .ok (.lload_n 2, 1) := by decide +kernel
theorem dX4_tellsWord_13 : decode cX4_tellsWord 13 = .ok (.lconst 0, 1) := by decide +kernel
theorem dX4_tellsWord_14 : decode cX4_tellsWord 14 = .ok (.lcmp, 1) := by decide +kernel
theorem dX4_tellsWord_15 : decode cX4_tellsWord 15 = .ok (.ifCond .eq 41, 3) := by decide +kernel
theorem dX4_tellsWord_18 : decode cX4_tellsWord 18 = .ok (.lload_n 2, 1) := by decide +kernel
theorem dX4_tellsWord_19 : decode cX4_tellsWord 19 = .ok (.ldc2_w 227, 3) := by decide +kernel
theorem dX4_tellsWord_22 : decode cX4_tellsWord 22 = .ok (.land, 1) := by decide +kernel
theorem dX4_tellsWord_23 : decode cX4_tellsWord 23 = .ok (.lstore 5, 2) := by decide +kernel
theorem dX4_tellsWord_25 : decode cX4_tellsWord 25 = .ok (.lload 5, 2) := by decide +kernel
theorem dX4_tellsWord_27 : decode cX4_tellsWord 27 = .ok (.ldc2_w 229, 3) := by decide +kernel
theorem dX4_tellsWord_30 : decode cX4_tellsWord 30 = .ok (.lcmp, 1) := by decide +kernel
theorem dX4_tellsWord_31 : decode cX4_tellsWord 31 = .ok (.ifCond .lt 12, 3) := by decide +kernel
theorem dX4_tellsWord_34 : decode cX4_tellsWord 34 = .ok (.lload 5, 2) := by decide +kernel
theorem dX4_tellsWord_36 : decode cX4_tellsWord 36 = .ok (.ldc2_w 231, 3) := by decide +kernel
theorem dX4_tellsWord_39 : decode cX4_tellsWord 39 = .ok (.lcmp, 1) := by decide +kernel
theorem dX4_tellsWord_40 : decode cX4_tellsWord 40 = .ok (.ifCond .le 5, 3) := by decide +kernel
theorem dX4_tellsWord_43 : decode cX4_tellsWord 43 = .ok (.iconst 0, 1) := by decide +kernel
theorem dX4_tellsWord_44 : decode cX4_tellsWord 44 = .ok (.ireturn, 1) := by decide +kernel
theorem dX4_tellsWord_45 : decode cX4_tellsWord 45 = .ok (.lload_n 2, 1) := by decide +kernel
theorem dX4_tellsWord_46 : decode cX4_tellsWord 46 = .ok (.bipush 8, 2) := by decide +kernel
theorem dX4_tellsWord_48 : decode cX4_tellsWord 48 = .ok (.lushr, 1) := by decide +kernel
theorem dX4_tellsWord_49 : decode cX4_tellsWord 49 = .ok (.lstore_n 2, 1) := by decide +kernel
theorem dX4_tellsWord_50 : decode cX4_tellsWord 50 = .ok (.iinc 4 1, 3) := by decide +kernel
theorem dX4_tellsWord_53 : decode cX4_tellsWord 53 = .ok (.goto (-48), 3) := by decide +kernel
theorem dX4_tellsWord_56 : decode cX4_tellsWord 56 = .ok (.lload_n 0, 1) := by decide +kernel
theorem dX4_tellsWord_57 : decode cX4_tellsWord 57 = .ok (.lconst 0, 1) := by decide +kernel
theorem dX4_tellsWord_58 : decode cX4_tellsWord 58 = .ok (.lcmp, 1) := by decide +kernel
theorem dX4_tellsWord_59 : decode cX4_tellsWord 59 = .ok (.ifCond .eq 7, 3) := by decide +kernel
theorem dX4_tellsWord_62 : decode cX4_tellsWord 62 = .ok (.iconst 1, 1) := by decide +kernel
theorem dX4_tellsWord_63 : decode cX4_tellsWord 63 = .ok (.goto 4, 3) := by decide +kernel
theorem dX4_tellsWord_66 : decode cX4_tellsWord 66 = .ok (.iconst 0, 1) := by decide +kernel
theorem dX4_tellsWord_67 : decode cX4_tellsWord 67 = .ok (.ireturn, 1) := by decide +kernel
theorem dX4_lengthOf_0 : decode cX4_lengthOf 0 = .ok (.iconst 0, 1) := by decide +kernel
theorem dX4_lengthOf_1 : decode cX4_lengthOf 1 = .ok (.istore_n 2, 1) := by decide +kernel
theorem dX4_lengthOf_2 : decode cX4_lengthOf 2 = .ok (.iload_n 2, 1) := by decide +kernel
theorem dX4_lengthOf_3 : decode cX4_lengthOf 3 = .ok (.bipush 8, 2) := by decide +kernel
theorem dX4_lengthOf_5 : decode cX4_lengthOf 5 = .ok (.if_icmp .ge 20, 3) := by decide +kernel
theorem dX4_lengthOf_8 : decode cX4_lengthOf 8 = .ok (.lload_n 0, 1) := by decide +kernel
theorem dX4_lengthOf_9 : decode cX4_lengthOf 9 = .ok (.bipush 8, 2) := by decide +kernel
theorem dX4_lengthOf_11 : decode cX4_lengthOf 11 = .ok (.iload_n 2, 1) := by decide +kernel
theorem dX4_lengthOf_12 : decode cX4_lengthOf 12 = .ok (.imul, 1) := by decide +kernel
theorem dX4_lengthOf_13 : decode cX4_lengthOf 13 = .ok (.lushr, 1) := by decide +kernel
theorem dX4_lengthOf_14 : decode cX4_lengthOf 14 = .ok (.lconst 0, 1) := by decide +kernel
theorem dX4_lengthOf_15 : decode cX4_lengthOf 15 = .ok (.lcmp, 1) := by decide +kernel
theorem dX4_lengthOf_16 : decode cX4_lengthOf 16 = .ok (.ifCond .eq 9, 3) := by decide +kernel
theorem dX4_lengthOf_19 : decode cX4_lengthOf 19 = .ok (.iinc 2 1, 3) := by decide +kernel
theorem dX4_lengthOf_22 : decode cX4_lengthOf 22 = .ok (.goto (-20), 3) := by decide +kernel
theorem dX4_lengthOf_25 : decode cX4_lengthOf 25 = .ok (.iload_n 2, 1) := by decide +kernel
theorem dX4_lengthOf_26 : decode cX4_lengthOf 26 = .ok (.ireturn, 1) := by decide +kernel
theorem dX4_letterOf_0 : decode cX4_letterOf 0 = .ok (.lload_n 0, 1) := by decide +kernel
theorem dX4_letterOf_1 : decode cX4_letterOf 1 = .ok (.bipush 8, 2) := by decide +kernel
theorem dX4_letterOf_3 : decode cX4_letterOf 3 = .ok (.iload_n 2, 1) := by decide +kernel
theorem dX4_letterOf_4 : decode cX4_letterOf 4 = .ok (.iconst 1, 1) := by decide +kernel
theorem dX4_letterOf_5 : decode cX4_letterOf 5 = .ok (.isub, 1) := by decide +kernel
theorem dX4_letterOf_6 : decode cX4_letterOf 6 = .ok (.iload_n 3, 1) := by decide +kernel
theorem dX4_letterOf_7 : decode cX4_letterOf 7 = .ok (.isub, 1) := by decide +kernel
theorem dX4_letterOf_8 : decode cX4_letterOf 8 = .ok (.imul, 1) := by decide +kernel
theorem dX4_letterOf_9 : decode cX4_letterOf 9 = .ok (.lushr, 1) := by decide +kernel
theorem dX4_letterOf_10 : decode cX4_letterOf 10 = .ok (.ldc2_w 227, 3) := by decide +kernel
theorem dX4_letterOf_13 : decode cX4_letterOf 13 = .ok (.land, 1) := by decide +kernel
theorem dX4_letterOf_14 : decode cX4_letterOf 14 = .ok (.l2i, 1) := by decide +kernel
theorem dX4_letterOf_15 : decode cX4_letterOf 15 = .ok (.bipush 97, 2) := by decide +kernel
theorem dX4_letterOf_17 : decode cX4_letterOf 17 = .ok (.isub, 1) := by decide +kernel
theorem dX4_letterOf_18 : decode cX4_letterOf 18 = .ok (.ireturn, 1) := by decide +kernel
set_option maxRecDepth 20000 in
theorem ggX4_pairAt_X4_letterOf : GoodIn wsX4_pairAt wsX4_letterOf := goodIn_r _ [4, 5] (by decide +kernel) (by decide +kernel)
set_option maxRecDepth 20000 in
theorem gX4_pairAt_X4_letterOf : GoodIn wsX4_pairAt (va_wsS RX4 233 yX4_letterOf wsX4_letterOf) := goodIn_app (goodIn_of _ (by decide +kernel)) ggX4_pairAt_X4_letterOf
set_option maxRecDepth 20000 in
theorem ggX4_pairAt_X4_pairOf : GoodIn wsX4_pairAt wsX4_pairOf := goodIn_r _ [8] (by decide +kernel) (by decide +kernel)
set_option maxRecDepth 20000 in
theorem gX4_pairAt_X4_pairOf : GoodIn wsX4_pairAt (va_wsS RX4 174 yX4_pairOf wsX4_pairOf) := goodIn_app (goodIn_of _ (by decide +kernel)) ggX4_pairAt_X4_pairOf
theorem dX4_pairAt_0 : decode cX4_pairAt 0 = .ok (.lload_n 0, 1) := by decide +kernel
theorem dX4_pairAt_1 : decode cX4_pairAt 1 = .ok (.iload_n 2, 1) := by decide +kernel
theorem dX4_pairAt_2 : decode cX4_pairAt 2 = .ok (.iload_n 3, 1) := by decide +kernel
theorem dX4_pairAt_3 : decode cX4_pairAt 3 = .ok (.iconst 1, 1) := by decide +kernel
theorem dX4_pairAt_4 : decode cX4_pairAt 4 = .ok (.isub, 1) := by decide +kernel
theorem dX4_pairAt_5 : decode cX4_pairAt 5 = .ok (.invokestatic 233, 3) := by decide +kernel
theorem dX4_pairAt_8 : decode cX4_pairAt 8 = .ok (.lload_n 0, 1) := by decide +kernel
theorem dX4_pairAt_9 : decode cX4_pairAt 9 = .ok (.iload_n 2, 1) := by decide +kernel
theorem dX4_pairAt_10 : decode cX4_pairAt 10 = .ok (.iload_n 3, 1) := by decide +kernel
theorem dX4_pairAt_11 : decode cX4_pairAt 11 = .ok (.invokestatic 233, 3) := by decide +kernel
theorem dX4_pairAt_14 : decode cX4_pairAt 14 = .ok (.invokestatic 174, 3) := by decide +kernel
theorem dX4_pairAt_17 : decode cX4_pairAt 17 = .ok (.ireturn, 1) := by decide +kernel
set_option maxRecDepth 20000 in
theorem ggX4_weaknessOf_X1_levelOf : GoodIn wsX4_weaknessOf wsX1_levelOf := goodIn_r _ [6, 7, 8, 9, 10, 22, 23, 24] (by decide +kernel) (by decide +kernel)
set_option maxRecDepth 20000 in
theorem gX4_weaknessOf_X1_levelOf : GoodIn wsX4_weaknessOf (wsV RX4 237 RX1 yX1_levelOf wsX1_levelOf) := goodIn_app (goodIn_of _ (by decide +kernel)) ggX4_weaknessOf_X1_levelOf
set_option maxRecDepth 20000 in
theorem ggX4_weaknessOf_X1_triesOf : GoodIn wsX4_weaknessOf wsX1_triesOf := goodIn_r _ [14, 15, 8, 9, 10, 22, 23, 24] (by decide +kernel) (by decide +kernel)
set_option maxRecDepth 20000 in
theorem gX4_weaknessOf_X1_triesOf : GoodIn wsX4_weaknessOf (wsV RX4 180 RX1 yX1_triesOf wsX1_triesOf) := goodIn_app (goodIn_of _ (by decide +kernel)) ggX4_weaknessOf_X1_triesOf
theorem dX4_weaknessOf_0 : decode cX4_weaknessOf 0 = .ok (.sipush 1000, 3) := by decide +kernel
theorem dX4_weaknessOf_3 : decode cX4_weaknessOf 3 = .ok (.aload_n 0, 1) := by decide +kernel
theorem dX4_weaknessOf_4 : decode cX4_weaknessOf 4 = .ok (.getfield 25, 3) := by decide +kernel
theorem dX4_weaknessOf_7 : decode cX4_weaknessOf 7 = .ok (.iload_n 1, 1) := by decide +kernel
theorem dX4_weaknessOf_8 : decode cX4_weaknessOf 8 = .ok (.invokevirtual 237, 3) := by decide +kernel
theorem dX4_weaknessOf_11 : decode cX4_weaknessOf 11 = .ok (.isub, 1) := by decide +kernel
theorem dX4_weaknessOf_12 : decode cX4_weaknessOf 12 = .ok (.istore_n 2, 1) := by decide +kernel
theorem dX4_weaknessOf_13 : decode cX4_weaknessOf 13 = .ok (.aload_n 0, 1) := by decide +kernel
theorem dX4_weaknessOf_14 : decode cX4_weaknessOf 14 = .ok (.getfield 25, 3) := by decide +kernel
theorem dX4_weaknessOf_17 : decode cX4_weaknessOf 17 = .ok (.iload_n 1, 1) := by decide +kernel
theorem dX4_weaknessOf_18 : decode cX4_weaknessOf 18 = .ok (.invokevirtual 180, 3) := by decide +kernel
theorem dX4_weaknessOf_21 : decode cX4_weaknessOf 21 = .ok (.ifCond .ne 11, 3) := by decide +kernel
theorem dX4_weaknessOf_24 : decode cX4_weaknessOf 24 = .ok (.iload_n 2, 1) := by decide +kernel
theorem dX4_weaknessOf_25 : decode cX4_weaknessOf 25 = .ok (.sipush 200, 3) := by decide +kernel
theorem dX4_weaknessOf_28 : decode cX4_weaknessOf 28 = .ok (.iadd, 1) := by decide +kernel
theorem dX4_weaknessOf_29 : decode cX4_weaknessOf 29 = .ok (.goto 4, 3) := by decide +kernel
theorem dX4_weaknessOf_32 : decode cX4_weaknessOf 32 = .ok (.iload_n 2, 1) := by decide +kernel
theorem dX4_weaknessOf_33 : decode cX4_weaknessOf 33 = .ok (.ireturn, 1) := by decide +kernel
set_option maxRecDepth 20000 in
theorem ggX4_weightOf_X4_lengthOf : GoodIn wsX4_weightOf wsX4_lengthOf := goodIn_r _ [5] (by decide +kernel) (by decide +kernel)
set_option maxRecDepth 20000 in
theorem gX4_weightOf_X4_lengthOf : GoodIn wsX4_weightOf (va_wsS RX4 240 yX4_lengthOf wsX4_lengthOf) := goodIn_app (goodIn_of _ (by decide +kernel)) ggX4_weightOf_X4_lengthOf
set_option maxRecDepth 20000 in
theorem ggX4_weightOf_X4_letterOf : GoodIn wsX4_weightOf wsX4_letterOf := goodIn_r _ [8, 9] (by decide +kernel) (by decide +kernel)
set_option maxRecDepth 20000 in
theorem gX4_weightOf_X4_letterOf : GoodIn wsX4_weightOf (va_wsS RX4 233 yX4_letterOf wsX4_letterOf) := goodIn_app (goodIn_of _ (by decide +kernel)) ggX4_weightOf_X4_letterOf
set_option maxRecDepth 20000 in
theorem ggX4_weightOf_X1_levelOf : GoodIn wsX4_weightOf wsX1_levelOf := goodIn_r _ [14, 15, 16, 4, 17, 40, 41, 42] (by decide +kernel) (by decide +kernel)
set_option maxRecDepth 20000 in
theorem gX4_weightOf_X1_levelOf : GoodIn wsX4_weightOf (wsV RX4 237 RX1 yX1_levelOf wsX1_levelOf) := goodIn_app (goodIn_of _ (by decide +kernel)) ggX4_weightOf_X1_levelOf
set_option maxRecDepth 20000 in
theorem ggX4_weightOf_X4_pairAt : GoodIn wsX4_weightOf wsX4_pairAt := goodIn_r _ [20, 6, 7, 4, 8, 9, 21, 22, 23] (by decide +kernel) (by decide +kernel)
set_option maxRecDepth 20000 in
theorem gX4_weightOf_X4_pairAt : GoodIn wsX4_weightOf (va_wsS RX4 243 yX4_pairAt wsX4_pairAt) := goodIn_app (goodIn_of _ (by decide +kernel)) ggX4_weightOf_X4_pairAt
set_option maxRecDepth 20000 in
theorem ggX4_weightOf_X4_weaknessOf : GoodIn wsX4_weightOf wsX4_weaknessOf := goodIn_r _ [27, 28, 10, 11, 12, 13, 14, 15, 16, 4, 17, 29, 30, 31, 32, 33, 34, 35, 36, 37, 38, 39, 40, 41, 42] (by decide +kernel) (by decide +kernel)
set_option maxRecDepth 20000 in
theorem gX4_weightOf_X4_weaknessOf : GoodIn wsX4_weightOf (wsV RX4 177 RX4 yX4_weaknessOf wsX4_weaknessOf) := goodIn_app (goodIn_of _ (by decide +kernel)) ggX4_weightOf_X4_weaknessOf
theorem dX4_weightOf_0 : decode cX4_weightOf 0 = .ok (.lload_n 1, 1) := by decide +kernel
theorem dX4_weightOf_1 : decode cX4_weightOf 1 = .ok (.invokestatic 240, 3) := by decide +kernel
theorem dX4_weightOf_4 : decode cX4_weightOf 4 = .ok (.istore_n 3, 1) := by decide +kernel
theorem dX4_weightOf_5 : decode cX4_weightOf 5 = .ok (.iload_n 3, 1) := by decide +kernel
theorem dX4_weightOf_6 : decode cX4_weightOf 6 = .ok (.iconst 1, 1) := by decide +kernel
theorem dX4_weightOf_7 : decode cX4_weightOf 7 = .ok (.if_icmp .gt 21, 3) := by decide +kernel
theorem dX4_weightOf_10 : decode cX4_weightOf 10 = .ok (.sipush 1000, 3) := by decide +kernel
theorem dX4_weightOf_13 : decode cX4_weightOf 13 = .ok (.aload_n 0, 1) := by decide +kernel
theorem dX4_weightOf_14 : decode cX4_weightOf 14 = .ok (.getfield 21, 3) := by decide +kernel
theorem dX4_weightOf_17 : decode cX4_weightOf 17 = .ok (.lload_n 1, 1) := by decide +kernel
theorem dX4_weightOf_18 : decode cX4_weightOf 18 = .ok (.iload_n 3, 1) := by decide +kernel
theorem dX4_weightOf_19 : decode cX4_weightOf 19 = .ok (.iconst 0, 1) := by decide +kernel
theorem dX4_weightOf_20 : decode cX4_weightOf 20 = .ok (.invokestatic 233, 3) := by decide +kernel
theorem dX4_weightOf_23 : decode cX4_weightOf 23 = .ok (.invokevirtual 237, 3) := by decide +kernel
theorem dX4_weightOf_26 : decode cX4_weightOf 26 = .ok (.isub, 1) := by decide +kernel
theorem dX4_weightOf_27 : decode cX4_weightOf 27 = .ok (.ireturn, 1) := by decide +kernel
theorem dX4_weightOf_28 : decode cX4_weightOf 28 = .ok (.iconst 0, 1) := by decide +kernel
theorem dX4_weightOf_29 : decode cX4_weightOf 29 = .ok (.istore 4, 2) := by decide +kernel
theorem dX4_weightOf_31 : decode cX4_weightOf 31 = .ok (.iconst 1, 1) := by decide +kernel
theorem dX4_weightOf_32 : decode cX4_weightOf 32 = .ok (.istore 5, 2) := by decide +kernel
theorem dX4_weightOf_34 : decode cX4_weightOf 34 = .ok (.iload 5, 2) := by decide +kernel
theorem dX4_weightOf_36 : decode cX4_weightOf 36 = .ok (.iload_n 3, 1) := by decide +kernel
theorem dX4_weightOf_37 : decode cX4_weightOf 37 = .ok (.if_icmp .ge 25, 3) := by decide +kernel
theorem dX4_weightOf_40 : decode cX4_weightOf 40 = .ok (.iload 4, 2) := by decide +kernel
theorem dX4_weightOf_42 : decode cX4_weightOf 42 = .ok (.aload_n 0, 1) := by decide +kernel
theorem dX4_weightOf_43 : decode cX4_weightOf 43 = .ok (.lload_n 1, 1) := by decide +kernel
theorem dX4_weightOf_44 : decode cX4_weightOf 44 = .ok (.iload_n 3, 1) := by decide +kernel
theorem dX4_weightOf_45 : decode cX4_weightOf 45 = .ok (.iload 5, 2) := by decide +kernel
theorem dX4_weightOf_47 : decode cX4_weightOf 47 = .ok (.invokestatic 243, 3) := by decide +kernel
theorem dX4_weightOf_50 : decode cX4_weightOf 50 = .ok (.invokevirtual 177, 3) := by decide +kernel
theorem dX4_weightOf_53 : decode cX4_weightOf 53 = .ok (.iadd, 1) := by decide +kernel
theorem dX4_weightOf_54 : decode cX4_weightOf 54 = .ok (.istore 4, 2) := by decide +kernel
theorem dX4_weightOf_56 : decode cX4_weightOf 56 = .ok (.iinc 5 1, 3) := by decide +kernel
theorem dX4_weightOf_59 : decode cX4_weightOf 59 = .ok (.goto (-25), 3) := by decide +kernel
theorem dX4_weightOf_62 : decode cX4_weightOf 62 = .ok (.iload 4, 2) := by decide +kernel
theorem dX4_weightOf_64 : decode cX4_weightOf 64 = .ok (.iload_n 3, 1) := by decide +kernel
theorem dX4_weightOf_65 : decode cX4_weightOf 65 = .ok (.iconst 1, 1) := by decide +kernel
theorem dX4_weightOf_66 : decode cX4_weightOf 66 = .ok (.isub, 1) := by decide +kernel
theorem dX4_weightOf_67 : decode cX4_weightOf 67 = .ok (.idiv, 1) := by decide +kernel
theorem dX4_weightOf_68 : decode cX4_weightOf 68 = .ok (.ireturn, 1) := by decide +kernel
set_option maxRecDepth 20000 in
theorem ggX4_weakestWordLeft_X3_size : GoodIn wsX4_weakestWordLeft wsX3_size := goodIn_r _ [7, 8, 73, 74] (by decide +kernel) (by decide +kernel)
set_option maxRecDepth 20000 in
theorem gX4_weakestWordLeft_X3_size : GoodIn wsX4_weakestWordLeft (wsV RX4 73 RX3 yX3_size wsX3_size) := goodIn_app (goodIn_of _ (by decide +kernel)) ggX4_weakestWordLeft_X3_size
set_option maxRecDepth 20000 in
theorem ggX4_weakestWordLeft_X2_hasWord : GoodIn wsX4_weakestWordLeft wsX2_hasWord := goodIn_r _ [13, 14, 15, 16, 17, 18, 75, 76, 77, 78, 79, 80, 81, 82, 83, 84, 85] (by decide +kernel) (by decide +kernel)
set_option maxRecDepth 20000 in
theorem gX4_weakestWordLeft_X2_hasWord : GoodIn wsX4_weakestWordLeft (wsV RX4 246 RX2 yX2_hasWord wsX2_hasWord) := goodIn_app (goodIn_of _ (by decide +kernel)) ggX4_weakestWordLeft_X2_hasWord
set_option maxRecDepth 20000 in
theorem ggX4_weakestWordLeft_X3_wordAt : GoodIn wsX4_weakestWordLeft wsX3_wordAt := goodIn_r _ [22, 23, 73, 74] (by decide +kernel) (by decide +kernel)
set_option maxRecDepth 20000 in
theorem gX4_weakestWordLeft_X3_wordAt : GoodIn wsX4_weakestWordLeft (wsV RX4 86 RX3 yX3_wordAt wsX3_wordAt) := goodIn_app (goodIn_of _ (by decide +kernel)) ggX4_weakestWordLeft_X3_wordAt
set_option maxRecDepth 20000 in
theorem ggX4_weakestWordLeft_X4_weightInLesson : GoodIn wsX4_weakestWordLeft wsX4_weightInLesson := goodIn_r _ [27, 2, 28, 29, 17, 30, 31, 32, 33, 34, 35, 36, 37, 38, 39, 40, 41, 42, 43, 44, 45, 16, 18, 46, 47, 48, 49, 50, 51, 52, 53, 54, 55, 56, 57, 58, 59, 60, 61, 62, 63, 64, 12, 65, 66, 67, 68, 69, 70, 71, 72, 86, 87, 88, 75, 76, 77, 78, 79, 80, 81, 82, 83, 84, 85] (by decide +kernel) (by decide +kernel)
set_option maxRecDepth 20000 in
theorem gX4_weakestWordLeft_X4_weightInLesson : GoodIn wsX4_weakestWordLeft (wsV RX4 249 RX4 yX4_weightInLesson wsX4_weightInLesson) := goodIn_app (goodIn_of _ (by decide +kernel)) ggX4_weakestWordLeft_X4_weightInLesson
theorem dX4_weakestWordLeft_0 : decode cX4_weakestWordLeft 0 = .ok (.iconst (-1), 1) := by decide +kernel
theorem dX4_weakestWordLeft_1 : decode cX4_weakestWordLeft 1 = .ok (.istore_n 1, 1) := by decide +kernel
theorem dX4_weakestWordLeft_2 : decode cX4_weakestWordLeft 2 = .ok (.iconst 0, 1) := by decide +kernel
theorem dX4_weakestWordLeft_3 : decode cX4_weakestWordLeft 3 = .ok (.istore_n 2, 1) := by decide +kernel
theorem dX4_weakestWordLeft_4 : decode cX4_weakestWordLeft 4 = .ok (.iconst 0, 1) := by decide +kernel
theorem dX4_weakestWordLeft_5 : decode cX4_weakestWordLeft 5 = .ok (.istore_n 3, 1) := by decide +kernel
theorem dX4_weakestWordLeft_6 : decode cX4_weakestWordLeft 6 = .ok (.iload_n 3, 1) := by decide +kernel
theorem dX4_weakestWordLeft_7 : decode cX4_weakestWordLeft 7 = .ok (.aload_n 0, 1) := by decide +kernel
theorem dX4_weakestWordLeft_8 : decode cX4_weakestWordLeft 8 = .ok (.getfield 12, 3) := by decide +kernel
theorem dX4_weakestWordLeft_11 : decode cX4_weakestWordLeft 11 = .ok (.invokevirtual 73, 3) := by decide +kernel
theorem dX4_weakestWordLeft_14 : decode cX4_weakestWordLeft 14 = .ok (.if_icmp .ge 53, 3) := by decide +kernel
theorem dX4_weakestWordLeft_17 : decode cX4_weakestWordLeft 17 = .ok (.aload_n 0, 1) := by decide +kernel
theorem dX4_weakestWordLeft_18 : decode cX4_weakestWordLeft 18 = .ok (.getfield 31, 3) := by decide +kernel
theorem dX4_weakestWordLeft_21 : decode cX4_weakestWordLeft 21 = .ok (.iload_n 3, 1) := by decide +kernel
theorem dX4_weakestWordLeft_22 : decode cX4_weakestWordLeft 22 = .ok (.invokevirtual 246, 3) := by decide +kernel
theorem dX4_weakestWordLeft_25 : decode cX4_weakestWordLeft 25 = .ok (.ifCond .eq 6, 3) := by decide +kernel
theorem dX4_weakestWordLeft_28 : decode cX4_weakestWordLeft 28 = .ok (.goto 33, 3) := by decide +kernel
theorem dX4_weakestWordLeft_31 : decode cX4_weakestWordLeft 31 = .ok (.aload_n 0, 1) := by decide +kernel
theorem dX4_weakestWordLeft_32 : decode cX4_weakestWordLeft 32 = .ok (.aload_n 0, 1) := by decide +kernel
theorem dX4_weakestWordLeft_33 : decode cX4_weakestWordLeft 33 = .ok (.getfield 12, 3) := by decide +kernel
theorem dX4_weakestWordLeft_36 : decode cX4_weakestWordLeft 36 = .ok (.iload_n 3, 1) := by decide +kernel
theorem dX4_weakestWordLeft_37 : decode cX4_weakestWordLeft 37 = .ok (.invokevirtual 86, 3) := by decide +kernel
theorem dX4_weakestWordLeft_40 : decode cX4_weakestWordLeft 40 = .ok (.invokevirtual 249, 3) := by decide +kernel
theorem dX4_weakestWordLeft_43 : decode cX4_weakestWordLeft 43 = .ok (.istore 4, 2) := by decide +kernel
theorem dX4_weakestWordLeft_45 : decode cX4_weakestWordLeft 45 = .ok (.iload_n 1, 1) := by decide +kernel
theorem dX4_weakestWordLeft_46 : decode cX4_weakestWordLeft 46 = .ok (.iconst (-1), 1) := by decide +kernel
theorem dX4_weakestWordLeft_47 : decode cX4_weakestWordLeft 47 = .ok (.if_icmp .eq 9, 3) := by decide +kernel
theorem dX4_weakestWordLeft_50 : decode cX4_weakestWordLeft 50 = .ok (.iload 4, 2) := by decide +kernel
theorem dX4_weakestWordLeft_52 : decode cX4_weakestWordLeft 52 = .ok (.iload_n 2, 1) := by decide +kernel
theorem dX4_weakestWordLeft_53 : decode cX4_weakestWordLeft 53 = .ok (.if_icmp .le 8, 3) := by decide +kernel
theorem dX4_weakestWordLeft_56 : decode cX4_weakestWordLeft 56 = .ok (.iload_n 3, 1) := by decide +kernel
theorem dX4_weakestWordLeft_57 : decode cX4_weakestWordLeft 57 = .ok (.istore_n 1, 1) := by decide +kernel
theorem dX4_weakestWordLeft_58 : decode cX4_weakestWordLeft 58 = .ok (.iload 4, 2) := by decide +kernel
theorem dX4_weakestWordLeft_60 : decode cX4_weakestWordLeft 60 = .ok (.istore_n 2, 1) := by decide +kernel
theorem dX4_weakestWordLeft_61 : decode cX4_weakestWordLeft 61 = .ok (.iinc 3 1, 3) := by decide +kernel
theorem dX4_weakestWordLeft_64 : decode cX4_weakestWordLeft 64 = .ok (.goto (-58), 3) := by decide +kernel
theorem dX4_weakestWordLeft_67 : decode cX4_weakestWordLeft 67 = .ok (.iload_n 1, 1) := by decide +kernel
theorem dX4_weakestWordLeft_68 : decode cX4_weakestWordLeft 68 = .ok (.ireturn, 1) := by decide +kernel
set_option maxRecDepth 20000 in
theorem ggX4_weightInLesson_X4_lengthOf : GoodIn wsX4_weightInLesson wsX4_lengthOf := goodIn_r _ [5] (by decide +kernel) (by decide +kernel)
set_option maxRecDepth 20000 in
theorem gX4_weightInLesson_X4_lengthOf : GoodIn wsX4_weightInLesson (va_wsS RX4 240 yX4_lengthOf wsX4_lengthOf) := goodIn_app (goodIn_of _ (by decide +kernel)) ggX4_weightInLesson_X4_lengthOf
set_option maxRecDepth 20000 in
theorem ggX4_weightInLesson_X4_weightOf : GoodIn wsX4_weightInLesson wsX4_weightOf := goodIn_r _ [9, 10, 2, 3, 4, 5, 11, 12, 13, 14, 15, 16, 17, 18, 19, 20, 21, 22, 23, 24, 25, 26, 27, 28, 29, 30, 31, 32, 33, 34, 35, 36, 37, 38, 45, 46, 47, 48, 49, 50, 51, 52, 53] (by decide +kernel) (by decide +kernel)
set_option maxRecDepth 20000 in
theorem gX4_weightInLesson_X4_weightOf : GoodIn wsX4_weightInLesson (wsV RX4 90 RX4 yX4_weightOf wsX4_weightOf) := goodIn_app (goodIn_of _ (by decide +kernel)) ggX4_weightInLesson_X4_weightOf
set_option maxRecDepth 20000 in
theorem ggX4_weightInLesson_X4_letterOf : GoodIn wsX4_weightInLesson wsX4_letterOf := goodIn_r _ [13, 14] (by decide +kernel) (by decide +kernel)
set_option maxRecDepth 20000 in
theorem gX4_weightInLesson_X4_letterOf : GoodIn wsX4_weightInLesson (va_wsS RX4 233 yX4_letterOf wsX4_letterOf) := goodIn_app (goodIn_of _ (by decide +kernel)) ggX4_weightInLesson_X4_letterOf
set_option maxRecDepth 20000 in
theorem ggX4_weightInLesson_X2_hasPair : GoodIn wsX4_weightInLesson wsX2_hasPair := goodIn_r _ [43, 44, 21, 4, 22, 54, 55, 56, 57, 58, 59, 60, 61, 62, 63, 64] (by decide +kernel) (by decide +kernel)
set_option maxRecDepth 20000 in
theorem gX4_weightInLesson_X2_hasPair : GoodIn wsX4_weightInLesson (wsV RX4 252 RX2 yX2_hasPair wsX2_hasPair) := goodIn_app (goodIn_of _ (by decide +kernel)) ggX4_weightInLesson_X2_hasPair
theorem dX4_weightInLesson_0 : decode cX4_weightInLesson 0 = .ok (.lload_n 1, 1) := by decide +kernel
theorem dX4_weightInLesson_1 : decode cX4_weightInLesson 1 = .ok (.invokestatic 240, 3) := by decide +kernel
theorem dX4_weightInLesson_4 : decode cX4_weightInLesson 4 = .ok (.istore_n 3, 1) := by decide +kernel
theorem dX4_weightInLesson_5 : decode cX4_weightInLesson 5 = .ok (.aload_n 0, 1) := by decide +kernel
theorem dX4_weightInLesson_6 : decode cX4_weightInLesson 6 = .ok (.lload_n 1, 1) := by decide +kernel
theorem dX4_weightInLesson_7 : decode cX4_weightInLesson 7 = .ok (.invokevirtual 90, 3) := by decide +kernel
theorem dX4_weightInLesson_10 : decode cX4_weightInLesson 10 = .ok (.istore 4, 2) := by decide +kernel
theorem dX4_weightInLesson_12 : decode cX4_weightInLesson 12 = .ok (.iconst 1, 1) := by decide +kernel
theorem dX4_weightInLesson_13 : decode cX4_weightInLesson 13 = .ok (.istore 5, 2) := by decide +kernel
theorem dX4_weightInLesson_15 : decode cX4_weightInLesson 15 = .ok (.iload 5, 2) := by decide +kernel
theorem dX4_weightInLesson_17 : decode cX4_weightInLesson 17 = .ok (.iload_n 3, 1) := by decide +kernel
theorem dX4_weightInLesson_18 : decode cX4_weightInLesson 18 = .ok (.if_icmp .ge 49, 3) := by decide +kernel
theorem dX4_weightInLesson_21 : decode cX4_weightInLesson 21 = .ok (.lload_n 1, 1) := by decide +kernel
theorem dX4_weightInLesson_22 : decode cX4_weightInLesson 22 = .ok (.iload_n 3, 1) := by decide +kernel
theorem dX4_weightInLesson_23 : decode cX4_weightInLesson 23 = .ok (.iload 5, 2) := by decide +kernel
theorem dX4_weightInLesson_25 : decode cX4_weightInLesson 25 = .ok (.iconst 1, 1) := by decide +kernel
theorem dX4_weightInLesson_26 : decode cX4_weightInLesson 26 = .ok (.isub, 1) := by decide +kernel
theorem dX4_weightInLesson_27 : decode cX4_weightInLesson 27 = .ok (.invokestatic 233, 3) := by decide +kernel
theorem dX4_weightInLesson_30 : decode cX4_weightInLesson 30 = .ok (.istore 6, 2) := by decide +kernel
theorem dX4_weightInLesson_32 : decode cX4_weightInLesson 32 = .ok (.lload_n 1, 1) := by decide +kernel
theorem dX4_weightInLesson_33 : decode cX4_weightInLesson 33 = .ok (.iload_n 3, 1) := by decide +kernel
theorem dX4_weightInLesson_34 : decode cX4_weightInLesson 34 = .ok (.iload 5, 2) := by decide +kernel
theorem dX4_weightInLesson_36 : decode cX4_weightInLesson 36 = .ok (.invokestatic 233, 3) := by decide +kernel
theorem dX4_weightInLesson_39 : decode cX4_weightInLesson 39 = .ok (.istore 7, 2) := by decide +kernel
theorem dX4_weightInLesson_41 : decode cX4_weightInLesson 41 = .ok (.aload_n 0, 1) := by decide +kernel
theorem dX4_weightInLesson_42 : decode cX4_weightInLesson 42 = .ok (.getfield 31, 3) := by decide +kernel
theorem dX4_weightInLesson_45 : decode cX4_weightInLesson 45 = .ok (.iload 6, 2) := by decide +kernel
theorem dX4_weightInLesson_47 : decode cX4_weightInLesson 47 = .ok (.iload 7, 2) := by decide +kernel
theorem dX4_weightInLesson_49 : decode cX4_weightInLesson 49 = .ok (.invokevirtual 252, 3) := by decide +kernel
theorem dX4_weightInLesson_52 : decode cX4_weightInLesson 52 = .ok (.ifCond .eq 9, 3) := by decide +kernel
theorem dX4_weightInLesson_55 : decode cX4_weightInLesson 55 = .ok (.iinc 4 (-150), 6) := by decide +kernel
theorem dX4_weightInLesson_61 : decode cX4_weightInLesson 61 = .ok (.iinc 5 1, 3) := by decide +kernel
theorem dX4_weightInLesson_64 : decode cX4_weightInLesson 64 = .ok (.goto (-49), 3) := by decide +kernel
theorem dX4_weightInLesson_67 : decode cX4_weightInLesson 67 = .ok (.iload 4, 2) := by decide +kernel
theorem dX4_weightInLesson_69 : decode cX4_weightInLesson 69 = .ok (.ireturn, 1) := by decide +kernel
set_option maxRecDepth 20000 in
theorem ggX4_kindOfStroke_X2_letterHere : GoodIn wsX4_kindOfStroke wsX2_letterHere := goodIn_r _ [6, 7, 8, 9, 10, 11, 42, 43, 44, 45, 46, 47, 48, 49, 50, 51, 52] (by decide +kernel) (by decide +kernel)
set_option maxRecDepth 20000 in
theorem gX4_kindOfStroke_X2_letterHere : GoodIn wsX4_kindOfStroke (wsV RX4 140 RX2 yX2_letterHere wsX2_letterHere) := goodIn_app (goodIn_of _ (by decide +kernel)) ggX4_kindOfStroke_X2_letterHere
set_option maxRecDepth 20000 in
theorem ggX4_kindOfStroke_X2_letterAfter : GoodIn wsX4_kindOfStroke wsX2_letterAfter := goodIn_r _ [15, 8, 16, 17, 18, 5, 19, 20, 21, 7, 9, 10, 11, 42, 43, 44, 45, 46, 47, 48, 49, 50, 51, 52] (by decide +kernel) (by decide +kernel)
set_option maxRecDepth 20000 in
theorem gX4_kindOfStroke_X2_letterAfter : GoodIn wsX4_kindOfStroke (wsV RX4 255 RX2 yX2_letterAfter wsX2_letterAfter) := goodIn_app (goodIn_of _ (by decide +kernel)) ggX4_kindOfStroke_X2_letterAfter
set_option maxRecDepth 20000 in
theorem ggX4_kindOfStroke_X2_letterBefore : GoodIn wsX4_kindOfStroke wsX2_letterBefore := goodIn_r _ [25, 8, 16, 17, 18, 5, 19, 20, 21, 7, 9, 10, 11, 42, 43, 44, 45, 46, 47, 48, 49, 50, 51, 52] (by decide +kernel) (by decide +kernel)
set_option maxRecDepth 20000 in
theorem gX4_kindOfStroke_X2_letterBefore : GoodIn wsX4_kindOfStroke (wsV RX4 258 RX2 yX2_letterBefore wsX2_letterBefore) := goodIn_app (goodIn_of _ (by decide +kernel)) ggX4_kindOfStroke_X2_letterBefore
set_option maxRecDepth 20000 in
theorem ggX4_kindOfStroke_X4_standSideBySide : GoodIn wsX4_kindOfStroke wsX4_standSideBySide := goodIn_r _ [28, 29, 30, 31, 32, 33, 34, 35, 9, 10, 11] (by decide +kernel) (by decide +kernel)
set_option maxRecDepth 20000 in
theorem gX4_kindOfStroke_X4_standSideBySide : GoodIn wsX4_kindOfStroke (va_wsS RX4 98 yX4_standSideBySide wsX4_standSideBySide) := goodIn_app (goodIn_of _ (by decide +kernel)) ggX4_kindOfStroke_X4_standSideBySide
theorem dX4_kindOfStroke_0 : decode cX4_kindOfStroke 0 = .ok (.aload_n 0, 1) := by decide +kernel
theorem dX4_kindOfStroke_1 : decode cX4_kindOfStroke 1 = .ok (.getfield 31, 3) := by decide +kernel
theorem dX4_kindOfStroke_4 : decode cX4_kindOfStroke 4 = .ok (.invokevirtual 140, 3) := by decide +kernel
theorem dX4_kindOfStroke_7 : decode cX4_kindOfStroke 7 = .ok (.istore_n 2, 1) := by decide +kernel
theorem dX4_kindOfStroke_8 : decode cX4_kindOfStroke 8 = .ok (.iload_n 1, 1) := by decide +kernel
theorem dX4_kindOfStroke_9 : decode cX4_kindOfStroke 9 = .ok (.iload_n 2, 1) := by decide +kernel
theorem dX4_kindOfStroke_10 : decode cX4_kindOfStroke 10 = .ok (.if_icmp .ne 5, 3) := by decide +kernel
theorem dX4_kindOfStroke_13 : decode cX4_kindOfStroke 13 = .ok (.iconst 0, 1) := by decide +kernel
theorem dX4_kindOfStroke_14 : decode cX4_kindOfStroke 14 = .ok (.ireturn, 1) := by decide +kernel
theorem dX4_kindOfStroke_15 : decode cX4_kindOfStroke 15 = .ok (.iload_n 1, 1) := by decide +kernel
theorem dX4_kindOfStroke_16 : decode cX4_kindOfStroke 16 = .ok (.aload_n 0, 1) := by decide +kernel
theorem dX4_kindOfStroke_17 : decode cX4_kindOfStroke 17 = .ok (.getfield 31, 3) := by decide +kernel
theorem dX4_kindOfStroke_20 : decode cX4_kindOfStroke 20 = .ok (.invokevirtual 255, 3) := by decide +kernel
theorem dX4_kindOfStroke_23 : decode cX4_kindOfStroke 23 = .ok (.if_icmp .ne 5, 3) := by decide +kernel
theorem dX4_kindOfStroke_26 : decode cX4_kindOfStroke 26 = .ok (.iconst 1, 1) := by decide +kernel
theorem dX4_kindOfStroke_27 : decode cX4_kindOfStroke 27 = .ok (.ireturn, 1) := by decide +kernel
theorem dX4_kindOfStroke_28 : decode cX4_kindOfStroke 28 = .ok (.iload_n 1, 1) := by decide +kernel
theorem dX4_kindOfStroke_29 : decode cX4_kindOfStroke 29 = .ok (.aload_n 0, 1) := by decide +kernel
theorem dX4_kindOfStroke_30 : decode cX4_kindOfStroke 30 = .ok (.getfield 31, 3) := by decide +kernel
theorem dX4_kindOfStroke_33 : decode cX4_kindOfStroke 33 = .ok (.invokevirtual 258, 3) := by decide +kernel
theorem dX4_kindOfStroke_36 : decode cX4_kindOfStroke 36 = .ok (.if_icmp .ne 5, 3) := by decide +kernel
theorem dX4_kindOfStroke_39 : decode cX4_kindOfStroke 39 = .ok (.iconst 2, 1) := by decide +kernel
theorem dX4_kindOfStroke_40 : decode cX4_kindOfStroke 40 = .ok (.ireturn, 1) := by decide +kernel
theorem dX4_kindOfStroke_41 : decode cX4_kindOfStroke 41 = .ok (.iload_n 1, 1) := by decide +kernel
theorem dX4_kindOfStroke_42 : decode cX4_kindOfStroke 42 = .ok (.iload_n 2, 1) := by decide +kernel
theorem dX4_kindOfStroke_43 : decode cX4_kindOfStroke 43 = .ok (.invokestatic 98, 3) := by decide +kernel
theorem dX4_kindOfStroke_46 : decode cX4_kindOfStroke 46 = .ok (.ifCond .eq 7, 3) := by decide +kernel
theorem dX4_kindOfStroke_49 : decode cX4_kindOfStroke 49 = .ok (.iconst 3, 1) := by decide +kernel
theorem dX4_kindOfStroke_50 : decode cX4_kindOfStroke 50 = .ok (.goto 4, 3) := by decide +kernel
theorem dX4_kindOfStroke_53 : decode cX4_kindOfStroke 53 = .ok (.iconst 4, 1) := by decide +kernel
theorem dX4_kindOfStroke_54 : decode cX4_kindOfStroke 54 = .ok (.ireturn, 1) := by decide +kernel
set_option maxRecDepth 20000 in
theorem ggX4_tryLetter_X2_mistakesHere : GoodIn wsX4_tryLetter wsX2_mistakesHere := goodIn_r _ [9, 10, 100, 101, 102, 103, 104, 105, 106, 107, 108, 109, 110] (by decide +kernel) (by decide +kernel)
set_option maxRecDepth 20000 in
theorem gX4_tryLetter_X2_mistakesHere : GoodIn wsX4_tryLetter (wsV RX4 160 RX2 yX2_mistakesHere wsX2_mistakesHere) := goodIn_app (goodIn_of _ (by decide +kernel)) ggX4_tryLetter_X2_mistakesHere
set_option maxRecDepth 20000 in
theorem ggX4_tryLetter_X2_letterHere : GoodIn wsX4_tryLetter wsX2_letterHere := goodIn_r _ [14, 15, 16, 17, 18, 19, 100, 101, 102, 103, 104, 105, 106, 107, 108, 109, 110] (by decide +kernel) (by decide +kernel)
set_option maxRecDepth 20000 in
theorem gX4_tryLetter_X2_letterHere : GoodIn wsX4_tryLetter (wsV RX4 140 RX2 yX2_letterHere wsX2_letterHere) := goodIn_app (goodIn_of _ (by decide +kernel)) ggX4_tryLetter_X2_letterHere
set_option maxRecDepth 20000 in
theorem ggX4_tryLetter_X2_letterBefore : GoodIn wsX4_tryLetter wsX2_letterBefore := goodIn_r _ [23, 16, 24, 25, 26, 8, 27, 28, 29, 15, 17, 18, 19, 100, 101, 102, 103, 104, 105, 106, 107, 108, 109, 110] (by decide +kernel) (by decide +kernel)
set_option maxRecDepth 20000 in
theorem gX4_tryLetter_X2_letterBefore : GoodIn wsX4_tryLetter (wsV RX4 258 RX2 yX2_letterBefore wsX2_letterBefore) := goodIn_app (goodIn_of _ (by decide +kernel)) ggX4_tryLetter_X2_letterBefore
set_option maxRecDepth 20000 in
theorem ggX4_tryLetter_X1_learn : GoodIn wsX4_tryLetter wsX1_learn := goodIn_r _ [34, 35, 36, 37, 38, 39, 40, 41, 17, 18, 19, 42, 43, 111, 112, 113] (by decide +kernel) (by decide +kernel)
set_option maxRecDepth 20000 in
theorem gX4_tryLetter_X1_learn : GoodIn wsX4_tryLetter (wsV RX4 261 RX1 yX1_learn wsX1_learn) := goodIn_app (goodIn_of _ (by decide +kernel)) ggX4_tryLetter_X1_learn
set_option maxRecDepth 20000 in
theorem ggX4_tryLetter_X4_pairOf : GoodIn wsX4_tryLetter wsX4_pairOf := goodIn_r _ [46] (by decide +kernel) (by decide +kernel)
set_option maxRecDepth 20000 in
theorem gX4_tryLetter_X4_pairOf : GoodIn wsX4_tryLetter (va_wsS RX4 174 yX4_pairOf wsX4_pairOf) := goodIn_app (goodIn_of _ (by decide +kernel)) ggX4_tryLetter_X4_pairOf
set_option maxRecDepth 20000 in
theorem ggX4_tryLetter_X2_goOn : GoodIn wsX4_tryLetter wsX2_goOn := goodIn_r _ [50, 16, 10, 51, 100, 101, 102, 103, 104, 105, 106, 107, 108, 109, 110] (by decide +kernel) (by decide +kernel)
set_option maxRecDepth 20000 in
theorem gX4_tryLetter_X2_goOn : GoodIn wsX4_tryLetter (wsV RX4 265 RX2 yX2_goOn wsX2_goOn) := goodIn_app (goodIn_of _ (by decide +kernel)) ggX4_tryLetter_X2_goOn
set_option maxRecDepth 20000 in
theorem ggX4_tryLetter_X2_triedTotal : GoodIn wsX4_tryLetter wsX2_triedTotal := goodIn_r _ [55, 16, 100, 101, 102, 103, 104, 105, 106, 107, 108, 109, 110] (by decide +kernel) (by decide +kernel)
set_option maxRecDepth 20000 in
theorem gX4_tryLetter_X2_triedTotal : GoodIn wsX4_tryLetter (wsV RX4 131 RX2 yX2_triedTotal wsX2_triedTotal) := goodIn_app (goodIn_of _ (by decide +kernel)) ggX4_tryLetter_X2_triedTotal
set_option maxRecDepth 20000 in
theorem ggX4_tryLetter_X2_letterTotal : GoodIn wsX4_tryLetter wsX2_letterTotal := goodIn_r _ [59, 28, 100, 101, 102, 103, 104, 105, 106, 107, 108, 109, 110] (by decide +kernel) (by decide +kernel)
set_option maxRecDepth 20000 in
theorem gX4_tryLetter_X2_letterTotal : GoodIn wsX4_tryLetter (wsV RX4 123 RX2 yX2_letterTotal wsX2_letterTotal) := goodIn_app (goodIn_of _ (by decide +kernel)) ggX4_tryLetter_X2_letterTotal
set_option maxRecDepth 20000 in
theorem ggX4_tryLetter_X2_stop : GoodIn wsX4_tryLetter wsX2_stop := goodIn_r _ [63, 64, 100, 101, 102, 103, 104, 105, 106, 107, 108, 109, 110] (by decide +kernel) (by decide +kernel)
set_option maxRecDepth 20000 in
theorem gX4_tryLetter_X2_stop : GoodIn wsX4_tryLetter (wsV RX4 128 RX2 yX2_stop wsX2_stop) := goodIn_app (goodIn_of _ (by decide +kernel)) ggX4_tryLetter_X2_stop
set_option maxRecDepth 20000 in
theorem ggX4_tryLetter_X2_cleanTotal : GoodIn wsX4_tryLetter wsX2_cleanTotal := goodIn_r _ [68, 51, 100, 101, 102, 103, 104, 105, 106, 107, 108, 109, 110] (by decide +kernel) (by decide +kernel)
set_option maxRecDepth 20000 in
theorem gX4_tryLetter_X2_cleanTotal : GoodIn wsX4_tryLetter (wsV RX4 269 RX2 yX2_cleanTotal wsX2_cleanTotal) := goodIn_app (goodIn_of _ (by decide +kernel)) ggX4_tryLetter_X2_cleanTotal
set_option maxRecDepth 20000 in
theorem ggX4_tryLetter_X2_timeSum : GoodIn wsX4_tryLetter wsX2_timeSum := goodIn_r _ [72, 73, 100, 101, 102, 103, 104, 105, 106, 107, 108, 109, 110] (by decide +kernel) (by decide +kernel)
set_option maxRecDepth 20000 in
theorem gX4_tryLetter_X2_timeSum : GoodIn wsX4_tryLetter (wsV RX4 272 RX2 yX2_timeSum wsX2_timeSum) := goodIn_app (goodIn_of _ (by decide +kernel)) ggX4_tryLetter_X2_timeSum
set_option maxRecDepth 20000 in
theorem ggX4_tryLetter_X0_keep : GoodIn wsX4_tryLetter wsX0_keep := goodIn_r _ [78, 79, 80, 81, 82, 83, 84, 85, 42, 18, 43, 86, 87, 88, 77, 89, 90, 36, 37, 38, 91, 92, 93, 114, 115, 116, 117, 118, 119, 120] (by decide +kernel) (by decide +kernel)
set_option maxRecDepth 20000 in
theorem gX4_tryLetter_X0_keep : GoodIn wsX4_tryLetter (wsV RX4 275 RX0 yX0_keep wsX0_keep) := goodIn_app (goodIn_of _ (by decide +kernel)) ggX4_tryLetter_X0_keep
theorem dX4_tryLetter_0 : decode cX4_tryLetter 0 = .ok (.aload_n 0, 1) := by decide +kernel
theorem dX4_tryLetter_1 : decode cX4_tryLetter 1 = .ok (.getfield 31, 3) := by decide +kernel
theorem dX4_tryLetter_4 : decode cX4_tryLetter 4 = .ok (.invokevirtual 160, 3) := by decide +kernel
theorem dX4_tryLetter_7 : decode cX4_tryLetter 7 = .ok (.ifCond .ne 7, 3) := by decide +kernel
theorem dX4_tryLetter_10 : decode cX4_tryLetter 10 = .ok (.iconst 1, 1) := by decide +kernel
theorem dX4_tryLetter_11 : decode cX4_tryLetter 11 = .ok (.goto 4, 3) := by decide +kernel
theorem dX4_tryLetter_14 : decode cX4_tryLetter 14 = .ok (.iconst 0, 1) := by decide +kernel
theorem dX4_tryLetter_15 : decode cX4_tryLetter 15 = .ok (.istore_n 2, 1) := by decide +kernel
theorem dX4_tryLetter_16 : decode cX4_tryLetter 16 = .ok (.aload_n 0, 1) := by decide +kernel
theorem dX4_tryLetter_17 : decode cX4_tryLetter 17 = .ok (.getfield 31, 3) := by decide +kernel
theorem dX4_tryLetter_20 : decode cX4_tryLetter 20 = .ok (.invokevirtual 140, 3) := by decide +kernel
theorem dX4_tryLetter_23 : decode cX4_tryLetter 23 = .ok (.istore_n 3, 1) := by decide +kernel
theorem dX4_tryLetter_24 : decode cX4_tryLetter 24 = .ok (.aload_n 0, 1) := by decide +kernel
theorem dX4_tryLetter_25 : decode cX4_tryLetter 25 = .ok (.getfield 31, 3) := by decide +kernel
theorem dX4_tryLetter_28 : decode cX4_tryLetter 28 = .ok (.invokevirtual 258, 3) := by decide +kernel
theorem dX4_tryLetter_31 : decode cX4_tryLetter 31 = .ok (.istore 4, 2) := by decide +kernel
theorem dX4_tryLetter_33 : decode cX4_tryLetter 33 = .ok (.aload_n 0, 1) := by decide +kernel
theorem dX4_tryLetter_34 : decode cX4_tryLetter 34 = .ok (.getfield 21, 3) := by decide +kernel
theorem dX4_tryLetter_37 : decode cX4_tryLetter 37 = .ok (.iload_n 3, 1) := by decide +kernel
theorem dX4_tryLetter_38 : decode cX4_tryLetter 38 = .ok (.iload_n 2, 1) := by decide +kernel
theorem dX4_tryLetter_39 : decode cX4_tryLetter 39 = .ok (.iload_n 1, 1) := by decide +kernel
theorem dX4_tryLetter_40 : decode cX4_tryLetter 40 = .ok (.invokevirtual 261, 3) := by decide +kernel
theorem dX4_tryLetter_43 : decode cX4_tryLetter 43 = .ok (.iload 4, 2) := by decide +kernel
theorem dX4_tryLetter_45 : decode cX4_tryLetter 45 = .ok (.iconst (-1), 1) := by decide +kernel
theorem dX4_tryLetter_46 : decode cX4_tryLetter 46 = .ok (.if_icmp .eq 18, 3) := by decide +kernel
theorem dX4_tryLetter_49 : decode cX4_tryLetter 49 = .ok (.aload_n 0, 1) := by decide +kernel
theorem dX4_tryLetter_50 : decode cX4_tryLetter 50 = .ok (.getfield 25, 3) := by decide +kernel
theorem dX4_tryLetter_53 : decode cX4_tryLetter 53 = .ok (.iload 4, 2) := by decide +kernel
theorem dX4_tryLetter_55 : decode cX4_tryLetter 55 = .ok (.iload_n 3, 1) := by decide +kernel
theorem dX4_tryLetter_56 : decode cX4_tryLetter 56 = .ok (.invokestatic 174, 3) := by decide +kernel
theorem dX4_tryLetter_59 : decode cX4_tryLetter 59 = .ok (.iload_n 2, 1) := by decide +kernel
theorem dX4_tryLetter_60 : decode cX4_tryLetter 60 = .ok (.iload_n 1, 1) := by decide +kernel
theorem dX4_tryLetter_61 : decode cX4_tryLetter 61 = .ok (.invokevirtual 261, 3) := by decide +kernel
theorem dX4_tryLetter_64 : decode cX4_tryLetter 64 = .ok (.aload_n 0, 1) := by decide +kernel
theorem dX4_tryLetter_65 : decode cX4_tryLetter 65 = .ok (.getfield 31, 3) := by decide +kernel
theorem dX4_tryLetter_68 : decode cX4_tryLetter 68 = .ok (.iload_n 2, 1) := by decide +kernel
theorem dX4_tryLetter_69 : decode cX4_tryLetter 69 = .ok (.invokevirtual 265, 3) := by decide +kernel
theorem dX4_tryLetter_72 : decode cX4_tryLetter 72 = .ok (.aload_n 0, 1) := by decide +kernel
theorem dX4_tryLetter_73 : decode cX4_tryLetter 73 = .ok (.getfield 31, 3) := by decide +kernel
theorem dX4_tryLetter_76 : decode cX4_tryLetter 76 = .ok (.invokevirtual 131, 3) := by decide +kernel
theorem dX4_tryLetter_79 : decode cX4_tryLetter 79 = .ok (.aload_n 0, 1) := by decide +kernel
theorem dX4_tryLetter_80 : decode cX4_tryLetter 80 = .ok (.getfield 31, 3) := by decide +kernel
theorem dX4_tryLetter_83 : decode cX4_tryLetter 83 = .ok (.invokevirtual 123, 3) := by decide +kernel
theorem dX4_tryLetter_86 : decode cX4_tryLetter 86 = .ok (.if_icmp .lt 38, 3) := by decide +kernel
theorem dX4_tryLetter_89 : decode cX4_tryLetter 89 = .ok (.aload_n 0, 1) := by decide +kernel
theorem dX4_tryLetter_90 : decode cX4_tryLetter 90 = .ok (.getfield 31, 3) := by decide +kernel
theorem dX4_tryLetter_93 : decode cX4_tryLetter 93 = .ok (.invokevirtual 128, 3) := by decide +kernel
theorem dX4_tryLetter_96 : decode cX4_tryLetter 96 = .ok (.aload_n 0, 1) := by decide +kernel
theorem dX4_tryLetter_97 : decode cX4_tryLetter 97 = .ok (.getfield 38, 3) := by decide +kernel
theorem dX4_tryLetter_100 : decode cX4_tryLetter 100 = .ok (.aload_n 0, 1) := by decide +kernel
theorem dX4_tryLetter_101 : decode cX4_tryLetter 101 = .ok (.getfield 31, 3) := by decide +kernel
theorem dX4_tryLetter_104 : decode cX4_tryLetter 104 = .ok (.invokevirtual 123, 3) := by decide +kernel
theorem dX4_tryLetter_107 : decode cX4_tryLetter 107 = .ok (.aload_n 0, 1) := by decide +kernel
theorem dX4_tryLetter_108 : decode cX4_tryLetter 108 = .ok (.getfield 31, 3) := by decide +kernel
theorem dX4_tryLetter_111 : decode cX4_tryLetter 111 = .ok (.invokevirtual 269, 3) := by decide +kernel
theorem dX4_tryLetter_114 : decode cX4_tryLetter 114 = .ok (.aload_n 0, 1) := by decide +kernel
theorem dX4_tryLetter_115 : decode cX4_tryLetter 115 = .ok (.getfield 31, 3) := by decide +kernel
theorem dX4_tryLetter_118 : decode cX4_tryLetter 118 = .ok (.invokevirtual 272, 3) := by decide +kernel
theorem dX4_tryLetter_121 : decode cX4_tryLetter 121 = .ok (.invokevirtual 275, 3) := by decide +kernel
theorem dX4_tryLetter_124 : decode cX4_tryLetter 124 = .ok (.return_, 1) := by decide +kernel
theorem dX4_mixed_0 : decode cX4_mixed 0 = .ok (.lload_n 0, 1) := by decide +kernel
theorem dX4_mixed_1 : decode cX4_mixed 1 = .ok (.ldc2_w 279, 3) := by decide +kernel
theorem dX4_mixed_4 : decode cX4_mixed 4 = .ok (.lmul, 1) := by decide +kernel
theorem dX4_mixed_5 : decode cX4_mixed 5 = .ok (.lload_n 2, 1) := by decide +kernel
theorem dX4_mixed_6 : decode cX4_mixed 6 = .ok (.ladd, 1) := by decide +kernel
theorem dX4_mixed_7 : decode cX4_mixed 7 = .ok (.lreturn, 1) := by decide +kernel
set_option maxRecDepth 20000 in
theorem ggX4_digestOfWords_X3_size : GoodIn wsX4_digestOfWords wsX3_size := goodIn_r _ [6, 7, 24, 25] (by decide +kernel) (by decide +kernel)
set_option maxRecDepth 20000 in
theorem gX4_digestOfWords_X3_size : GoodIn wsX4_digestOfWords (wsV RX4 73 RX3 yX3_size wsX3_size) := goodIn_app (goodIn_of _ (by decide +kernel)) ggX4_digestOfWords_X3_size
set_option maxRecDepth 20000 in
theorem ggX4_digestOfWords_X4_mixed : GoodIn wsX4_digestOfWords wsX4_mixed := goodIn_r _ [11, 12] (by decide +kernel) (by decide +kernel)
set_option maxRecDepth 20000 in
theorem gX4_digestOfWords_X4_mixed : GoodIn wsX4_digestOfWords (va_wsS RX4 281 yX4_mixed wsX4_mixed) := goodIn_app (goodIn_of _ (by decide +kernel)) ggX4_digestOfWords_X4_mixed
set_option maxRecDepth 20000 in
theorem ggX4_digestOfWords_X3_wordAt : GoodIn wsX4_digestOfWords wsX3_wordAt := goodIn_r _ [16, 17, 24, 25] (by decide +kernel) (by decide +kernel)
set_option maxRecDepth 20000 in
theorem gX4_digestOfWords_X3_wordAt : GoodIn wsX4_digestOfWords (wsV RX4 86 RX3 yX3_wordAt wsX3_wordAt) := goodIn_app (goodIn_of _ (by decide +kernel)) ggX4_digestOfWords_X3_wordAt
theorem dX4_digestOfWords_0 : decode cX4_digestOfWords 0 = .ok (.lload_n 1, 1) := by decide +kernel
theorem dX4_digestOfWords_1 : decode cX4_digestOfWords 1 = .ok (.aload_n 0, 1) := by decide +kernel
theorem dX4_digestOfWords_2 : decode cX4_digestOfWords 2 = .ok (.getfield 12, 3) := by decide +kernel
theorem dX4_digestOfWords_5 : decode cX4_digestOfWords 5 = .ok (.invokevirtual 73, 3) := by decide +kernel
theorem dX4_digestOfWords_8 : decode cX4_digestOfWords 8 = .ok (.i2l, 1) := by decide +kernel
theorem dX4_digestOfWords_9 : decode cX4_digestOfWords 9 = .ok (.invokestatic 281, 3) := by decide +kernel
theorem dX4_digestOfWords_12 : decode cX4_digestOfWords 12 = .ok (.lstore_n 3, 1) := by decide +kernel
theorem dX4_digestOfWords_13 : decode cX4_digestOfWords 13 = .ok (.iconst 0, 1) := by decide +kernel
theorem dX4_digestOfWords_14 : decode cX4_digestOfWords 14 = .ok (.istore 5, 2) := by decide +kernel
theorem dX4_digestOfWords_16 : decode cX4_digestOfWords 16 = .ok (.iload 5, 2) := by decide +kernel
theorem dX4_digestOfWords_18 : decode cX4_digestOfWords 18 = .ok (.aload_n 0, 1) := by decide +kernel
theorem dX4_digestOfWords_19 : decode cX4_digestOfWords 19 = .ok (.getfield 12, 3) := by decide +kernel
theorem dX4_digestOfWords_22 : decode cX4_digestOfWords 22 = .ok (.invokevirtual 73, 3) := by decide +kernel
theorem dX4_digestOfWords_25 : decode cX4_digestOfWords 25 = .ok (.if_icmp .ge 23, 3) := by decide +kernel
theorem dX4_digestOfWords_28 : decode cX4_digestOfWords 28 = .ok (.lload_n 3, 1) := by decide +kernel
theorem dX4_digestOfWords_29 : decode cX4_digestOfWords 29 = .ok (.aload_n 0, 1) := by decide +kernel
theorem dX4_digestOfWords_30 : decode cX4_digestOfWords 30 = .ok (.getfield 12, 3) := by decide +kernel
theorem dX4_digestOfWords_33 : decode cX4_digestOfWords 33 = .ok (.iload 5, 2) := by decide +kernel
theorem dX4_digestOfWords_35 : decode cX4_digestOfWords 35 = .ok (.invokevirtual 86, 3) := by decide +kernel
theorem dX4_digestOfWords_38 : decode cX4_digestOfWords 38 = .ok (.invokestatic 281, 3) := by decide +kernel
theorem dX4_digestOfWords_41 : decode cX4_digestOfWords 41 = .ok (.lstore_n 3, 1) := by decide +kernel
theorem dX4_digestOfWords_42 : decode cX4_digestOfWords 42 = .ok (.iinc 5 1, 3) := by decide +kernel
theorem dX4_digestOfWords_45 : decode cX4_digestOfWords 45 = .ok (.goto (-29), 3) := by decide +kernel
theorem dX4_digestOfWords_48 : decode cX4_digestOfWords 48 = .ok (.lload_n 3, 1) := by decide +kernel
theorem dX4_digestOfWords_49 : decode cX4_digestOfWords 49 = .ok (.lreturn, 1) := by decide +kernel
set_option maxRecDepth 20000 in
theorem ggX4_digestOfKnowledge_X4_digestOfRecord : GoodIn wsX4_digestOfKnowledge wsX4_digestOfRecord := goodIn_r _ [7, 8, 9, 10, 11, 12, 13, 14, 15, 16, 6, 17, 18, 19, 20, 21, 33, 34, 35] (by decide +kernel) (by decide +kernel)
set_option maxRecDepth 20000 in
theorem gX4_digestOfKnowledge_X4_digestOfRecord : GoodIn wsX4_digestOfKnowledge (va_wsS RX4 285 yX4_digestOfRecord wsX4_digestOfRecord) := goodIn_app (goodIn_of _ (by decide +kernel)) ggX4_digestOfKnowledge_X4_digestOfRecord
set_option maxRecDepth 20000 in
theorem ggX4_digestOfKnowledge_X1_triesOf : GoodIn wsX4_digestOfKnowledge wsX1_triesOf := goodIn_r _ [25, 13, 16, 6, 17, 33, 34, 35] (by decide +kernel) (by decide +kernel)
set_option maxRecDepth 20000 in
theorem gX4_digestOfKnowledge_X1_triesOf : GoodIn wsX4_digestOfKnowledge (wsV RX4 180 RX1 yX1_triesOf wsX1_triesOf) := goodIn_app (goodIn_of _ (by decide +kernel)) ggX4_digestOfKnowledge_X1_triesOf
set_option maxRecDepth 20000 in
theorem ggX4_digestOfKnowledge_X4_mixed : GoodIn wsX4_digestOfKnowledge wsX4_mixed := goodIn_r _ [20, 21] (by decide +kernel) (by decide +kernel)
set_option maxRecDepth 20000 in
theorem gX4_digestOfKnowledge_X4_mixed : GoodIn wsX4_digestOfKnowledge (va_wsS RX4 281 yX4_mixed wsX4_mixed) := goodIn_app (goodIn_of _ (by decide +kernel)) ggX4_digestOfKnowledge_X4_mixed
set_option maxRecDepth 20000 in
theorem ggX4_digestOfKnowledge_X4_read : GoodIn wsX4_digestOfKnowledge wsX4_read := goodIn_r _ [17] (by decide +kernel) (by decide +kernel)
set_option maxRecDepth 20000 in
theorem gX4_digestOfKnowledge_X4_read : GoodIn wsX4_digestOfKnowledge (va_wsS RX4 152 yX4_read wsX4_read) := goodIn_app (goodIn_of _ (by decide +kernel)) ggX4_digestOfKnowledge_X4_read
theorem dX4_digestOfKnowledge_0 : decode cX4_digestOfKnowledge 0 = .ok (.lload_n 1, 1) := by decide +kernel
theorem dX4_digestOfKnowledge_1 : decode cX4_digestOfKnowledge 1 = .ok (.lstore_n 3, 1) := by decide +kernel
theorem dX4_digestOfKnowledge_2 : decode cX4_digestOfKnowledge 2 = .ok (.iconst 0, 1) := by decide +kernel
theorem dX4_digestOfKnowledge_3 : decode cX4_digestOfKnowledge 3 = .ok (.istore 5, 2) := by decide +kernel
theorem dX4_digestOfKnowledge_5 : decode cX4_digestOfKnowledge 5 = .ok (.iload 5, 2) := by decide +kernel
theorem dX4_digestOfKnowledge_7 : decode cX4_digestOfKnowledge 7 = .ok (.bipush 26, 2) := by decide +kernel
theorem dX4_digestOfKnowledge_9 : decode cX4_digestOfKnowledge 9 = .ok (.if_icmp .ge 20, 3) := by decide +kernel
theorem dX4_digestOfKnowledge_12 : decode cX4_digestOfKnowledge 12 = .ok (.lload_n 3, 1) := by decide +kernel
theorem dX4_digestOfKnowledge_13 : decode cX4_digestOfKnowledge 13 = .ok (.aload_n 0, 1) := by decide +kernel
theorem dX4_digestOfKnowledge_14 : decode cX4_digestOfKnowledge 14 = .ok (.getfield 21, 3) := by decide +kernel
theorem dX4_digestOfKnowledge_17 : decode cX4_digestOfKnowledge 17 = .ok (.iload 5, 2) := by decide +kernel
theorem dX4_digestOfKnowledge_19 : decode cX4_digestOfKnowledge 19 = .ok (.invokestatic 285, 3) := by decide +kernel
theorem dX4_digestOfKnowledge_22 : decode cX4_digestOfKnowledge 22 = .ok (.lstore_n 3, 1) := by decide +kernel
theorem dX4_digestOfKnowledge_23 : decode cX4_digestOfKnowledge 23 = .ok (.iinc 5 1, 3) := by decide +kernel
theorem dX4_digestOfKnowledge_26 : decode cX4_digestOfKnowledge 26 = .ok (.goto (-21), 3) := by decide +kernel
theorem dX4_digestOfKnowledge_29 : decode cX4_digestOfKnowledge 29 = .ok (.iconst 0, 1) := by decide +kernel
theorem dX4_digestOfKnowledge_30 : decode cX4_digestOfKnowledge 30 = .ok (.istore 5, 2) := by decide +kernel
theorem dX4_digestOfKnowledge_32 : decode cX4_digestOfKnowledge 32 = .ok (.iload 5, 2) := by decide +kernel
theorem dX4_digestOfKnowledge_34 : decode cX4_digestOfKnowledge 34 = .ok (.sipush 676, 3) := by decide +kernel
theorem dX4_digestOfKnowledge_37 : decode cX4_digestOfKnowledge 37 = .ok (.if_icmp .ge 38, 3) := by decide +kernel
theorem dX4_digestOfKnowledge_40 : decode cX4_digestOfKnowledge 40 = .ok (.aload_n 0, 1) := by decide +kernel
theorem dX4_digestOfKnowledge_41 : decode cX4_digestOfKnowledge 41 = .ok (.getfield 25, 3) := by decide +kernel
theorem dX4_digestOfKnowledge_44 : decode cX4_digestOfKnowledge 44 = .ok (.iload 5, 2) := by decide +kernel
theorem dX4_digestOfKnowledge_46 : decode cX4_digestOfKnowledge 46 = .ok (.invokevirtual 180, 3) := by decide +kernel
theorem dX4_digestOfKnowledge_49 : decode cX4_digestOfKnowledge 49 = .ok (.ifCond .le 20, 3) := by decide +kernel
theorem dX4_digestOfKnowledge_52 : decode cX4_digestOfKnowledge 52 = .ok (.lload_n 3, 1) := by decide +kernel
theorem dX4_digestOfKnowledge_53 : decode cX4_digestOfKnowledge 53 = .ok (.iload 5, 2) := by decide +kernel
theorem dX4_digestOfKnowledge_55 : decode cX4_digestOfKnowledge 55 = .ok (.i2l, 1) := by decide +kernel
theorem dX4_digestOfKnowledge_56 : decode cX4_digestOfKnowledge 56 = .ok (.invokestatic 281, 3) := by decide +kernel
theorem dX4_digestOfKnowledge_59 : decode cX4_digestOfKnowledge 59 = .ok (.aload_n 0, 1) := by decide +kernel
theorem dX4_digestOfKnowledge_60 : decode cX4_digestOfKnowledge 60 = .ok (.getfield 25, 3) := by decide +kernel
theorem dX4_digestOfKnowledge_63 : decode cX4_digestOfKnowledge 63 = .ok (.iload 5, 2) := by decide +kernel
theorem dX4_digestOfKnowledge_65 : decode cX4_digestOfKnowledge 65 = .ok (.invokestatic 285, 3) := by decide +kernel
theorem dX4_digestOfKnowledge_68 : decode cX4_digestOfKnowledge 68 = .ok (.lstore_n 3, 1) := by decide +kernel
theorem dX4_digestOfKnowledge_69 : decode cX4_digestOfKnowledge 69 = .ok (.iinc 5 1, 3) := by decide +kernel
theorem dX4_digestOfKnowledge_72 : decode cX4_digestOfKnowledge 72 = .ok (.goto (-40), 3) := by decide +kernel
theorem dX4_digestOfKnowledge_75 : decode cX4_digestOfKnowledge 75 = .ok (.iconst 1, 1) := by decide +kernel
theorem dX4_digestOfKnowledge_76 : decode cX4_digestOfKnowledge 76 = .ok (.istore 5, 2) := by decide +kernel
theorem dX4_digestOfKnowledge_78 : decode cX4_digestOfKnowledge 78 = .ok (.iload 5, 2) := by decide +kernel
theorem dX4_digestOfKnowledge_80 : decode cX4_digestOfKnowledge 80 = .ok (.iconst 4, 1) := by decide +kernel
theorem dX4_digestOfKnowledge_81 : decode cX4_digestOfKnowledge 81 = .ok (.if_icmp .gt 24, 3) := by decide +kernel
theorem dX4_digestOfKnowledge_84 : decode cX4_digestOfKnowledge 84 = .ok (.lload_n 3, 1) := by decide +kernel
theorem dX4_digestOfKnowledge_85 : decode cX4_digestOfKnowledge 85 = .ok (.aload_n 0, 1) := by decide +kernel
theorem dX4_digestOfKnowledge_86 : decode cX4_digestOfKnowledge 86 = .ok (.getfield 42, 3) := by decide +kernel
theorem dX4_digestOfKnowledge_89 : decode cX4_digestOfKnowledge 89 = .ok (.iload 5, 2) := by decide +kernel
theorem dX4_digestOfKnowledge_91 : decode cX4_digestOfKnowledge 91 = .ok (.invokestatic 152, 3) := by decide +kernel
theorem dX4_digestOfKnowledge_94 : decode cX4_digestOfKnowledge 94 = .ok (.i2l, 1) := by decide +kernel
theorem dX4_digestOfKnowledge_95 : decode cX4_digestOfKnowledge 95 = .ok (.invokestatic 281, 3) := by decide +kernel
theorem dX4_digestOfKnowledge_98 : decode cX4_digestOfKnowledge 98 = .ok (.lstore_n 3, 1) := by decide +kernel
theorem dX4_digestOfKnowledge_99 : decode cX4_digestOfKnowledge 99 = .ok (.iinc 5 1, 3) := by decide +kernel
theorem dX4_digestOfKnowledge_102 : decode cX4_digestOfKnowledge 102 = .ok (.goto (-24), 3) := by decide +kernel
theorem dX4_digestOfKnowledge_105 : decode cX4_digestOfKnowledge 105 = .ok (.lload_n 3, 1) := by decide +kernel
theorem dX4_digestOfKnowledge_106 : decode cX4_digestOfKnowledge 106 = .ok (.lreturn, 1) := by decide +kernel
set_option maxRecDepth 20000 in
theorem ggX4_digestOfRecord_X1_tell : GoodIn wsX4_digestOfRecord wsX1_tell := goodIn_r _ [5, 6, 7, 8, 9, 10, 11, 16, 17, 18] (by decide +kernel) (by decide +kernel)
set_option maxRecDepth 20000 in
theorem gX4_digestOfRecord_X1_tell : GoodIn wsX4_digestOfRecord (wsV RX4 168 RX1 yX1_tell wsX1_tell) := goodIn_app (goodIn_of _ (by decide +kernel)) ggX4_digestOfRecord_X1_tell
set_option maxRecDepth 20000 in
theorem ggX4_digestOfRecord_X4_mixed : GoodIn wsX4_digestOfRecord wsX4_mixed := goodIn_r _ [14, 15] (by decide +kernel) (by decide +kernel)
set_option maxRecDepth 20000 in
theorem gX4_digestOfRecord_X4_mixed : GoodIn wsX4_digestOfRecord (va_wsS RX4 281 yX4_mixed wsX4_mixed) := goodIn_app (goodIn_of _ (by decide +kernel)) ggX4_digestOfRecord_X4_mixed
theorem dX4_digestOfRecord_0 : decode cX4_digestOfRecord 0 = .ok (.lload_n 0, 1) := by decide +kernel
theorem dX4_digestOfRecord_1 : decode cX4_digestOfRecord 1 = .ok (.lstore 4, 2) := by decide +kernel
theorem dX4_digestOfRecord_3 : decode cX4_digestOfRecord 3 = .ok (.iconst 0, 1) := by decide +kernel
theorem dX4_digestOfRecord_4 : decode cX4_digestOfRecord 4 = .ok (.istore 6, 2) := by decide +kernel
theorem dX4_digestOfRecord_6 : decode cX4_digestOfRecord 6 = .ok (.iload 6, 2) := by decide +kernel
theorem dX4_digestOfRecord_8 : decode cX4_digestOfRecord 8 = .ok (.iconst 2, 1) := by decide +kernel
theorem dX4_digestOfRecord_9 : decode cX4_digestOfRecord 9 = .ok (.if_icmp .gt 24, 3) := by decide +kernel
theorem dX4_digestOfRecord_12 : decode cX4_digestOfRecord 12 = .ok (.lload 4, 2) := by decide +kernel
theorem dX4_digestOfRecord_14 : decode cX4_digestOfRecord 14 = .ok (.aload_n 2, 1) := by decide +kernel
theorem dX4_digestOfRecord_15 : decode cX4_digestOfRecord 15 = .ok (.iload_n 3, 1) := by decide +kernel
theorem dX4_digestOfRecord_16 : decode cX4_digestOfRecord 16 = .ok (.iload 6, 2) := by decide +kernel
theorem dX4_digestOfRecord_18 : decode cX4_digestOfRecord 18 = .ok (.invokevirtual 168, 3) := by decide +kernel
theorem dX4_digestOfRecord_21 : decode cX4_digestOfRecord 21 = .ok (.i2l, 1) := by decide +kernel
theorem dX4_digestOfRecord_22 : decode cX4_digestOfRecord 22 = .ok (.invokestatic 281, 3) := by decide +kernel
theorem dX4_digestOfRecord_25 : decode cX4_digestOfRecord 25 = .ok (.lstore 4, 2) := by decide +kernel
theorem dX4_digestOfRecord_27 : decode cX4_digestOfRecord 27 = .ok (.iinc 6 1, 3) := by decide +kernel
theorem dX4_digestOfRecord_30 : decode cX4_digestOfRecord 30 = .ok (.goto (-24), 3) := by decide +kernel
theorem dX4_digestOfRecord_33 : decode cX4_digestOfRecord 33 = .ok (.lload 4, 2) := by decide +kernel
theorem dX4_digestOfRecord_35 : decode cX4_digestOfRecord 35 = .ok (.lreturn, 1) := by decide +kernel
set_option maxRecDepth 20000 in
theorem ggX4_digestOfLesson_X2_isRunning : GoodIn wsX4_digestOfLesson wsX2_isRunning := goodIn_r _ [6, 7, 36, 37, 38, 39, 40, 41, 42, 43, 44, 45, 46] (by decide +kernel) (by decide +kernel)
set_option maxRecDepth 20000 in
theorem gX4_digestOfLesson_X2_isRunning : GoodIn wsX4_digestOfLesson (wsV RX4 104 RX2 yX2_isRunning wsX2_isRunning) := goodIn_app (goodIn_of _ (by decide +kernel)) ggX4_digestOfLesson_X2_isRunning
set_option maxRecDepth 20000 in
theorem ggX4_digestOfLesson_X4_mixed : GoodIn wsX4_digestOfLesson wsX4_mixed := goodIn_r _ [11, 12] (by decide +kernel) (by decide +kernel)
set_option maxRecDepth 20000 in
theorem gX4_digestOfLesson_X4_mixed : GoodIn wsX4_digestOfLesson (va_wsS RX4 281 yX4_mixed wsX4_mixed) := goodIn_app (goodIn_of _ (by decide +kernel)) ggX4_digestOfLesson_X4_mixed
set_option maxRecDepth 20000 in
theorem ggX4_digestOfLesson_X2_wordTotal : GoodIn wsX4_digestOfLesson wsX2_wordTotal := goodIn_r _ [16, 17, 36, 37, 38, 39, 40, 41, 42, 43, 44, 45, 46] (by decide +kernel) (by decide +kernel)
set_option maxRecDepth 20000 in
theorem gX4_digestOfLesson_X2_wordTotal : GoodIn wsX4_digestOfLesson (wsV RX4 118 RX2 yX2_wordTotal wsX2_wordTotal) := goodIn_app (goodIn_of _ (by decide +kernel)) ggX4_digestOfLesson_X2_wordTotal
set_option maxRecDepth 20000 in
theorem ggX4_digestOfLesson_X2_numberAt : GoodIn wsX4_digestOfLesson wsX2_numberAt := goodIn_r _ [21, 22, 23, 10, 24, 36, 37, 38, 39, 40, 41, 42, 43, 44, 45, 46] (by decide +kernel) (by decide +kernel)
set_option maxRecDepth 20000 in
theorem gX4_digestOfLesson_X2_numberAt : GoodIn wsX4_digestOfLesson (wsV RX4 136 RX2 yX2_numberAt wsX2_numberAt) := goodIn_app (goodIn_of _ (by decide +kernel)) ggX4_digestOfLesson_X2_numberAt
set_option maxRecDepth 20000 in
theorem ggX4_digestOfLesson_X2_triedTotal : GoodIn wsX4_digestOfLesson wsX2_triedTotal := goodIn_r _ [28, 29, 36, 37, 38, 39, 40, 41, 42, 43, 44, 45, 46] (by decide +kernel) (by decide +kernel)
set_option maxRecDepth 20000 in
theorem gX4_digestOfLesson_X2_triedTotal : GoodIn wsX4_digestOfLesson (wsV RX4 131 RX2 yX2_triedTotal wsX2_triedTotal) := goodIn_app (goodIn_of _ (by decide +kernel)) ggX4_digestOfLesson_X2_triedTotal
theorem dX4_digestOfLesson_0 : decode cX4_digestOfLesson 0 = .ok (.aload_n 0, 1) := by decide +kernel
theorem dX4_digestOfLesson_1 : decode cX4_digestOfLesson 1 = .ok (.getfield 31, 3) := by decide +kernel
theorem dX4_digestOfLesson_4 : decode cX4_digestOfLesson 4 = .ok (.invokevirtual 104, 3) := by decide +kernel
theorem dX4_digestOfLesson_7 : decode cX4_digestOfLesson 7 = .ok (.ifCond .ne 9, 3) := by decide +kernel
theorem dX4_digestOfLesson_10 : decode cX4_digestOfLesson 10 = .ok (.lload_n 1, 1) := by decide +kernel
theorem dX4_digestOfLesson_11 : decode cX4_digestOfLesson 11 = .ok (.lconst 0, 1) := by decide +kernel
theorem dX4_digestOfLesson_12 : decode cX4_digestOfLesson 12 = .ok (.invokestatic 281, 3) := by decide +kernel
theorem dX4_digestOfLesson_15 : decode cX4_digestOfLesson 15 = .ok (.lreturn, 1) := by decide +kernel
theorem dX4_digestOfLesson_16 : decode cX4_digestOfLesson 16 = .ok (.lload_n 1, 1) := by decide +kernel
theorem dX4_digestOfLesson_17 : decode cX4_digestOfLesson 17 = .ok (.lconst 1, 1) := by decide +kernel
theorem dX4_digestOfLesson_18 : decode cX4_digestOfLesson 18 = .ok (.invokestatic 281, 3) := by decide +kernel
theorem dX4_digestOfLesson_21 : decode cX4_digestOfLesson 21 = .ok (.aload_n 0, 1) := by decide +kernel
theorem dX4_digestOfLesson_22 : decode cX4_digestOfLesson 22 = .ok (.getfield 31, 3) := by decide +kernel
theorem dX4_digestOfLesson_25 : decode cX4_digestOfLesson 25 = .ok (.invokevirtual 118, 3) := by decide +kernel
theorem dX4_digestOfLesson_28 : decode cX4_digestOfLesson 28 = .ok (.i2l, 1) := by decide +kernel
theorem dX4_digestOfLesson_29 : decode cX4_digestOfLesson 29 = .ok (.invokestatic 281, 3) := by decide +kernel
theorem dX4_digestOfLesson_32 : decode cX4_digestOfLesson 32 = .ok (.lstore_n 3, 1) := by decide +kernel
theorem dX4_digestOfLesson_33 : decode cX4_digestOfLesson 33 = .ok (.iconst 0, 1) := by decide +kernel
theorem dX4_digestOfLesson_34 : decode cX4_digestOfLesson 34 = .ok (.istore 5, 2) := by decide +kernel
theorem dX4_digestOfLesson_36 : decode cX4_digestOfLesson 36 = .ok (.iload 5, 2) := by decide +kernel
theorem dX4_digestOfLesson_38 : decode cX4_digestOfLesson 38 = .ok (.aload_n 0, 1) := by decide +kernel
theorem dX4_digestOfLesson_39 : decode cX4_digestOfLesson 39 = .ok (.getfield 31, 3) := by decide +kernel
theorem dX4_digestOfLesson_42 : decode cX4_digestOfLesson 42 = .ok (.invokevirtual 118, 3) := by decide +kernel
theorem dX4_digestOfLesson_45 : decode cX4_digestOfLesson 45 = .ok (.if_icmp .ge 24, 3) := by decide +kernel
theorem dX4_digestOfLesson_48 : decode cX4_digestOfLesson 48 = .ok (.lload_n 3, 1) := by decide +kernel
theorem dX4_digestOfLesson_49 : decode cX4_digestOfLesson 49 = .ok (.aload_n 0, 1) := by decide +kernel
theorem dX4_digestOfLesson_50 : decode cX4_digestOfLesson 50 = .ok (.getfield 31, 3) := by decide +kernel
theorem dX4_digestOfLesson_53 : decode cX4_digestOfLesson 53 = .ok (.iload 5, 2) := by decide +kernel
theorem dX4_digestOfLesson_55 : decode cX4_digestOfLesson 55 = .ok (.invokevirtual 136, 3) := by decide +kernel
theorem dX4_digestOfLesson_58 : decode cX4_digestOfLesson 58 = .ok (.i2l, 1) := by decide +kernel
theorem dX4_digestOfLesson_59 : decode cX4_digestOfLesson 59 = .ok (.invokestatic 281, 3) := by decide +kernel
theorem dX4_digestOfLesson_62 : decode cX4_digestOfLesson 62 = .ok (.lstore_n 3, 1) := by decide +kernel
theorem dX4_digestOfLesson_63 : decode cX4_digestOfLesson 63 = .ok (.iinc 5 1, 3) := by decide +kernel
theorem dX4_digestOfLesson_66 : decode cX4_digestOfLesson 66 = .ok (.goto (-30), 3) := by decide +kernel
theorem dX4_digestOfLesson_69 : decode cX4_digestOfLesson 69 = .ok (.lload_n 3, 1) := by decide +kernel
theorem dX4_digestOfLesson_70 : decode cX4_digestOfLesson 70 = .ok (.aload_n 0, 1) := by decide +kernel
theorem dX4_digestOfLesson_71 : decode cX4_digestOfLesson 71 = .ok (.getfield 31, 3) := by decide +kernel
theorem dX4_digestOfLesson_74 : decode cX4_digestOfLesson 74 = .ok (.invokevirtual 131, 3) := by decide +kernel
theorem dX4_digestOfLesson_77 : decode cX4_digestOfLesson 77 = .ok (.i2l, 1) := by decide +kernel
theorem dX4_digestOfLesson_78 : decode cX4_digestOfLesson 78 = .ok (.invokestatic 281, 3) := by decide +kernel
theorem dX4_digestOfLesson_81 : decode cX4_digestOfLesson 81 = .ok (.lreturn, 1) := by decide +kernel
set_option maxRecDepth 20000 in
theorem ggX4_digestOfHistory_X0_size : GoodIn wsX4_digestOfHistory wsX0_size := goodIn_r _ [6, 7, 38, 39, 40, 41, 42, 43, 44] (by decide +kernel) (by decide +kernel)
set_option maxRecDepth 20000 in
theorem gX4_digestOfHistory_X0_size : GoodIn wsX4_digestOfHistory (wsV RX4 185 RX0 yX0_size wsX0_size) := goodIn_app (goodIn_of _ (by decide +kernel)) ggX4_digestOfHistory_X0_size
set_option maxRecDepth 20000 in
theorem ggX4_digestOfHistory_X4_mixed : GoodIn wsX4_digestOfHistory wsX4_mixed := goodIn_r _ [11, 12] (by decide +kernel) (by decide +kernel)
set_option maxRecDepth 20000 in
theorem gX4_digestOfHistory_X4_mixed : GoodIn wsX4_digestOfHistory (va_wsS RX4 281 yX4_mixed wsX4_mixed) := goodIn_app (goodIn_of _ (by decide +kernel)) ggX4_digestOfHistory_X4_mixed
set_option maxRecDepth 20000 in
theorem ggX4_digestOfHistory_X0_tell : GoodIn wsX4_digestOfHistory wsX0_tell := goodIn_r _ [16, 17, 18, 19, 20, 10, 21, 22, 23, 24, 5, 25, 26, 38, 39, 40, 41, 42, 43, 44] (by decide +kernel) (by decide +kernel)
set_option maxRecDepth 20000 in
theorem gX4_digestOfHistory_X0_tell : GoodIn wsX4_digestOfHistory (wsV RX4 188 RX0 yX0_tell wsX0_tell) := goodIn_app (goodIn_of _ (by decide +kernel)) ggX4_digestOfHistory_X0_tell
set_option maxRecDepth 20000 in
theorem ggX4_digestOfHistory_X0_advisedPace : GoodIn wsX4_digestOfHistory wsX0_advisedPace := goodIn_r _ [30, 31, 38, 39, 40, 41, 42, 43, 44] (by decide +kernel) (by decide +kernel)
set_option maxRecDepth 20000 in
theorem gX4_digestOfHistory_X0_advisedPace : GoodIn wsX4_digestOfHistory (wsV RX4 189 RX0 yX0_advisedPace wsX0_advisedPace) := goodIn_app (goodIn_of _ (by decide +kernel)) ggX4_digestOfHistory_X0_advisedPace
theorem dX4_digestOfHistory_0 : decode cX4_digestOfHistory 0 = .ok (.lload_n 1, 1) := by decide +kernel
theorem dX4_digestOfHistory_1 : decode cX4_digestOfHistory 1 = .ok (.aload_n 0, 1) := by decide +kernel
theorem dX4_digestOfHistory_2 : decode cX4_digestOfHistory 2 = .ok (.getfield 38, 3) := by decide +kernel
theorem dX4_digestOfHistory_5 : decode cX4_digestOfHistory 5 = .ok (.invokevirtual 185, 3) := by decide +kernel
theorem dX4_digestOfHistory_8 : decode cX4_digestOfHistory 8 = .ok (.i2l, 1) := by decide +kernel
theorem dX4_digestOfHistory_9 : decode cX4_digestOfHistory 9 = .ok (.invokestatic 281, 3) := by decide +kernel
theorem dX4_digestOfHistory_12 : decode cX4_digestOfHistory 12 = .ok (.lstore_n 3, 1) := by decide +kernel
theorem dX4_digestOfHistory_13 : decode cX4_digestOfHistory 13 = .ok (.iconst 0, 1) := by decide +kernel
theorem dX4_digestOfHistory_14 : decode cX4_digestOfHistory 14 = .ok (.istore 5, 2) := by decide +kernel
theorem dX4_digestOfHistory_16 : decode cX4_digestOfHistory 16 = .ok (.iload 5, 2) := by decide +kernel
theorem dX4_digestOfHistory_18 : decode cX4_digestOfHistory 18 = .ok (.aload_n 0, 1) := by decide +kernel
theorem dX4_digestOfHistory_19 : decode cX4_digestOfHistory 19 = .ok (.getfield 38, 3) := by decide +kernel
theorem dX4_digestOfHistory_22 : decode cX4_digestOfHistory 22 = .ok (.invokevirtual 185, 3) := by decide +kernel
theorem dX4_digestOfHistory_25 : decode cX4_digestOfHistory 25 = .ok (.if_icmp .ge 41, 3) := by decide +kernel
theorem dX4_digestOfHistory_28 : decode cX4_digestOfHistory 28 = .ok (.iconst 0, 1) := by decide +kernel
theorem dX4_digestOfHistory_29 : decode cX4_digestOfHistory 29 = .ok (.istore 6, 2) := by decide +kernel
theorem dX4_digestOfHistory_31 : decode cX4_digestOfHistory 31 = .ok (.iload 6, 2) := by decide +kernel
theorem dX4_digestOfHistory_33 : decode cX4_digestOfHistory 33 = .ok (.iconst 3, 1) := by decide +kernel
theorem dX4_digestOfHistory_34 : decode cX4_digestOfHistory 34 = .ok (.if_icmp .gt 26, 3) := by decide +kernel
theorem dX4_digestOfHistory_37 : decode cX4_digestOfHistory 37 = .ok (.lload_n 3, 1) := by decide +kernel
theorem dX4_digestOfHistory_38 : decode cX4_digestOfHistory 38 = .ok (.aload_n 0, 1) := by decide +kernel
theorem dX4_digestOfHistory_39 : decode cX4_digestOfHistory 39 = .ok (.getfield 38, 3) := by decide +kernel
theorem dX4_digestOfHistory_42 : decode cX4_digestOfHistory 42 = .ok (.iload 5, 2) := by decide +kernel
theorem dX4_digestOfHistory_44 : decode cX4_digestOfHistory 44 = .ok (.iload 6, 2) := by decide +kernel
theorem dX4_digestOfHistory_46 : decode cX4_digestOfHistory 46 = .ok (.invokevirtual 188, 3) := by decide +kernel
theorem dX4_digestOfHistory_49 : decode cX4_digestOfHistory 49 = .ok (.i2l, 1) := by decide +kernel
theorem dX4_digestOfHistory_50 : decode cX4_digestOfHistory 50 = .ok (.invokestatic 281, 3) := by decide +kernel
theorem dX4_digestOfHistory_53 : decode cX4_digestOfHistory 53 = .ok (.lstore_n 3, 1) := by decide +kernel
theorem dX4_digestOfHistory_54 : decode cX4_digestOfHistory 54 = .ok (.iinc 6 1, 3) := by decide +kernel
theorem dX4_digestOfHistory_57 : decode cX4_digestOfHistory 57 = .ok (.goto (-26), 3) := by decide +kernel
theorem dX4_digestOfHistory_60 : decode cX4_digestOfHistory 60 = .ok (.iinc 5 1, 3) := by decide +kernel
theorem dX4_digestOfHistory_63 : decode cX4_digestOfHistory 63 = .ok (.goto (-47), 3) := by decide +kernel
theorem dX4_digestOfHistory_66 : decode cX4_digestOfHistory 66 = .ok (.lload_n 3, 1) := by decide +kernel
theorem dX4_digestOfHistory_67 : decode cX4_digestOfHistory 67 = .ok (.aload_n 0, 1) := by decide +kernel
theorem dX4_digestOfHistory_68 : decode cX4_digestOfHistory 68 = .ok (.getfield 38, 3) := by decide +kernel
theorem dX4_digestOfHistory_71 : decode cX4_digestOfHistory 71 = .ok (.invokevirtual 189, 3) := by decide +kernel
theorem dX4_digestOfHistory_74 : decode cX4_digestOfHistory 74 = .ok (.i2l, 1) := by decide +kernel
theorem dX4_digestOfHistory_75 : decode cX4_digestOfHistory 75 = .ok (.invokestatic 281, 3) := by decide +kernel
theorem dX4_digestOfHistory_78 : decode cX4_digestOfHistory 78 = .ok (.lreturn, 1) := by decide +kernel
theorem dX5_init_0 : decode cX5_init 0 = .ok (.aload_n 0, 1) := by decide +kernel
theorem dX5_init_1 : decode cX5_init 1 = .ok (.invokespecial 1, 3) := by decide +kernel
theorem dX5_init_4 : decode cX5_init 4 = .ok (.aload_n 0, 1) := by decide +kernel
theorem dX5_init_5 : decode cX5_init 5 = .ok (.bipush 40, 2) := by decide +kernel
theorem dX5_init_7 : decode cX5_init 7 = .ok (.newarray .long, 2) := by decide +kernel
theorem dX5_init_9 : decode cX5_init 9 = .ok (.putfield 9, 3) := by decide +kernel
theorem dX5_init_12 : decode cX5_init 12 = .ok (.aload_n 0, 1) := by decide +kernel
theorem dX5_init_13 : decode cX5_init 13 = .ok (.sipush 702, 3) := by decide +kernel
theorem dX5_init_16 : decode cX5_init 16 = .ok (.newarray .int, 2) := by decide +kernel
theorem dX5_init_18 : decode cX5_init 18 = .ok (.putfield 13, 3) := by decide +kernel
theorem dX5_init_21 : decode cX5_init 21 = .ok (.aload_n 0, 1) := by decide +kernel
theorem dX5_init_22 : decode cX5_init 22 = .ok (.sipush 702, 3) := by decide +kernel
theorem dX5_init_25 : decode cX5_init 25 = .ok (.newarray .int, 2) := by decide +kernel
theorem dX5_init_27 : decode cX5_init 27 = .ok (.putfield 17, 3) := by decide +kernel
theorem dX5_init_30 : decode cX5_init 30 = .ok (.aload_n 0, 1) := by decide +kernel
theorem dX5_init_31 : decode cX5_init 31 = .ok (.sipush 702, 3) := by decide +kernel
theorem dX5_init_34 : decode cX5_init 34 = .ok (.newarray .int, 2) := by decide +kernel
theorem dX5_init_36 : decode cX5_init 36 = .ok (.putfield 20, 3) := by decide +kernel
theorem dX5_init_39 : decode cX5_init 39 = .ok (.aload_n 0, 1) := by decide +kernel
theorem dX5_init_40 : decode cX5_init 40 = .ok (.iconst 5, 1) := by decide +kernel
theorem dX5_init_41 : decode cX5_init 41 = .ok (.newarray .int, 2) := by decide +kernel
theorem dX5_init_43 : decode cX5_init 43 = .ok (.putfield 23, 3) := by decide +kernel
theorem dX5_init_46 : decode cX5_init 46 = .ok (.aload_n 0, 1) := by decide +kernel
theorem dX5_init_47 : decode cX5_init 47 = .ok (.bipush 6, 2) := by decide +kernel
theorem dX5_init_49 : decode cX5_init 49 = .ok (.newarray .int, 2) := by decide +kernel
theorem dX5_init_51 : decode cX5_init 51 = .ok (.putfield 26, 3) := by decide +kernel
theorem dX5_init_54 : decode cX5_init 54 = .ok (.aload_n 0, 1) := by decide +kernel
theorem dX5_init_55 : decode cX5_init 55 = .ok (.bipush 48, 2) := by decide +kernel
theorem dX5_init_57 : decode cX5_init 57 = .ok (.newarray .int, 2) := by decide +kernel
theorem dX5_init_59 : decode cX5_init 59 = .ok (.putfield 29, 3) := by decide +kernel
theorem dX5_init_62 : decode cX5_init 62 = .ok (.aload_n 0, 1) := by decide +kernel
theorem dX5_init_63 : decode cX5_init 63 = .ok (.bipush 49, 2) := by decide +kernel
theorem dX5_init_65 : decode cX5_init 65 = .ok (.newarray .boolean, 2) := by decide +kernel
theorem dX5_init_67 : decode cX5_init 67 = .ok (.putfield 32, 3) := by decide +kernel
theorem dX5_init_70 : decode cX5_init 70 = .ok (.aload_n 0, 1) := by decide +kernel
theorem dX5_init_71 : decode cX5_init 71 = .ok (.bipush 12, 2) := by decide +kernel
theorem dX5_init_73 : decode cX5_init 73 = .ok (.newarray .int, 2) := by decide +kernel
theorem dX5_init_75 : decode cX5_init 75 = .ok (.putfield 36, 3) := by decide +kernel
theorem dX5_init_78 : decode cX5_init 78 = .ok (.aload_n 0, 1) := by decide +kernel
theorem dX5_init_79 : decode cX5_init 79 = .ok (.bipush 100, 2) := by decide +kernel
theorem dX5_init_81 : decode cX5_init 81 = .ok (.putfield 39, 3) := by decide +kernel
theorem dX5_init_84 : decode cX5_init 84 = .ok (.iconst 0, 1) := by decide +kernel
theorem dX5_init_85 : decode cX5_init 85 = .ok (.istore_n 1, 1) := by decide +kernel
theorem dX5_init_86 : decode cX5_init 86 = .ok (.iload_n 1, 1) := by decide +kernel
theorem dX5_init_87 : decode cX5_init 87 = .ok (.aload_n 0, 1) := by decide +kernel
theorem dX5_init_88 : decode cX5_init 88 = .ok (.getfield 20, 3) := by decide +kernel
theorem dX5_init_91 : decode cX5_init 91 = .ok (.arraylength, 1) := by decide +kernel
theorem dX5_init_92 : decode cX5_init 92 = .ok (.if_icmp .ge 18, 3) := by decide +kernel
theorem dX5_init_95 : decode cX5_init 95 = .ok (.aload_n 0, 1) := by decide +kernel
theorem dX5_init_96 : decode cX5_init 96 = .ok (.getfield 20, 3) := by decide +kernel
theorem dX5_init_99 : decode cX5_init 99 = .ok (.iload_n 1, 1) := by decide +kernel
theorem dX5_init_100 : decode cX5_init 100 = .ok (.sipush 500, 3) := by decide +kernel
theorem dX5_init_103 : decode cX5_init 103 = .ok (.iastore, 1) := by decide +kernel
theorem dX5_init_104 : decode cX5_init 104 = .ok (.iinc 1 1, 3) := by decide +kernel
theorem dX5_init_107 : decode cX5_init 107 = .ok (.goto (-21), 3) := by decide +kernel
theorem dX5_init_110 : decode cX5_init 110 = .ok (.return_, 1) := by decide +kernel
theorem dX5_thrown_0 : decode cX5_thrown 0 = .ok (.aload_n 0, 1) := by decide +kernel
theorem dX5_thrown_1 : decode cX5_thrown 1 = .ok (.getfield 43, 3) := by decide +kernel
theorem dX5_thrown_4 : decode cX5_thrown 4 = .ok (.ireturn, 1) := by decide +kernel
theorem dX5_fail_0 : decode cX5_fail 0 = .ok (.aload_n 0, 1) := by decide +kernel
theorem dX5_fail_1 : decode cX5_fail 1 = .ok (.iload_n 1, 1) := by decide +kernel
theorem dX5_fail_2 : decode cX5_fail 2 = .ok (.putfield 43, 3) := by decide +kernel
theorem dX5_fail_5 : decode cX5_fail 5 = .ok (.iconst 0, 1) := by decide +kernel
theorem dX5_fail_6 : decode cX5_fail 6 = .ok (.ireturn, 1) := by decide +kernel
theorem dX5_isKey_0 : decode cX5_isKey 0 = .ok (.iload_n 0, 1) := by decide +kernel
theorem dX5_isKey_1 : decode cX5_isKey 1 = .ok (.ifCond .lt 13, 3) := by decide +kernel
theorem dX5_isKey_4 : decode cX5_isKey 4 = .ok (.iload_n 0, 1) := by decide +kernel
theorem dX5_isKey_5 : decode cX5_isKey 5 = .ok (.bipush 26, 2) := by decide +kernel
theorem dX5_isKey_7 : decode cX5_isKey 7 = .ok (.if_icmp .ge 7, 3) := by decide +kernel
theorem dX5_isKey_10 : decode cX5_isKey 10 = .ok (.iconst 1, 1) := by decide +kernel
theorem dX5_isKey_11 : decode cX5_isKey 11 = .ok (.goto 4, 3) := by decide +kernel
theorem dX5_isKey_14 : decode cX5_isKey 14 = .ok (.iconst 0, 1) := by decide +kernel
theorem dX5_isKey_15 : decode cX5_isKey 15 = .ok (.ireturn, 1) := by decide +kernel
theorem dX5_isNumber_0 : decode cX5_isNumber 0 = .ok (.iload_n 1, 1) := by decide +kernel
theorem dX5_isNumber_1 : decode cX5_isNumber 1 = .ok (.ifCond .lt 15, 3) := by decide +kernel
theorem dX5_isNumber_4 : decode cX5_isNumber 4 = .ok (.iload_n 1, 1) := by decide +kernel
theorem dX5_isNumber_5 : decode cX5_isNumber 5 = .ok (.aload_n 0, 1) := by decide +kernel
theorem dX5_isNumber_6 : decode cX5_isNumber 6 = .ok (.getfield 46, 3) := by decide +kernel
theorem dX5_isNumber_9 : decode cX5_isNumber 9 = .ok (.if_icmp .ge 7, 3) := by decide +kernel
theorem dX5_isNumber_12 : decode cX5_isNumber 12 = .ok (.iconst 1, 1) := by decide +kernel
theorem dX5_isNumber_13 : decode cX5_isNumber 13 = .ok (.goto 4, 3) := by decide +kernel
theorem dX5_isNumber_16 : decode cX5_isNumber 16 = .ok (.iconst 0, 1) := by decide +kernel
theorem dX5_isNumber_17 : decode cX5_isNumber 17 = .ok (.ireturn, 1) := by decide +kernel
theorem dX5_pairOf_0 : decode cX5_pairOf 0 = .ok (.bipush 26, 2) := by decide +kernel
theorem dX5_pairOf_2 : decode cX5_pairOf 2 = .ok (.bipush 26, 2) := by decide +kernel
theorem dX5_pairOf_4 : decode cX5_pairOf 4 = .ok (.iload_n 0, 1) := by decide +kernel
theorem dX5_pairOf_5 : decode cX5_pairOf 5 = .ok (.imul, 1) := by decide +kernel
theorem dX5_pairOf_6 : decode cX5_pairOf 6 = .ok (.iadd, 1) := by decide +kernel
theorem dX5_pairOf_7 : decode cX5_pairOf 7 = .ok (.iload_n 1, 1) := by decide +kernel
theorem dX5_pairOf_8 : decode cX5_pairOf 8 = .ok (.iadd, 1) := by decide +kernel
theorem dX5_pairOf_9 : decode cX5_pairOf 9 = .ok (.ireturn, 1) := by decide +kernel
theorem dX5_size_0 : decode cX5_size 0 = .ok (.iconst 0, 1) := by decide +kernel
theorem dX5_size_1 : decode cX5_size 1 = .ok (.istore_n 2, 1) := by decide +kernel
theorem dX5_size_2 : decode cX5_size 2 = .ok (.iload_n 2, 1) := by decide +kernel
theorem dX5_size_3 : decode cX5_size 3 = .ok (.bipush 8, 2) := by decide +kernel
theorem dX5_size_5 : decode cX5_size 5 = .ok (.if_icmp .ge 20, 3) := by decide +kernel
theorem dX5_size_8 : decode cX5_size 8 = .ok (.lload_n 0, 1) := by decide +kernel
theorem dX5_size_9 : decode cX5_size 9 = .ok (.bipush 8, 2) := by decide +kernel
theorem dX5_size_11 : decode cX5_size 11 = .ok (.iload_n 2, 1) := by decide +kernel
theorem dX5_size_12 : decode cX5_size 12 = .ok (.imul, 1) := by decide +kernel
theorem dX5_size_13 : decode cX5_size 13 = .ok (.lushr, 1) := by decide +kernel
theorem dX5_size_14 : decode cX5_size 14 = .ok (.lconst 0, 1) := by decide +kernel
theorem dX5_size_15 : decode cX5_size 15 = .ok (.lcmp, 1) := by decide +kernel
theorem dX5_size_16 : decode cX5_size 16 = .ok (.ifCond .eq 9, 3) := by decide +kernel
theorem dX5_size_19 : decode cX5_size 19 = .ok (.iinc 2 1, 3) := by decide +kernel
theorem dX5_size_22 : decode cX5_size 22 = .ok (.goto (-20), 3) := by decide +kernel
theorem dX5_size_25 : decode cX5_size 25 = .ok (.iload_n 2, 1) := by decide +kernel
theorem dX5_size_26 : decode cX5_size 26 = .ok (.ireturn, 1) := by decide +kernel
set_option maxRecDepth 20000 in
theorem ggX5_letter_X5_size : GoodIn wsX5_letter wsX5_size := goodIn_r _ [5] (by decide +kernel) (by decide +kernel)
set_option maxRecDepth 20000 in
theorem gX5_letter_X5_size : GoodIn wsX5_letter (va_wsS RX5 49 yX5_size wsX5_size) := goodIn_app (goodIn_of _ (by decide +kernel)) ggX5_letter_X5_size
theorem dX5_letter_0 : decode cX5_letter 0 = .ok (.lload_n 0, 1) := by decide +kernel
theorem dX5_letter_1 : decode cX5_letter 1 = .ok (.bipush 8, 2) := by decide +kernel
theorem dX5_letter_3 : decode cX5_letter 3 = .ok (.lload_n 0, 1) := by decide +kernel
theorem dX5_letter_4 : decode cX5_letter 4 = .ok (.invokestatic 49, 3) := by decide +kernel
theorem dX5_letter_7 : decode cX5_letter 7 = .ok (.iconst 1, 1) := by decide +kernel
theorem dX5_letter_8 : decode cX5_letter 8 = .ok (.isub, 1) := by decide +kernel
theorem dX5_letter_9 : decode cX5_letter 9 = .ok (.iload_n 2, 1) := by decide +kernel
theorem dX5_letter_10 : decode cX5_letter 10 = .ok (.isub, 1) := by decide +kernel
theorem dX5_letter_11 : decode cX5_letter 11 = .ok (.imul, 1) := by decide +kernel
theorem dX5_letter_12 : decode cX5_letter 12 = .ok (.lushr, 1) := by decide +kernel
theorem dX5_letter_13 : decode cX5_letter 13 = .ok (.ldc2_w 53, 3) := by decide +kernel
theorem dX5_letter_16 : decode cX5_letter 16 = .ok (.land, 1) := by decide +kernel
theorem dX5_letter_17 : decode cX5_letter 17 = .ok (.l2i, 1) := by decide +kernel
theorem dX5_letter_18 : decode cX5_letter 18 = .ok (.bipush 97, 2) := by decide +kernel
theorem dX5_letter_20 : decode cX5_letter 20 = .ok (.isub, 1) := by decide +kernel
theorem dX5_letter_21 : decode cX5_letter 21 = .ok (.ireturn, 1) := by decide +kernel
set_option maxRecDepth 20000 in
theorem ggX5_isWord_X5_size : GoodIn wsX5_isWord wsX5_size := goodIn_r _ [4] (by decide +kernel) (by decide +kernel)
set_option maxRecDepth 20000 in
theorem gX5_isWord_X5_size : GoodIn wsX5_isWord (va_wsS RX5 49 yX5_size wsX5_size) := goodIn_app (goodIn_of _ (by decide +kernel)) ggX5_isWord_X5_size
set_option maxRecDepth 20000 in
theorem ggX5_isWord_X5_letter : GoodIn wsX5_isWord wsX5_letter := goodIn_r _ [7, 8, 1, 2, 3, 4] (by decide +kernel) (by decide +kernel)
set_option maxRecDepth 20000 in
theorem gX5_isWord_X5_letter : GoodIn wsX5_isWord (va_wsS RX5 55 yX5_letter wsX5_letter) := goodIn_app (goodIn_of _ (by decide +kernel)) ggX5_isWord_X5_letter
set_option maxRecDepth 20000 in
theorem ggX5_isWord_X5_isKey : GoodIn wsX5_isWord wsX5_isKey := goodIn_r _ [11] (by decide +kernel) (by decide +kernel)
set_option maxRecDepth 20000 in
theorem gX5_isWord_X5_isKey : GoodIn wsX5_isWord (va_wsS RX5 59 yX5_isKey wsX5_isKey) := goodIn_app (goodIn_of _ (by decide +kernel)) ggX5_isWord_X5_isKey
theorem dX5_isWord_0 : decode cX5_isWord 0 = .ok (.lload_n 0, 1) := by decide +kernel
theorem dX5_isWord_1 : decode cX5_isWord 1 = .ok (.lconst 0, 1) := by decide +kernel
theorem dX5_isWord_2 : decode cX5_isWord 2 = .ok (.lcmp, 1) := by decide +kernel
theorem dX5_isWord_3 : decode cX5_isWord 3 = .ok (.ifCond .eq 7, 3) := by decide +kernel
theorem dX5_isWord_6 : decode cX5_isWord 6 = .ok (.iconst 1, 1) := by decide +kernel
theorem dX5_isWord_7 : decode cX5_isWord 7 = .ok (.goto 4, 3) := by decide +kernel
theorem dX5_isWord_10 : decode cX5_isWord 10 = .ok (.iconst 0, 1) := by decide +kernel
theorem dX5_isWord_11 : decode cX5_isWord 11 = .ok (.istore_n 2, 1) := by decide +kernel
theorem dX5_isWord_12 : decode cX5_isWord 12 = .ok (.iconst 0, 1) := by decide +kernel
theorem dX5_isWord_13 : decode cX5_isWord 13 = .ok (.istore_n 3, 1) := by decide +kernel
theorem dX5_isWord_14 : decode cX5_isWord 14 = .ok (.iload_n 3, 1) := by decide +kernel
theorem dX5_isWord_15 : decode cX5_isWord 15 = .ok (.lload_n 0, 1) := by decide +kernel
theorem dX5_isWord_16 : decode cX5_isWord 16 = .ok (.invokestatic 49, 3) := by decide +kernel
theorem dX5_isWord_19 : decode cX5_isWord 19 = .ok (.if_icmp .ge 30, 3) := by decide +kernel
theorem dX5_isWord_22 : decode cX5_isWord 22 = .ok (.iload_n 2, 1) := by decide +kernel
theorem dX5_isWord_23 : decode cX5_isWord 23 = .ok (.ifCond .eq 18, 3) := by decide +kernel
theorem dX5_isWord_26 : decode cX5_isWord 26 = .ok (.lload_n 0, 1) := by decide +kernel
theorem dX5_isWord_27 : decode cX5_isWord 27 = .ok (.iload_n 3, 1) := by decide +kernel
theorem dX5_isWord_28 : decode cX5_isWord 28 = .ok (.invokestatic 55, 3) := by decide +kernel
theorem dX5_isWord_31 : decode cX5_isWord 31 = .ok (.invokestatic 59, 3) := by decide +kernel
theorem dX5_isWord_34 : decode cX5_isWord 34 = .ok (.ifCond .eq 7, 3) := by decide +kernel
theorem dX5_isWord_37 : decode cX5_isWord 37 = .ok (.iconst 1, 1) := by decide +kernel
theorem dX5_isWord_38 : decode cX5_isWord 38 = .ok (.goto 4, 3) := by decide +kernel
theorem dX5_isWord_41 : decode cX5_isWord 41 = .ok (.iconst 0, 1) := by decide +kernel
theorem dX5_isWord_42 : decode cX5_isWord 42 = .ok (.istore_n 2, 1) := by decide +kernel
theorem dX5_isWord_43 : decode cX5_isWord 43 = .ok (.iinc 3 1, 3) := by decide +kernel
theorem dX5_isWord_46 : decode cX5_isWord 46 = .ok (.goto (-32), 3) := by decide +kernel
theorem dX5_isWord_49 : decode cX5_isWord 49 = .ok (.iload_n 2, 1) := by decide +kernel
theorem dX5_isWord_50 : decode cX5_isWord 50 = .ok (.ireturn, 1) := by decide +kernel
set_option maxRecDepth 20000 in
theorem ggX5_addWord_X5_isWord : GoodIn wsX5_addWord wsX5_isWord := goodIn_r _ [7, 8, 9, 6, 10, 11, 12, 13, 14, 15, 16, 17] (by decide +kernel) (by decide +kernel)
set_option maxRecDepth 20000 in
theorem gX5_addWord_X5_isWord : GoodIn wsX5_addWord (va_wsS RX5 63 yX5_isWord wsX5_isWord) := goodIn_app (goodIn_of _ (by decide +kernel)) ggX5_addWord_X5_isWord
set_option maxRecDepth 20000 in
theorem ggX5_addWord_X5_fail : GoodIn wsX5_addWord wsX5_fail := goodIn_r _ [21, 1, 22, 23, 24, 25, 26, 27, 28, 29, 30, 31, 32, 33, 34, 35, 36, 37, 38, 39, 40, 41] (by decide +kernel) (by decide +kernel)
set_option maxRecDepth 20000 in
theorem gX5_addWord_X5_fail : GoodIn wsX5_addWord (wsV RX5 67 RX5 yX5_fail wsX5_fail) := goodIn_app (goodIn_of _ (by decide +kernel)) ggX5_addWord_X5_fail
theorem dX5_addWord_0 : decode cX5_addWord 0 = .ok (.aload_n 0, 1) := by decide +kernel
theorem dX5_addWord_1 : decode cX5_addWord 1 = .ok (.iconst 0, 1) := by decide +kernel
theorem dX5_addWord_2 : decode cX5_addWord 2 = .ok (.putfield 43, 3) := by decide +kernel
theorem dX5_addWord_5 : decode cX5_addWord 5 = .ok (.lload_n 1, 1) := by decide +kernel
theorem dX5_addWord_6 : decode cX5_addWord 6 = .ok (.invokestatic 63, 3) := by decide +kernel
theorem dX5_addWord_9 : decode cX5_addWord 9 = .ok (.ifCond .ne 9, 3) := by decide +kernel
theorem dX5_addWord_12 : decode cX5_addWord 12 = .ok (.aload_n 0, 1) := by decide +kernel
theorem dX5_addWord_13 : decode cX5_addWord 13 = .ok (.iconst 1, 1) := by decide +kernel
theorem dX5_addWord_14 : decode cX5_addWord 14 = .ok (.invokevirtual 67, 3) := by decide +kernel
theorem dX5_addWord_17 : decode cX5_addWord 17 = .ok (.ireturn, 1) := by decide +kernel
theorem dX5_addWord_18 : decode cX5_addWord 18 = .ok (.aload_n 0, 1) := by decide +kernel
theorem dX5_addWord_19 : decode cX5_addWord 19 = .ok (.getfield 46, 3) := by decide +kernel
theorem dX5_addWord_22 : decode cX5_addWord 22 = .ok (.bipush 40, 2) := by decide +kernel
theorem dX5_addWord_24 : decode cX5_addWord 24 = .ok (.if_icmp .ne 9, 3) := by decide +kernel
theorem dX5_addWord_27 : decode cX5_addWord 27 = .ok (.aload_n 0, 1) := by decide +kernel
theorem dX5_addWord_28 : decode cX5_addWord 28 = .ok (.iconst 2, 1) := by decide +kernel
theorem dX5_addWord_29 : decode cX5_addWord 29 = .ok (.invokevirtual 67, 3) := by decide +kernel
theorem dX5_addWord_32 : decode cX5_addWord 32 = .ok (.ireturn, 1) := by decide +kernel
theorem dX5_addWord_33 : decode cX5_addWord 33 = .ok (.iconst 0, 1) := by decide +kernel
theorem dX5_addWord_34 : decode cX5_addWord 34 = .ok (.istore_n 3, 1) := by decide +kernel
theorem dX5_addWord_35 : decode cX5_addWord 35 = .ok (.iload_n 3, 1) := by decide +kernel
theorem dX5_addWord_36 : decode cX5_addWord 36 = .ok (.aload_n 0, 1) := by decide +kernel
theorem dX5_addWord_37 : decode cX5_addWord 37 = .ok (.getfield 46, 3) := by decide +kernel
theorem dX5_addWord_40 : decode cX5_addWord 40 = .ok (.if_icmp .ge 26, 3) := by decide +kernel
theorem dX5_addWord_43 : decode cX5_addWord 43 = .ok (.aload_n 0, 1) := by decide +kernel
theorem dX5_addWord_44 : decode cX5_addWord 44 = .ok (.getfield 9, 3) := by decide +kernel
theorem dX5_addWord_47 : decode cX5_addWord 47 = .ok (.iload_n 3, 1) := by decide +kernel
theorem dX5_addWord_48 : decode cX5_addWord 48 = .ok (.laload, 1) := by decide +kernel
theorem dX5_addWord_49 : decode cX5_addWord 49 = .ok (.lload_n 1, 1) := by decide +kernel
theorem dX5_addWord_50 : decode cX5_addWord 50 = .ok (.lcmp, 1) := by decide +kernel
theorem dX5_addWord_51 : decode cX5_addWord 51 = .ok (.ifCond .ne 9, 3) := by decide +kernel
theorem dX5_addWord_54 : decode cX5_addWord 54 = .ok (.aload_n 0, 1) := by decide +kernel
theorem dX5_addWord_55 : decode cX5_addWord 55 = .ok (.iconst 2, 1) := by decide +kernel
theorem dX5_addWord_56 : decode cX5_addWord 56 = .ok (.invokevirtual 67, 3) := by decide +kernel
theorem dX5_addWord_59 : decode cX5_addWord 59 = .ok (.ireturn, 1) := by decide +kernel
theorem dX5_addWord_60 : decode cX5_addWord 60 = .ok (.iinc 3 1, 3) := by decide +kernel
theorem dX5_addWord_63 : decode cX5_addWord 63 = .ok (.goto (-28), 3) := by decide +kernel
theorem dX5_addWord_66 : decode cX5_addWord 66 = .ok (.aload_n 0, 1) := by decide +kernel
theorem dX5_addWord_67 : decode cX5_addWord 67 = .ok (.getfield 9, 3) := by decide +kernel
theorem dX5_addWord_70 : decode cX5_addWord 70 = .ok (.aload_n 0, 1) := by decide +kernel
theorem dX5_addWord_71 : decode cX5_addWord 71 = .ok (.getfield 46, 3) := by decide +kernel
theorem dX5_addWord_74 : decode cX5_addWord 74 = .ok (.lload_n 1, 1) := by decide +kernel
theorem dX5_addWord_75 : decode cX5_addWord 75 = .ok (.lastore, 1) := by decide +kernel
theorem dX5_addWord_76 : decode cX5_addWord 76 = .ok (.aload_n 0, 1) := by decide +kernel
theorem dX5_addWord_77 : decode cX5_addWord 77 = .ok (.dup, 1) := by decide +kernel
theorem dX5_addWord_78 : decode cX5_addWord 78 = .ok (.getfield 46, 3) := by decide +kernel
theorem dX5_addWord_81 : decode cX5_addWord 81 = .ok (.iconst 1, 1) := by decide +kernel
theorem dX5_addWord_82 : decode cX5_addWord 82 = .ok (.iadd, 1) := by decide +kernel
theorem dX5_addWord_83 : decode cX5_addWord 83 = .ok (.putfield 46, 3) := by decide +kernel
theorem dX5_addWord_86 : decode cX5_addWord 86 = .ok (.aload_n 0, 1) := by decide +kernel
theorem dX5_addWord_87 : decode cX5_addWord 87 = .ok (.getfield 46, 3) := by decide +kernel
theorem dX5_addWord_90 : decode cX5_addWord 90 = .ok (.iconst 1, 1) := by decide +kernel
theorem dX5_addWord_91 : decode cX5_addWord 91 = .ok (.isub, 1) := by decide +kernel
theorem dX5_addWord_92 : decode cX5_addWord 92 = .ok (.ireturn, 1) := by decide +kernel
theorem dX5_wordCount_0 : decode cX5_wordCount 0 = .ok (.aload_n 0, 1) := by decide +kernel
theorem dX5_wordCount_1 : decode cX5_wordCount 1 = .ok (.iconst 0, 1) := by decide +kernel
theorem dX5_wordCount_2 : decode cX5_wordCount 2 = .ok (.putfield 43, 3) := by decide +kernel
theorem dX5_wordCount_5 : decode cX5_wordCount 5 = .ok (.aload_n 0, 1) := by decide +kernel
theorem dX5_wordCount_6 : decode cX5_wordCount 6 = .ok (.getfield 46, 3) := by decide +kernel
theorem dX5_wordCount_9 : decode cX5_wordCount 9 = .ok (.ireturn, 1) := by decide +kernel
set_option maxRecDepth 20000 in
theorem ggX5_word_X5_isNumber : GoodIn wsX5_word wsX5_isNumber := goodIn_r _ [7, 8, 9, 10, 11, 12, 13, 14, 15, 16, 17, 18, 19, 20, 21, 22, 23, 24, 25, 26, 27, 28] (by decide +kernel) (by decide +kernel)
set_option maxRecDepth 20000 in
theorem gX5_word_X5_isNumber : GoodIn wsX5_word (wsV RX5 71 RX5 yX5_isNumber wsX5_isNumber) := goodIn_app (goodIn_of _ (by decide +kernel)) ggX5_word_X5_isNumber
theorem dX5_word_0 : decode cX5_word 0 = .ok (.aload_n 0, 1) := by decide +kernel
theorem dX5_word_1 : decode cX5_word 1 = .ok (.aload_n 0, 1) := by decide +kernel
theorem dX5_word_2 : decode cX5_word 2 = .ok (.iload_n 1, 1) := by decide +kernel
theorem dX5_word_3 : decode cX5_word 3 = .ok (.invokevirtual 71, 3) := by decide +kernel
theorem dX5_word_6 : decode cX5_word 6 = .ok (.ifCond .eq 7, 3) := by decide +kernel
theorem dX5_word_9 : decode cX5_word 9 = .ok (.iconst 0, 1) := by decide +kernel
theorem dX5_word_10 : decode cX5_word 10 = .ok (.goto 4, 3) := by decide +kernel
theorem dX5_word_13 : decode cX5_word 13 = .ok (.iconst 1, 1) := by decide +kernel
theorem dX5_word_14 : decode cX5_word 14 = .ok (.putfield 43, 3) := by decide +kernel
theorem dX5_word_17 : decode cX5_word 17 = .ok (.aload_n 0, 1) := by decide +kernel
theorem dX5_word_18 : decode cX5_word 18 = .ok (.getfield 43, 3) := by decide +kernel
theorem dX5_word_21 : decode cX5_word 21 = .ok (.ifCond .ne 12, 3) := by decide +kernel
theorem dX5_word_24 : decode cX5_word 24 = .ok (.aload_n 0, 1) := by decide +kernel
theorem dX5_word_25 : decode cX5_word 25 = .ok (.getfield 9, 3) := by decide +kernel
theorem dX5_word_28 : decode cX5_word 28 = .ok (.iload_n 1, 1) := by decide +kernel
theorem dX5_word_29 : decode cX5_word 29 = .ok (.laload, 1) := by decide +kernel
theorem dX5_word_30 : decode cX5_word 30 = .ok (.goto 4, 3) := by decide +kernel
theorem dX5_word_33 : decode cX5_word 33 = .ok (.lconst 0, 1) := by decide +kernel
theorem dX5_word_34 : decode cX5_word 34 = .ok (.lreturn, 1) := by decide +kernel
set_option maxRecDepth 20000 in
theorem ggX5_weakness_X5_pairOf : GoodIn wsX5_weakness wsX5_pairOf := goodIn_r _ [6] (by decide +kernel) (by decide +kernel)
set_option maxRecDepth 20000 in
theorem gX5_weakness_X5_pairOf : GoodIn wsX5_weakness (va_wsS RX5 74 yX5_pairOf wsX5_pairOf) := goodIn_app (goodIn_of _ (by decide +kernel)) ggX5_weakness_X5_pairOf
theorem dX5_weakness_0 : decode cX5_weakness 0 = .ok (.iload_n 1, 1) := by decide +kernel
theorem dX5_weakness_1 : decode cX5_weakness 1 = .ok (.iload_n 2, 1) := by decide +kernel
theorem dX5_weakness_2 : decode cX5_weakness 2 = .ok (.invokestatic 74, 3) := by decide +kernel
theorem dX5_weakness_5 : decode cX5_weakness 5 = .ok (.istore_n 3, 1) := by decide +kernel
theorem dX5_weakness_6 : decode cX5_weakness 6 = .ok (.sipush 1000, 3) := by decide +kernel
theorem dX5_weakness_9 : decode cX5_weakness 9 = .ok (.aload_n 0, 1) := by decide +kernel
theorem dX5_weakness_10 : decode cX5_weakness 10 = .ok (.getfield 20, 3) := by decide +kernel
theorem dX5_weakness_13 : decode cX5_weakness 13 = .ok (.iload_n 3, 1) := by decide +kernel
theorem dX5_weakness_14 : decode cX5_weakness 14 = .ok (.iaload, 1) := by decide +kernel
theorem dX5_weakness_15 : decode cX5_weakness 15 = .ok (.isub, 1) := by decide +kernel
theorem dX5_weakness_16 : decode cX5_weakness 16 = .ok (.aload_n 0, 1) := by decide +kernel
theorem dX5_weakness_17 : decode cX5_weakness 17 = .ok (.getfield 13, 3) := by decide +kernel
theorem dX5_weakness_20 : decode cX5_weakness 20 = .ok (.iload_n 3, 1) := by decide +kernel
theorem dX5_weakness_21 : decode cX5_weakness 21 = .ok (.iaload, 1) := by decide +kernel
theorem dX5_weakness_22 : decode cX5_weakness 22 = .ok (.ifCond .ne 9, 3) := by decide +kernel
theorem dX5_weakness_25 : decode cX5_weakness 25 = .ok (.sipush 200, 3) := by decide +kernel
theorem dX5_weakness_28 : decode cX5_weakness 28 = .ok (.goto 4, 3) := by decide +kernel
theorem dX5_weakness_31 : decode cX5_weakness 31 = .ok (.iconst 0, 1) := by decide +kernel
theorem dX5_weakness_32 : decode cX5_weakness 32 = .ok (.iadd, 1) := by decide +kernel
theorem dX5_weakness_33 : decode cX5_weakness 33 = .ok (.ireturn, 1) := by decide +kernel
set_option maxRecDepth 20000 in
theorem ggX5_weightOf_X5_size : GoodIn wsX5_weightOf wsX5_size := goodIn_r _ [5] (by decide +kernel) (by decide +kernel)
set_option maxRecDepth 20000 in
theorem gX5_weightOf_X5_size : GoodIn wsX5_weightOf (va_wsS RX5 49 yX5_size wsX5_size) := goodIn_app (goodIn_of _ (by decide +kernel)) ggX5_weightOf_X5_size
set_option maxRecDepth 20000 in
theorem ggX5_weightOf_X5_letter : GoodIn wsX5_weightOf wsX5_letter := goodIn_r _ [8, 9, 2, 3, 4, 5] (by decide +kernel) (by decide +kernel)
set_option maxRecDepth 20000 in
theorem gX5_weightOf_X5_letter : GoodIn wsX5_weightOf (va_wsS RX5 55 yX5_letter wsX5_letter) := goodIn_app (goodIn_of _ (by decide +kernel)) ggX5_weightOf_X5_letter
set_option maxRecDepth 20000 in
theorem ggX5_weightOf_X5_weakness : GoodIn wsX5_weightOf wsX5_weakness := goodIn_r _ [13, 1, 14, 15, 16, 4, 17, 18, 19, 20, 21, 22, 23, 24, 25, 26, 27, 28, 29, 30, 31, 32, 33, 34, 35, 36, 37] (by decide +kernel) (by decide +kernel)
set_option maxRecDepth 20000 in
theorem gX5_weightOf_X5_weakness : GoodIn wsX5_weightOf (wsV RX5 78 RX5 yX5_weakness wsX5_weakness) := goodIn_app (goodIn_of _ (by decide +kernel)) ggX5_weightOf_X5_weakness
theorem dX5_weightOf_0 : decode cX5_weightOf 0 = .ok (.lload_n 1, 1) := by decide +kernel
theorem dX5_weightOf_1 : decode cX5_weightOf 1 = .ok (.invokestatic 49, 3) := by decide +kernel
theorem dX5_weightOf_4 : decode cX5_weightOf 4 = .ok (.istore_n 3, 1) := by decide +kernel
theorem dX5_weightOf_5 : decode cX5_weightOf 5 = .ok (.iload_n 3, 1) := by decide +kernel
theorem dX5_weightOf_6 : decode cX5_weightOf 6 = .ok (.iconst 1, 1) := by decide +kernel
theorem dX5_weightOf_7 : decode cX5_weightOf 7 = .ok (.if_icmp .ne 18, 3) := by decide +kernel
theorem dX5_weightOf_10 : decode cX5_weightOf 10 = .ok (.sipush 1000, 3) := by decide +kernel
theorem dX5_weightOf_13 : decode cX5_weightOf 13 = .ok (.aload_n 0, 1) := by decide +kernel
theorem dX5_weightOf_14 : decode cX5_weightOf 14 = .ok (.getfield 20, 3) := by decide +kernel
theorem dX5_weightOf_17 : decode cX5_weightOf 17 = .ok (.lload_n 1, 1) := by decide +kernel
theorem dX5_weightOf_18 : decode cX5_weightOf 18 = .ok (.iconst 0, 1) := by decide +kernel
theorem dX5_weightOf_19 : decode cX5_weightOf 19 = .ok (.invokestatic 55, 3) := by decide +kernel
theorem dX5_weightOf_22 : decode cX5_weightOf 22 = .ok (.iaload, 1) := by decide +kernel
theorem dX5_weightOf_23 : decode cX5_weightOf 23 = .ok (.isub, 1) := by decide +kernel
theorem dX5_weightOf_24 : decode cX5_weightOf 24 = .ok (.ireturn, 1) := by decide +kernel
theorem dX5_weightOf_25 : decode cX5_weightOf 25 = .ok (.iconst 0, 1) := by decide +kernel
theorem dX5_weightOf_26 : decode cX5_weightOf 26 = .ok (.istore 4, 2) := by decide +kernel
theorem dX5_weightOf_28 : decode cX5_weightOf 28 = .ok (.iconst 1, 1) := by decide +kernel
theorem dX5_weightOf_29 : decode cX5_weightOf 29 = .ok (.istore 5, 2) := by decide +kernel
theorem dX5_weightOf_31 : decode cX5_weightOf 31 = .ok (.iload 5, 2) := by decide +kernel
theorem dX5_weightOf_33 : decode cX5_weightOf 33 = .ok (.iload_n 3, 1) := by decide +kernel
theorem dX5_weightOf_34 : decode cX5_weightOf 34 = .ok (.if_icmp .ge 32, 3) := by decide +kernel
theorem dX5_weightOf_37 : decode cX5_weightOf 37 = .ok (.iload 4, 2) := by decide +kernel
theorem dX5_weightOf_39 : decode cX5_weightOf 39 = .ok (.aload_n 0, 1) := by decide +kernel
theorem dX5_weightOf_40 : decode cX5_weightOf 40 = .ok (.lload_n 1, 1) := by decide +kernel
theorem dX5_weightOf_41 : decode cX5_weightOf 41 = .ok (.iload 5, 2) := by decide +kernel
theorem dX5_weightOf_43 : decode cX5_weightOf 43 = .ok (.iconst 1, 1) := by decide +kernel
theorem dX5_weightOf_44 : decode cX5_weightOf 44 = .ok (.isub, 1) := by decide +kernel
theorem dX5_weightOf_45 : decode cX5_weightOf 45 = .ok (.invokestatic 55, 3) := by decide +kernel
theorem dX5_weightOf_48 : decode cX5_weightOf 48 = .ok (.lload_n 1, 1) := by decide +kernel
theorem dX5_weightOf_49 : decode cX5_weightOf 49 = .ok (.iload 5, 2) := by decide +kernel
theorem dX5_weightOf_51 : decode cX5_weightOf 51 = .ok (.invokestatic 55, 3) := by decide +kernel
theorem dX5_weightOf_54 : decode cX5_weightOf 54 = .ok (.invokevirtual 78, 3) := by decide +kernel
theorem dX5_weightOf_57 : decode cX5_weightOf 57 = .ok (.iadd, 1) := by decide +kernel
theorem dX5_weightOf_58 : decode cX5_weightOf 58 = .ok (.istore 4, 2) := by decide +kernel
theorem dX5_weightOf_60 : decode cX5_weightOf 60 = .ok (.iinc 5 1, 3) := by decide +kernel
theorem dX5_weightOf_63 : decode cX5_weightOf 63 = .ok (.goto (-32), 3) := by decide +kernel
theorem dX5_weightOf_66 : decode cX5_weightOf 66 = .ok (.iload 4, 2) := by decide +kernel
theorem dX5_weightOf_68 : decode cX5_weightOf 68 = .ok (.iload_n 3, 1) := by decide +kernel
theorem dX5_weightOf_69 : decode cX5_weightOf 69 = .ok (.iconst 1, 1) := by decide +kernel
theorem dX5_weightOf_70 : decode cX5_weightOf 70 = .ok (.isub, 1) := by decide +kernel
theorem dX5_weightOf_71 : decode cX5_weightOf 71 = .ok (.idiv, 1) := by decide +kernel
theorem dX5_weightOf_72 : decode cX5_weightOf 72 = .ok (.ireturn, 1) := by decide +kernel
set_option maxRecDepth 20000 in
theorem ggX5_weight_X5_isNumber : GoodIn wsX5_weight wsX5_isNumber := goodIn_r _ [7, 8, 33, 34, 35, 36, 37, 38, 39, 40, 41, 42, 43, 44, 45, 46, 47, 48, 49, 50, 51, 52] (by decide +kernel) (by decide +kernel)
set_option maxRecDepth 20000 in
theorem gX5_weight_X5_isNumber : GoodIn wsX5_weight (wsV RX5 71 RX5 yX5_isNumber wsX5_isNumber) := goodIn_app (goodIn_of _ (by decide +kernel)) ggX5_weight_X5_isNumber
set_option maxRecDepth 20000 in
theorem ggX5_weight_X5_weightOf : GoodIn wsX5_weight wsX5_weightOf := goodIn_r _ [12, 13, 14, 15, 6, 16, 17, 18, 19, 20, 21, 22, 23, 24, 25, 26, 27, 28, 33, 34, 35, 36, 37, 38, 39, 40, 41, 42, 43, 44, 45, 46, 47, 48, 49, 50, 51, 52] (by decide +kernel) (by decide +kernel)
set_option maxRecDepth 20000 in
theorem gX5_weight_X5_weightOf : GoodIn wsX5_weight (wsV RX5 81 RX5 yX5_weightOf wsX5_weightOf) := goodIn_app (goodIn_of _ (by decide +kernel)) ggX5_weight_X5_weightOf
set_option maxRecDepth 20000 in
theorem ggX5_weight_X5_fail : GoodIn wsX5_weight wsX5_fail := goodIn_r _ [32, 1, 33, 34, 35, 36, 37, 38, 39, 40, 41, 42, 43, 44, 45, 46, 47, 48, 49, 50, 51, 52] (by decide +kernel) (by decide +kernel)
set_option maxRecDepth 20000 in
theorem gX5_weight_X5_fail : GoodIn wsX5_weight (wsV RX5 67 RX5 yX5_fail wsX5_fail) := goodIn_app (goodIn_of _ (by decide +kernel)) ggX5_weight_X5_fail
theorem dX5_weight_0 : decode cX5_weight 0 = .ok (.aload_n 0, 1) := by decide +kernel
theorem dX5_weight_1 : decode cX5_weight 1 = .ok (.iconst 0, 1) := by decide +kernel
theorem dX5_weight_2 : decode cX5_weight 2 = .ok (.putfield 43, 3) := by decide +kernel
theorem dX5_weight_5 : decode cX5_weight 5 = .ok (.aload_n 0, 1) := by decide +kernel
theorem dX5_weight_6 : decode cX5_weight 6 = .ok (.iload_n 1, 1) := by decide +kernel
theorem dX5_weight_7 : decode cX5_weight 7 = .ok (.invokevirtual 71, 3) := by decide +kernel
theorem dX5_weight_10 : decode cX5_weight 10 = .ok (.ifCond .eq 16, 3) := by decide +kernel
theorem dX5_weight_13 : decode cX5_weight 13 = .ok (.aload_n 0, 1) := by decide +kernel
theorem dX5_weight_14 : decode cX5_weight 14 = .ok (.aload_n 0, 1) := by decide +kernel
theorem dX5_weight_15 : decode cX5_weight 15 = .ok (.getfield 9, 3) := by decide +kernel
theorem dX5_weight_18 : decode cX5_weight 18 = .ok (.iload_n 1, 1) := by decide +kernel
theorem dX5_weight_19 : decode cX5_weight 19 = .ok (.laload, 1) := by decide +kernel
theorem dX5_weight_20 : decode cX5_weight 20 = .ok (.invokevirtual 81, 3) := by decide +kernel
theorem dX5_weight_23 : decode cX5_weight 23 = .ok (.goto 8, 3) := by decide +kernel
theorem dX5_weight_26 : decode cX5_weight 26 = .ok (.aload_n 0, 1) := by decide +kernel
theorem dX5_weight_27 : decode cX5_weight 27 = .ok (.iconst 1, 1) := by decide +kernel
theorem dX5_weight_28 : decode cX5_weight 28 = .ok (.invokevirtual 67, 3) := by decide +kernel
theorem dX5_weight_31 : decode cX5_weight 31 = .ok (.ireturn, 1) := by decide +kernel
set_option maxRecDepth 20000 in
theorem ggX5_nearTo_J0_indexOf_0f7a4 : GoodIn wsX5_nearTo wsJ0_indexOf_0f7a4 := goodIn_r _ [9, 10, 11, 12, 8, 13, 14, 15, 16, 17, 18, 19, 20, 21, 22, 23, 24, 25, 26, 27, 28, 29, 30, 31, 32, 33, 34, 3, 35, 36, 37, 38, 39, 40, 41, 42, 43, 44, 45, 46, 47, 48, 49, 50, 51, 52, 53, 54, 55, 56, 57, 58, 59, 60, 61, 62, 63, 64, 65, 66, 67, 68, 69, 70, 71, 72, 73, 74, 75, 76, 77, 78, 79, 80, 81, 82, 83, 84, 85, 86, 87, 88, 89, 90, 91, 92] (by decide +kernel) (by decide +kernel)
set_option maxRecDepth 20000 in
theorem gX5_nearTo_J0_indexOf_0f7a4 : GoodIn wsX5_nearTo (wsV RX5 86 RJ0 yJ0_indexOf_0f7a4 wsJ0_indexOf_0f7a4) := goodIn_app (goodIn_of _ (by decide +kernel)) ggX5_nearTo_J0_indexOf_0f7a4
theorem dX5_nearTo_0 : decode cX5_nearTo 0 = .ok (.ldc 84, 2) := by decide +kernel
theorem dX5_nearTo_2 : decode cX5_nearTo 2 = .ok (.bipush 97, 2) := by decide +kernel
theorem dX5_nearTo_4 : decode cX5_nearTo 4 = .ok (.iload_n 0, 1) := by decide +kernel
theorem dX5_nearTo_5 : decode cX5_nearTo 5 = .ok (.iadd, 1) := by decide +kernel
theorem dX5_nearTo_6 : decode cX5_nearTo 6 = .ok (.invokevirtual 86, 3) := by decide +kernel
theorem dX5_nearTo_9 : decode cX5_nearTo 9 = .ok (.istore_n 2, 1) := by decide +kernel
theorem dX5_nearTo_10 : decode cX5_nearTo 10 = .ok (.ldc 84, 2) := by decide +kernel
theorem dX5_nearTo_12 : decode cX5_nearTo 12 = .ok (.bipush 97, 2) := by decide +kernel
theorem dX5_nearTo_14 : decode cX5_nearTo 14 = .ok (.iload_n 1, 1) := by decide +kernel
theorem dX5_nearTo_15 : decode cX5_nearTo 15 = .ok (.iadd, 1) := by decide +kernel
theorem dX5_nearTo_16 : decode cX5_nearTo 16 = .ok (.invokevirtual 86, 3) := by decide +kernel
theorem dX5_nearTo_19 : decode cX5_nearTo 19 = .ok (.istore_n 3, 1) := by decide +kernel
theorem dX5_nearTo_20 : decode cX5_nearTo 20 = .ok (.iload_n 2, 1) := by decide +kernel
theorem dX5_nearTo_21 : decode cX5_nearTo 21 = .ok (.bipush 11, 2) := by decide +kernel
theorem dX5_nearTo_23 : decode cX5_nearTo 23 = .ok (.idiv, 1) := by decide +kernel
theorem dX5_nearTo_24 : decode cX5_nearTo 24 = .ok (.iload_n 3, 1) := by decide +kernel
theorem dX5_nearTo_25 : decode cX5_nearTo 25 = .ok (.bipush 11, 2) := by decide +kernel
theorem dX5_nearTo_27 : decode cX5_nearTo 27 = .ok (.idiv, 1) := by decide +kernel
theorem dX5_nearTo_28 : decode cX5_nearTo 28 = .ok (.isub, 1) := by decide +kernel
theorem dX5_nearTo_29 : decode cX5_nearTo 29 = .ok (.invokestatic 91, 3) := by decide +kernel
theorem dX5_nearTo_32 : decode cX5_nearTo 32 = .ok (.istore 4, 2) := by decide +kernel
theorem dX5_nearTo_34 : decode cX5_nearTo 34 = .ok (.iload_n 2, 1) := by decide +kernel
theorem dX5_nearTo_35 : decode cX5_nearTo 35 = .ok (.bipush 11, 2) := by decide +kernel
theorem dX5_nearTo_37 : decode cX5_nearTo 37 = .ok (.irem, 1) := by decide +kernel
theorem dX5_nearTo_38 : decode cX5_nearTo 38 = .ok (.iload_n 3, 1) := by decide +kernel
theorem dX5_nearTo_39 : decode cX5_nearTo 39 = .ok (.bipush 11, 2) := by decide +kernel
theorem dX5_nearTo_41 : decode cX5_nearTo 41 = .ok (.irem, 1) := by decide +kernel
theorem dX5_nearTo_42 : decode cX5_nearTo 42 = .ok (.isub, 1) := by decide +kernel
theorem dX5_nearTo_43 : decode cX5_nearTo 43 = .ok (.invokestatic 91, 3) := by decide +kernel
theorem dX5_nearTo_46 : decode cX5_nearTo 46 = .ok (.istore 5, 2) := by decide +kernel
theorem dX5_nearTo_48 : decode cX5_nearTo 48 = .ok (.iload 4, 2) := by decide +kernel
theorem dX5_nearTo_50 : decode cX5_nearTo 50 = .ok (.ifCond .ne 17, 3) := by decide +kernel
theorem dX5_nearTo_53 : decode cX5_nearTo 53 = .ok (.iload 5, 2) := by decide +kernel
theorem dX5_nearTo_55 : decode cX5_nearTo 55 = .ok (.iconst 1, 1) := by decide +kernel
theorem dX5_nearTo_56 : decode cX5_nearTo 56 = .ok (.if_icmp .ne 7, 3) := by decide +kernel
theorem dX5_nearTo_59 : decode cX5_nearTo 59 = .ok (.iconst 1, 1) := by decide +kernel
theorem dX5_nearTo_60 : decode cX5_nearTo 60 = .ok (.goto 24, 3) := by decide +kernel
theorem dX5_nearTo_63 : decode cX5_nearTo 63 = .ok (.iconst 0, 1) := by decide +kernel
theorem dX5_nearTo_64 : decode cX5_nearTo 64 = .ok (.goto 20, 3) := by decide +kernel
theorem dX5_nearTo_67 : decode cX5_nearTo 67 = .ok (.iload 4, 2) := by decide +kernel
theorem dX5_nearTo_69 : decode cX5_nearTo 69 = .ok (.iconst 1, 1) := by decide +kernel
theorem dX5_nearTo_70 : decode cX5_nearTo 70 = .ok (.if_icmp .ne 13, 3) := by decide +kernel
theorem dX5_nearTo_73 : decode cX5_nearTo 73 = .ok (.iload 5, 2) := by decide +kernel
theorem dX5_nearTo_75 : decode cX5_nearTo 75 = .ok (.iconst 1, 1) := by decide +kernel
theorem dX5_nearTo_76 : decode cX5_nearTo 76 = .ok (.if_icmp .gt 7, 3) := by decide +kernel
theorem dX5_nearTo_79 : decode cX5_nearTo 79 = .ok (.iconst 1, 1) := by decide +kernel
theorem dX5_nearTo_80 : decode cX5_nearTo 80 = .ok (.goto 4, 3) := by decide +kernel
theorem dX5_nearTo_83 : decode cX5_nearTo 83 = .ok (.iconst 0, 1) := by decide +kernel
theorem dX5_nearTo_84 : decode cX5_nearTo 84 = .ok (.ireturn, 1) := by decide +kernel
set_option maxRecDepth 20000 in
theorem ggX5_areNeighbours_X5_isKey : GoodIn wsX5_areNeighbours wsX5_isKey := goodIn_r _ [5] (by decide +kernel) (by decide +kernel)
set_option maxRecDepth 20000 in
theorem gX5_areNeighbours_X5_isKey : GoodIn wsX5_areNeighbours (va_wsS RX5 59 yX5_isKey wsX5_isKey) := goodIn_app (goodIn_of _ (by decide +kernel)) ggX5_areNeighbours_X5_isKey
set_option maxRecDepth 20000 in
theorem ggX5_areNeighbours_X5_nearTo : GoodIn wsX5_areNeighbours wsX5_nearTo := goodIn_r _ [8, 9, 10, 11, 12, 13, 14, 15, 16, 17, 18, 19, 20, 21, 22, 23, 24, 25, 26, 27, 28, 29, 30, 31, 32, 33, 34, 35, 36, 37, 38, 39, 40, 41, 42, 43, 44, 45, 46, 47, 48, 49, 50, 51, 52, 53, 54, 55, 56, 57, 58, 59, 60, 61, 62, 63, 64, 65, 66, 67, 68, 69, 70, 71, 72, 73, 74, 75, 76, 77, 78, 79, 80, 81, 82, 83, 84, 85, 86, 87, 88, 89, 90, 91, 92, 93, 94, 95, 96, 97, 98, 99, 100] (by decide +kernel) (by decide +kernel)
set_option maxRecDepth 20000 in
theorem gX5_areNeighbours_X5_nearTo : GoodIn wsX5_areNeighbours (va_wsS RX5 96 yX5_nearTo wsX5_nearTo) := goodIn_app (goodIn_of _ (by decide +kernel)) ggX5_areNeighbours_X5_nearTo
theorem dX5_areNeighbours_0 : decode cX5_areNeighbours 0 = .ok (.aload_n 0, 1) := by decide +kernel
theorem dX5_areNeighbours_1 : decode cX5_areNeighbours 1 = .ok (.iload_n 1, 1) := by decide +kernel
theorem dX5_areNeighbours_2 : decode cX5_areNeighbours 2 = .ok (.invokestatic 59, 3) := by decide +kernel
theorem dX5_areNeighbours_5 : decode cX5_areNeighbours 5 = .ok (.ifCond .eq 14, 3) := by decide +kernel
theorem dX5_areNeighbours_8 : decode cX5_areNeighbours 8 = .ok (.iload_n 2, 1) := by decide +kernel
theorem dX5_areNeighbours_9 : decode cX5_areNeighbours 9 = .ok (.invokestatic 59, 3) := by decide +kernel
theorem dX5_areNeighbours_12 : decode cX5_areNeighbours 12 = .ok (.ifCond .eq 7, 3) := by decide +kernel
theorem dX5_areNeighbours_15 : decode cX5_areNeighbours 15 = .ok (.iconst 0, 1) := by decide +kernel
theorem dX5_areNeighbours_16 : decode cX5_areNeighbours 16 = .ok (.goto 4, 3) := by decide +kernel
theorem dX5_areNeighbours_19 : decode cX5_areNeighbours 19 = .ok (.iconst 1, 1) := by decide +kernel
theorem dX5_areNeighbours_20 : decode cX5_areNeighbours 20 = .ok (.putfield 43, 3) := by decide +kernel
theorem dX5_areNeighbours_23 : decode cX5_areNeighbours 23 = .ok (.aload_n 0, 1) := by decide +kernel
theorem dX5_areNeighbours_24 : decode cX5_areNeighbours 24 = .ok (.getfield 43, 3) := by decide +kernel
theorem dX5_areNeighbours_27 : decode cX5_areNeighbours 27 = .ok (.ifCond .ne 15, 3) := by decide +kernel
theorem dX5_areNeighbours_30 : decode cX5_areNeighbours 30 = .ok (.iload_n 1, 1) := by decide +kernel
theorem dX5_areNeighbours_31 : decode cX5_areNeighbours 31 = .ok (.iload_n 2, 1) := by decide +kernel
theorem dX5_areNeighbours_32 : decode cX5_areNeighbours 32 = .ok (.invokestatic 96, 3) := by decide +kernel
theorem dX5_areNeighbours_35 : decode cX5_areNeighbours 35 = .ok (.ifCond .eq 7, 3) := by decide +kernel
theorem dX5_areNeighbours_38 : decode cX5_areNeighbours 38 = .ok (.iconst 1, 1) := by decide +kernel
theorem dX5_areNeighbours_39 : decode cX5_areNeighbours 39 = .ok (.goto 4, 3) := by decide +kernel
theorem dX5_areNeighbours_42 : decode cX5_areNeighbours 42 = .ok (.iconst 0, 1) := by decide +kernel
theorem dX5_areNeighbours_43 : decode cX5_areNeighbours 43 = .ok (.ireturn, 1) := by decide +kernel
set_option maxRecDepth 20000 in
theorem ggX5_put_X5_size : GoodIn wsX5_put wsX5_size := goodIn_r _ [10] (by decide +kernel) (by decide +kernel)
set_option maxRecDepth 20000 in
theorem gX5_put_X5_size : GoodIn wsX5_put (va_wsS RX5 49 yX5_size wsX5_size) := goodIn_app (goodIn_of _ (by decide +kernel)) ggX5_put_X5_size
set_option maxRecDepth 20000 in
theorem ggX5_put_X5_letter : GoodIn wsX5_put wsX5_letter := goodIn_r _ [13, 14, 7, 8, 9, 10] (by decide +kernel) (by decide +kernel)
set_option maxRecDepth 20000 in
theorem gX5_put_X5_letter : GoodIn wsX5_put (va_wsS RX5 55 yX5_letter wsX5_letter) := goodIn_app (goodIn_of _ (by decide +kernel)) ggX5_put_X5_letter
theorem dX5_put_0 : decode cX5_put 0 = .ok (.aload_n 0, 1) := by decide +kernel
theorem dX5_put_1 : decode cX5_put 1 = .ok (.getfield 26, 3) := by decide +kernel
theorem dX5_put_4 : decode cX5_put 4 = .ok (.aload_n 0, 1) := by decide +kernel
theorem dX5_put_5 : decode cX5_put 5 = .ok (.getfield 100, 3) := by decide +kernel
theorem dX5_put_8 : decode cX5_put 8 = .ok (.iload_n 1, 1) := by decide +kernel
theorem dX5_put_9 : decode cX5_put 9 = .ok (.iastore, 1) := by decide +kernel
theorem dX5_put_10 : decode cX5_put 10 = .ok (.aload_n 0, 1) := by decide +kernel
theorem dX5_put_11 : decode cX5_put 11 = .ok (.dup, 1) := by decide +kernel
theorem dX5_put_12 : decode cX5_put 12 = .ok (.getfield 100, 3) := by decide +kernel
theorem dX5_put_15 : decode cX5_put 15 = .ok (.iconst 1, 1) := by decide +kernel
theorem dX5_put_16 : decode cX5_put 16 = .ok (.iadd, 1) := by decide +kernel
theorem dX5_put_17 : decode cX5_put 17 = .ok (.putfield 100, 3) := by decide +kernel
theorem dX5_put_20 : decode cX5_put 20 = .ok (.iconst 0, 1) := by decide +kernel
theorem dX5_put_21 : decode cX5_put 21 = .ok (.istore_n 2, 1) := by decide +kernel
theorem dX5_put_22 : decode cX5_put 22 = .ok (.iload_n 2, 1) := by decide +kernel
theorem dX5_put_23 : decode cX5_put 23 = .ok (.aload_n 0, 1) := by decide +kernel
theorem dX5_put_24 : decode cX5_put 24 = .ok (.getfield 9, 3) := by decide +kernel
theorem dX5_put_27 : decode cX5_put 27 = .ok (.iload_n 1, 1) := by decide +kernel
theorem dX5_put_28 : decode cX5_put 28 = .ok (.laload, 1) := by decide +kernel
theorem dX5_put_29 : decode cX5_put 29 = .ok (.invokestatic 49, 3) := by decide +kernel
theorem dX5_put_32 : decode cX5_put 32 = .ok (.if_icmp .ge 56, 3) := by decide +kernel
theorem dX5_put_35 : decode cX5_put 35 = .ok (.aload_n 0, 1) := by decide +kernel
theorem dX5_put_36 : decode cX5_put 36 = .ok (.getfield 29, 3) := by decide +kernel
theorem dX5_put_39 : decode cX5_put 39 = .ok (.aload_n 0, 1) := by decide +kernel
theorem dX5_put_40 : decode cX5_put 40 = .ok (.getfield 103, 3) := by decide +kernel
theorem dX5_put_43 : decode cX5_put 43 = .ok (.aload_n 0, 1) := by decide +kernel
theorem dX5_put_44 : decode cX5_put 44 = .ok (.getfield 9, 3) := by decide +kernel
theorem dX5_put_47 : decode cX5_put 47 = .ok (.iload_n 1, 1) := by decide +kernel
theorem dX5_put_48 : decode cX5_put 48 = .ok (.laload, 1) := by decide +kernel
theorem dX5_put_49 : decode cX5_put 49 = .ok (.iload_n 2, 1) := by decide +kernel
theorem dX5_put_50 : decode cX5_put 50 = .ok (.invokestatic 55, 3) := by decide +kernel
theorem dX5_put_53 : decode cX5_put 53 = .ok (.iastore, 1) := by decide +kernel
theorem dX5_put_54 : decode cX5_put 54 = .ok (.aload_n 0, 1) := by decide +kernel
theorem dX5_put_55 : decode cX5_put 55 = .ok (.getfield 32, 3) := by decide +kernel
theorem dX5_put_58 : decode cX5_put 58 = .ok (.aload_n 0, 1) := by decide +kernel
theorem dX5_put_59 : decode cX5_put 59 = .ok (.getfield 103, 3) := by decide +kernel
theorem dX5_put_62 : decode cX5_put 62 = .ok (.iload_n 2, 1) := by decide +kernel
theorem dX5_put_63 : decode cX5_put 63 = .ok (.ifCond .ne 7, 3) := by decide +kernel
theorem dX5_put_66 : decode cX5_put 66 = .ok (.iconst 1, 1) := by decide +kernel
theorem dX5_put_67 : decode cX5_put 67 = .ok (.goto 4, 3) := by decide +kernel
theorem dX5_put_70 : decode cX5_put 70 = .ok (.iconst 0, 1) := by decide +kernel
theorem dX5_put_71 : decode cX5_put 71 = .ok (.bastore, 1) := by decide +kernel
theorem dX5_put_72 : decode cX5_put 72 = .ok (.aload_n 0, 1) := by decide +kernel
theorem dX5_put_73 : decode cX5_put 73 = .ok (.dup, 1) := by decide +kernel
theorem dX5_put_74 : decode cX5_put 74 = .ok (.getfield 103, 3) := by decide +kernel
theorem dX5_put_77 : decode cX5_put 77 = .ok (.iconst 1, 1) := by decide +kernel
theorem dX5_put_78 : decode cX5_put 78 = .ok (.iadd, 1) := by decide +kernel
theorem dX5_put_79 : decode cX5_put 79 = .ok (.putfield 103, 3) := by decide +kernel
theorem dX5_put_82 : decode cX5_put 82 = .ok (.iinc 2 1, 3) := by decide +kernel
theorem dX5_put_85 : decode cX5_put 85 = .ok (.goto (-63), 3) := by decide +kernel
theorem dX5_put_88 : decode cX5_put 88 = .ok (.return_, 1) := by decide +kernel
theorem dX5_begin_0 : decode cX5_begin 0 = .ok (.aload_n 0, 1) := by decide +kernel
theorem dX5_begin_1 : decode cX5_begin 1 = .ok (.iconst 1, 1) := by decide +kernel
theorem dX5_begin_2 : decode cX5_begin 2 = .ok (.putfield 106, 3) := by decide +kernel
theorem dX5_begin_5 : decode cX5_begin 5 = .ok (.aload_n 0, 1) := by decide +kernel
theorem dX5_begin_6 : decode cX5_begin 6 = .ok (.iconst 0, 1) := by decide +kernel
theorem dX5_begin_7 : decode cX5_begin 7 = .ok (.putfield 100, 3) := by decide +kernel
theorem dX5_begin_10 : decode cX5_begin 10 = .ok (.aload_n 0, 1) := by decide +kernel
theorem dX5_begin_11 : decode cX5_begin 11 = .ok (.iconst 0, 1) := by decide +kernel
theorem dX5_begin_12 : decode cX5_begin 12 = .ok (.putfield 103, 3) := by decide +kernel
theorem dX5_begin_15 : decode cX5_begin 15 = .ok (.aload_n 0, 1) := by decide +kernel
theorem dX5_begin_16 : decode cX5_begin 16 = .ok (.iconst 0, 1) := by decide +kernel
theorem dX5_begin_17 : decode cX5_begin 17 = .ok (.putfield 110, 3) := by decide +kernel
theorem dX5_begin_20 : decode cX5_begin 20 = .ok (.aload_n 0, 1) := by decide +kernel
theorem dX5_begin_21 : decode cX5_begin 21 = .ok (.iconst 0, 1) := by decide +kernel
theorem dX5_begin_22 : decode cX5_begin 22 = .ok (.putfield 113, 3) := by decide +kernel
theorem dX5_begin_25 : decode cX5_begin 25 = .ok (.aload_n 0, 1) := by decide +kernel
theorem dX5_begin_26 : decode cX5_begin 26 = .ok (.iconst 0, 1) := by decide +kernel
theorem dX5_begin_27 : decode cX5_begin 27 = .ok (.putfield 116, 3) := by decide +kernel
theorem dX5_begin_30 : decode cX5_begin 30 = .ok (.aload_n 0, 1) := by decide +kernel
theorem dX5_begin_31 : decode cX5_begin 31 = .ok (.iconst 0, 1) := by decide +kernel
theorem dX5_begin_32 : decode cX5_begin 32 = .ok (.putfield 119, 3) := by decide +kernel
theorem dX5_begin_35 : decode cX5_begin 35 = .ok (.return_, 1) := by decide +kernel
theorem dX5_hasPair_0 : decode cX5_hasPair 0 = .ok (.iconst 0, 1) := by decide +kernel
theorem dX5_hasPair_1 : decode cX5_hasPair 1 = .ok (.istore_n 3, 1) := by decide +kernel
theorem dX5_hasPair_2 : decode cX5_hasPair 2 = .ok (.iconst 1, 1) := by decide +kernel
theorem dX5_hasPair_3 : decode cX5_hasPair 3 = .ok (.istore 4, 2) := by decide +kernel
theorem dX5_hasPair_5 : decode cX5_hasPair 5 = .ok (.iload 4, 2) := by decide +kernel
theorem dX5_hasPair_7 : decode cX5_hasPair 7 = .ok (.aload_n 0, 1) := by decide +kernel
theorem dX5_hasPair_8 : decode cX5_hasPair 8 = .ok (.getfield 103, 3) := by decide +kernel
theorem dX5_hasPair_11 : decode cX5_hasPair 11 = .ok (.if_icmp .ge 53, 3) := by decide +kernel
theorem dX5_hasPair_14 : decode cX5_hasPair 14 = .ok (.iload_n 3, 1) := by decide +kernel
theorem dX5_hasPair_15 : decode cX5_hasPair 15 = .ok (.ifCond .ne 37, 3) := by decide +kernel
theorem dX5_hasPair_18 : decode cX5_hasPair 18 = .ok (.aload_n 0, 1) := by decide +kernel
theorem dX5_hasPair_19 : decode cX5_hasPair 19 = .ok (.getfield 32, 3) := by decide +kernel
theorem dX5_hasPair_22 : decode cX5_hasPair 22 = .ok (.iload 4, 2) := by decide +kernel
theorem dX5_hasPair_24 : decode cX5_hasPair 24 = .ok (.baload, 1) := by decide +kernel
theorem dX5_hasPair_25 : decode cX5_hasPair 25 = .ok (.ifCond .ne 31, 3) := by decide +kernel
theorem dX5_hasPair_28 : decode cX5_hasPair 28 = .ok (.aload_n 0, 1) := by decide +kernel
theorem dX5_hasPair_29 : decode cX5_hasPair 29 = .ok (.getfield 29, 3) := by decide +kernel
theorem dX5_hasPair_32 : decode cX5_hasPair 32 = .ok (.iload 4, 2) := by decide +kernel
theorem dX5_hasPair_34 : decode cX5_hasPair 34 = .ok (.iconst 1, 1) := by decide +kernel
theorem dX5_hasPair_35 : decode cX5_hasPair 35 = .ok (.isub, 1) := by decide +kernel
theorem dX5_hasPair_36 : decode cX5_hasPair 36 = .ok (.iaload, 1) := by decide +kernel
theorem dX5_hasPair_37 : decode cX5_hasPair 37 = .ok (.iload_n 1, 1) := by decide +kernel
theorem dX5_hasPair_38 : decode cX5_hasPair 38 = .ok (.if_icmp .ne 18, 3) := by decide +kernel
theorem dX5_hasPair_41 : decode cX5_hasPair 41 = .ok (.aload_n 0, 1) := by decide +kernel
theorem dX5_hasPair_42 : decode cX5_hasPair 42 = .ok (.getfield 29, 3) := by decide +kernel
theorem dX5_hasPair_45 : decode cX5_hasPair 45 = .ok (.iload 4, 2) := by decide +kernel
theorem dX5_hasPair_47 : decode cX5_hasPair 47 = .ok (.iaload, 1) := by decide +kernel
theorem dX5_hasPair_48 : decode cX5_hasPair 48 = .ok (.iload_n 2, 1) := by decide +kernel
theorem dX5_hasPair_49 : decode cX5_hasPair 49 = .ok (.if_icmp .ne 7, 3) := by decide +kernel
theorem dX5_hasPair_52 : decode cX5_hasPair 52 = .ok (.iconst 1, 1) := by decide +kernel
theorem dX5_hasPair_53 : decode cX5_hasPair 53 = .ok (.goto 4, 3) := by decide +kernel
theorem dX5_hasPair_56 : decode cX5_hasPair 56 = .ok (.iconst 0, 1) := by decide +kernel
theorem dX5_hasPair_57 : decode cX5_hasPair 57 = .ok (.istore_n 3, 1) := by decide +kernel
theorem dX5_hasPair_58 : decode cX5_hasPair 58 = .ok (.iinc 4 1, 3) := by decide +kernel
theorem dX5_hasPair_61 : decode cX5_hasPair 61 = .ok (.goto (-56), 3) := by decide +kernel
theorem dX5_hasPair_64 : decode cX5_hasPair 64 = .ok (.iload_n 3, 1) := by decide +kernel
theorem dX5_hasPair_65 : decode cX5_hasPair 65 = .ok (.ireturn, 1) := by decide +kernel
theorem dX5_isChosen_0 : decode cX5_isChosen 0 = .ok (.iconst 0, 1) := by decide +kernel
theorem dX5_isChosen_1 : decode cX5_isChosen 1 = .ok (.istore_n 2, 1) := by decide +kernel
theorem dX5_isChosen_2 : decode cX5_isChosen 2 = .ok (.iconst 0, 1) := by decide +kernel
theorem dX5_isChosen_3 : decode cX5_isChosen 3 = .ok (.istore_n 3, 1) := by decide +kernel
theorem dX5_isChosen_4 : decode cX5_isChosen 4 = .ok (.iload_n 3, 1) := by decide +kernel
theorem dX5_isChosen_5 : decode cX5_isChosen 5 = .ok (.aload_n 0, 1) := by decide +kernel
theorem dX5_isChosen_6 : decode cX5_isChosen 6 = .ok (.getfield 100, 3) := by decide +kernel
theorem dX5_isChosen_9 : decode cX5_isChosen 9 = .ok (.if_icmp .ge 29, 3) := by decide +kernel
theorem dX5_isChosen_12 : decode cX5_isChosen 12 = .ok (.iload_n 2, 1) := by decide +kernel
theorem dX5_isChosen_13 : decode cX5_isChosen 13 = .ok (.ifCond .ne 13, 3) := by decide +kernel
theorem dX5_isChosen_16 : decode cX5_isChosen 16 = .ok (.aload_n 0, 1) := by decide +kernel
theorem dX5_isChosen_17 : decode cX5_isChosen 17 = .ok (.getfield 26, 3) := by decide +kernel
theorem dX5_isChosen_20 : decode cX5_isChosen 20 = .ok (.iload_n 3, 1) := by decide +kernel
theorem dX5_isChosen_21 : decode cX5_isChosen 21 = .ok (.iaload, 1) := by decide +kernel
theorem dX5_isChosen_22 : decode cX5_isChosen 22 = .ok (.iload_n 1, 1) := by decide +kernel
theorem dX5_isChosen_23 : decode cX5_isChosen 23 = .ok (.if_icmp .ne 7, 3) := by decide +kernel
theorem dX5_isChosen_26 : decode cX5_isChosen 26 = .ok (.iconst 1, 1) := by decide +kernel
theorem dX5_isChosen_27 : decode cX5_isChosen 27 = .ok (.goto 4, 3) := by decide +kernel
theorem dX5_isChosen_30 : decode cX5_isChosen 30 = .ok (.iconst 0, 1) := by decide +kernel
theorem dX5_isChosen_31 : decode cX5_isChosen 31 = .ok (.istore_n 2, 1) := by decide +kernel
theorem dX5_isChosen_32 : decode cX5_isChosen 32 = .ok (.iinc 3 1, 3) := by decide +kernel
theorem dX5_isChosen_35 : decode cX5_isChosen 35 = .ok (.goto (-31), 3) := by decide +kernel
theorem dX5_isChosen_38 : decode cX5_isChosen 38 = .ok (.iload_n 2, 1) := by decide +kernel
theorem dX5_isChosen_39 : decode cX5_isChosen 39 = .ok (.ireturn, 1) := by decide +kernel
set_option maxRecDepth 20000 in
theorem ggX5_open_X5_fail : GoodIn wsX5_open wsX5_fail := goodIn_r _ [10, 1, 55, 56, 57, 58, 59, 60, 61, 62, 63, 64, 65, 66, 67, 68, 69, 70, 71, 72, 73, 74] (by decide +kernel) (by decide +kernel)
set_option maxRecDepth 20000 in
theorem gX5_open_X5_fail : GoodIn wsX5_open (wsV RX5 67 RX5 yX5_fail wsX5_fail) := goodIn_app (goodIn_of _ (by decide +kernel)) ggX5_open_X5_fail
set_option maxRecDepth 20000 in
theorem ggX5_open_X5_begin : GoodIn wsX5_open wsX5_begin := goodIn_r _ [14, 2, 4, 15, 16, 17, 18, 19, 55, 56, 57, 58, 59, 60, 61, 62, 63, 64, 65, 66, 67, 68, 69, 70, 71, 72, 73, 74] (by decide +kernel) (by decide +kernel)
set_option maxRecDepth 20000 in
theorem gX5_open_X5_begin : GoodIn wsX5_open (wsV RX5 122 RX5 yX5_begin wsX5_begin) := goodIn_app (goodIn_of _ (by decide +kernel)) ggX5_open_X5_begin
set_option maxRecDepth 20000 in
theorem ggX5_open_X5_isChosen : GoodIn wsX5_open wsX5_isChosen := goodIn_r _ [23, 4, 24, 55, 56, 57, 58, 59, 60, 61, 62, 63, 64, 65, 66, 67, 68, 69, 70, 71, 72, 73, 74] (by decide +kernel) (by decide +kernel)
set_option maxRecDepth 20000 in
theorem gX5_open_X5_isChosen : GoodIn wsX5_open (wsV RX5 125 RX5 yX5_isChosen wsX5_isChosen) := goodIn_app (goodIn_of _ (by decide +kernel)) ggX5_open_X5_isChosen
set_option maxRecDepth 20000 in
theorem ggX5_open_X5_weightOf : GoodIn wsX5_open wsX5_weightOf := goodIn_r _ [28, 29, 30, 31, 9, 32, 33, 34, 35, 36, 37, 38, 39, 40, 41, 42, 43, 44, 55, 56, 57, 58, 59, 60, 61, 62, 63, 64, 65, 66, 67, 68, 69, 70, 71, 72, 73, 74] (by decide +kernel) (by decide +kernel)
set_option maxRecDepth 20000 in
theorem gX5_open_X5_weightOf : GoodIn wsX5_open (wsV RX5 81 RX5 yX5_weightOf wsX5_weightOf) := goodIn_app (goodIn_of _ (by decide +kernel)) ggX5_open_X5_weightOf
set_option maxRecDepth 20000 in
theorem ggX5_open_X5_size : GoodIn wsX5_open wsX5_size := goodIn_r _ [32] (by decide +kernel) (by decide +kernel)
set_option maxRecDepth 20000 in
theorem gX5_open_X5_size : GoodIn wsX5_open (va_wsS RX5 49 yX5_size wsX5_size) := goodIn_app (goodIn_of _ (by decide +kernel)) ggX5_open_X5_size
set_option maxRecDepth 20000 in
theorem ggX5_open_X5_letter : GoodIn wsX5_open wsX5_letter := goodIn_r _ [35, 36, 30, 31, 9, 32] (by decide +kernel) (by decide +kernel)
set_option maxRecDepth 20000 in
theorem gX5_open_X5_letter : GoodIn wsX5_open (va_wsS RX5 55 yX5_letter wsX5_letter) := goodIn_app (goodIn_of _ (by decide +kernel)) ggX5_open_X5_letter
set_option maxRecDepth 20000 in
theorem ggX5_open_X5_hasPair : GoodIn wsX5_open wsX5_hasPair := goodIn_r _ [48, 15, 49, 50, 55, 56, 57, 58, 59, 60, 61, 62, 63, 64, 65, 66, 67, 68, 69, 70, 71, 72, 73, 74] (by decide +kernel) (by decide +kernel)
set_option maxRecDepth 20000 in
theorem gX5_open_X5_hasPair : GoodIn wsX5_open (wsV RX5 128 RX5 yX5_hasPair wsX5_hasPair) := goodIn_app (goodIn_of _ (by decide +kernel)) ggX5_open_X5_hasPair
set_option maxRecDepth 20000 in
theorem ggX5_open_X5_put : GoodIn wsX5_open wsX5_put := goodIn_r _ [54, 24, 4, 5, 50, 15, 49, 30, 31, 9, 32, 33, 34, 35, 36, 55, 56, 57, 58, 59, 60, 61, 62, 63, 64, 65, 66, 67, 68, 69, 70, 71, 72, 73, 74] (by decide +kernel) (by decide +kernel)
set_option maxRecDepth 20000 in
theorem gX5_open_X5_put : GoodIn wsX5_open (wsV RX5 131 RX5 yX5_put wsX5_put) := goodIn_app (goodIn_of _ (by decide +kernel)) ggX5_open_X5_put
theorem dX5_open_0 : decode cX5_open 0 = .ok (.aload_n 0, 1) := by decide +kernel
theorem dX5_open_1 : decode cX5_open 1 = .ok (.iconst 0, 1) := by decide +kernel
theorem dX5_open_2 : decode cX5_open 2 = .ok (.putfield 43, 3) := by decide +kernel
theorem dX5_open_5 : decode cX5_open 5 = .ok (.iload_n 1, 1) := by decide +kernel
theorem dX5_open_6 : decode cX5_open 6 = .ok (.iconst 1, 1) := by decide +kernel
theorem dX5_open_7 : decode cX5_open 7 = .ok (.if_icmp .lt 9, 3) := by decide +kernel
theorem dX5_open_10 : decode cX5_open 10 = .ok (.iload_n 1, 1) := by decide +kernel
theorem dX5_open_11 : decode cX5_open 11 = .ok (.bipush 6, 2) := by decide +kernel
theorem dX5_open_13 : decode cX5_open 13 = .ok (.if_icmp .le 9, 3) := by decide +kernel
theorem dX5_open_16 : decode cX5_open 16 = .ok (.aload_n 0, 1) := by decide +kernel
theorem dX5_open_17 : decode cX5_open 17 = .ok (.iconst 1, 1) := by decide +kernel
theorem dX5_open_18 : decode cX5_open 18 = .ok (.invokevirtual 67, 3) := by decide +kernel
theorem dX5_open_21 : decode cX5_open 21 = .ok (.ireturn, 1) := by decide +kernel
theorem dX5_open_22 : decode cX5_open 22 = .ok (.aload_n 0, 1) := by decide +kernel
theorem dX5_open_23 : decode cX5_open 23 = .ok (.getfield 106, 3) := by decide +kernel
theorem dX5_open_26 : decode cX5_open 26 = .ok (.ifCond .ne 10, 3) := by decide +kernel
theorem dX5_open_29 : decode cX5_open 29 = .ok (.aload_n 0, 1) := by decide +kernel
theorem dX5_open_30 : decode cX5_open 30 = .ok (.getfield 46, 3) := by decide +kernel
theorem dX5_open_33 : decode cX5_open 33 = .ok (.ifCond .ne 9, 3) := by decide +kernel
theorem dX5_open_36 : decode cX5_open 36 = .ok (.aload_n 0, 1) := by decide +kernel
theorem dX5_open_37 : decode cX5_open 37 = .ok (.iconst 2, 1) := by decide +kernel
theorem dX5_open_38 : decode cX5_open 38 = .ok (.invokevirtual 67, 3) := by decide +kernel
theorem dX5_open_41 : decode cX5_open 41 = .ok (.ireturn, 1) := by decide +kernel
theorem dX5_open_42 : decode cX5_open 42 = .ok (.aload_n 0, 1) := by decide +kernel
theorem dX5_open_43 : decode cX5_open 43 = .ok (.invokevirtual 122, 3) := by decide +kernel
theorem dX5_open_46 : decode cX5_open 46 = .ok (.iconst 0, 1) := by decide +kernel
theorem dX5_open_47 : decode cX5_open 47 = .ok (.istore_n 2, 1) := by decide +kernel
theorem dX5_open_48 : decode cX5_open 48 = .ok (.iload_n 2, 1) := by decide +kernel
theorem dX5_open_49 : decode cX5_open 49 = .ok (.iload_n 1, 1) := by decide +kernel
theorem dX5_open_50 : decode cX5_open 50 = .ok (.if_icmp .ge 164, 3) := by decide +kernel
theorem dX5_open_53 : decode cX5_open 53 = .ok (.aload_n 0, 1) := by decide +kernel
theorem dX5_open_54 : decode cX5_open 54 = .ok (.getfield 100, 3) := by decide +kernel
theorem dX5_open_57 : decode cX5_open 57 = .ok (.aload_n 0, 1) := by decide +kernel
theorem dX5_open_58 : decode cX5_open 58 = .ok (.getfield 46, 3) := by decide +kernel
theorem dX5_open_61 : decode cX5_open 61 = .ok (.if_icmp .ge 153, 3) := by decide +kernel
theorem dX5_open_64 : decode cX5_open 64 = .ok (.iconst (-1), 1) := by decide +kernel
theorem dX5_open_65 : decode cX5_open 65 = .ok (.istore_n 3, 1) := by decide +kernel
theorem dX5_open_66 : decode cX5_open 66 = .ok (.iconst 0, 1) := by decide +kernel
theorem dX5_open_67 : decode cX5_open 67 = .ok (.istore 4, 2) := by decide +kernel
theorem dX5_open_69 : decode cX5_open 69 = .ok (.iconst 0, 1) := by decide +kernel
theorem dX5_open_70 : decode cX5_open 70 = .ok (.istore 5, 2) := by decide +kernel
theorem dX5_open_72 : decode cX5_open 72 = .ok (.iload 5, 2) := by decide +kernel
theorem dX5_open_74 : decode cX5_open 74 = .ok (.aload_n 0, 1) := by decide +kernel
theorem dX5_open_75 : decode cX5_open 75 = .ok (.getfield 46, 3) := by decide +kernel
theorem dX5_open_78 : decode cX5_open 78 = .ok (.if_icmp .ge 125, 3) := by decide +kernel
theorem dX5_open_81 : decode cX5_open 81 = .ok (.aload_n 0, 1) := by decide +kernel
theorem dX5_open_82 : decode cX5_open 82 = .ok (.iload 5, 2) := by decide +kernel
theorem dX5_open_84 : decode cX5_open 84 = .ok (.invokevirtual 125, 3) := by decide +kernel
theorem dX5_open_87 : decode cX5_open 87 = .ok (.ifCond .eq 6, 3) := by decide +kernel
theorem dX5_open_90 : decode cX5_open 90 = .ok (.goto 107, 3) := by decide +kernel
theorem dX5_open_93 : decode cX5_open 93 = .ok (.aload_n 0, 1) := by decide +kernel
theorem dX5_open_94 : decode cX5_open 94 = .ok (.aload_n 0, 1) := by decide +kernel
theorem dX5_open_95 : decode cX5_open 95 = .ok (.getfield 9, 3) := by decide +kernel
theorem dX5_open_98 : decode cX5_open 98 = .ok (.iload 5, 2) := by decide +kernel
theorem dX5_open_100 : decode cX5_open 100 = .ok (.laload, 1) := by decide +kernel
theorem dX5_open_101 : decode cX5_open 101 = .ok (.invokevirtual 81, 3) := by decide +kernel
theorem dX5_open_104 : decode cX5_open 104 = .ok (.istore 6, 2) := by decide +kernel
theorem dX5_open_106 : decode cX5_open 106 = .ok (.iconst 1, 1) := by decide +kernel
theorem dX5_open_107 : decode cX5_open 107 = .ok (.istore 7, 2) := by decide +kernel
theorem dX5_open_109 : decode cX5_open 109 = .ok (.iload 7, 2) := by decide +kernel
theorem dX5_open_111 : decode cX5_open 111 = .ok (.aload_n 0, 1) := by decide +kernel
theorem dX5_open_112 : decode cX5_open 112 = .ok (.getfield 9, 3) := by decide +kernel
theorem dX5_open_115 : decode cX5_open 115 = .ok (.iload 5, 2) := by decide +kernel
theorem dX5_open_117 : decode cX5_open 117 = .ok (.laload, 1) := by decide +kernel
theorem dX5_open_118 : decode cX5_open 118 = .ok (.invokestatic 49, 3) := by decide +kernel
theorem dX5_open_121 : decode cX5_open 121 = .ok (.if_icmp .ge 54, 3) := by decide +kernel
theorem dX5_open_124 : decode cX5_open 124 = .ok (.iload 6, 2) := by decide +kernel
theorem dX5_open_126 : decode cX5_open 126 = .ok (.aload_n 0, 1) := by decide +kernel
theorem dX5_open_127 : decode cX5_open 127 = .ok (.aload_n 0, 1) := by decide +kernel
theorem dX5_open_128 : decode cX5_open 128 = .ok (.getfield 9, 3) := by decide +kernel
theorem dX5_open_131 : decode cX5_open 131 = .ok (.iload 5, 2) := by decide +kernel
theorem dX5_open_133 : decode cX5_open 133 = .ok (.laload, 1) := by decide +kernel
theorem dX5_open_134 : decode cX5_open 134 = .ok (.iload 7, 2) := by decide +kernel
theorem dX5_open_136 : decode cX5_open 136 = .ok (.iconst 1, 1) := by decide +kernel
theorem dX5_open_137 : decode cX5_open 137 = .ok (.isub, 1) := by decide +kernel
theorem dX5_open_138 : decode cX5_open 138 = .ok (.invokestatic 55, 3) := by decide +kernel
theorem dX5_open_141 : decode cX5_open 141 = .ok (.aload_n 0, 1) := by decide +kernel
theorem dX5_open_142 : decode cX5_open 142 = .ok (.getfield 9, 3) := by decide +kernel
theorem dX5_open_145 : decode cX5_open 145 = .ok (.iload 5, 2) := by decide +kernel
theorem dX5_open_147 : decode cX5_open 147 = .ok (.laload, 1) := by decide +kernel
theorem dX5_open_148 : decode cX5_open 148 = .ok (.iload 7, 2) := by decide +kernel
theorem dX5_open_150 : decode cX5_open 150 = .ok (.invokestatic 55, 3) := by decide +kernel
theorem dX5_open_153 : decode cX5_open 153 = .ok (.invokevirtual 128, 3) := by decide +kernel
theorem dX5_open_156 : decode cX5_open 156 = .ok (.ifCond .eq 9, 3) := by decide +kernel
theorem dX5_open_159 : decode cX5_open 159 = .ok (.sipush 150, 3) := by decide +kernel
theorem dX5_open_162 : decode cX5_open 162 = .ok (.goto 4, 3) := by decide +kernel
theorem dX5_open_165 : decode cX5_open 165 = .ok (.iconst 0, 1) := by decide +kernel
theorem dX5_open_166 : decode cX5_open 166 = .ok (.isub, 1) := by decide +kernel
theorem dX5_open_167 : decode cX5_open 167 = .ok (.istore 6, 2) := by decide +kernel
theorem dX5_open_169 : decode cX5_open 169 = .ok (.iinc 7 1, 3) := by decide +kernel
theorem dX5_open_172 : decode cX5_open 172 = .ok (.goto (-63), 3) := by decide +kernel
theorem dX5_open_175 : decode cX5_open 175 = .ok (.iload_n 3, 1) := by decide +kernel
theorem dX5_open_176 : decode cX5_open 176 = .ok (.iconst (-1), 1) := by decide +kernel
theorem dX5_open_177 : decode cX5_open 177 = .ok (.if_icmp .eq 13, 3) := by decide +kernel
theorem dX5_open_180 : decode cX5_open 180 = .ok (.iload 6, 2) := by decide +kernel
theorem dX5_open_182 : decode cX5_open 182 = .ok (.iload 4, 2) := by decide +kernel
theorem dX5_open_184 : decode cX5_open 184 = .ok (.if_icmp .gt 6, 3) := by decide +kernel
theorem dX5_open_187 : decode cX5_open 187 = .ok (.goto 10, 3) := by decide +kernel
theorem dX5_open_190 : decode cX5_open 190 = .ok (.iload 5, 2) := by decide +kernel
theorem dX5_open_192 : decode cX5_open 192 = .ok (.istore_n 3, 1) := by decide +kernel
theorem dX5_open_193 : decode cX5_open 193 = .ok (.iload 6, 2) := by decide +kernel
theorem dX5_open_195 : decode cX5_open 195 = .ok (.istore 4, 2) := by decide +kernel
theorem dX5_open_197 : decode cX5_open 197 = .ok (.iinc 5 1, 3) := by decide +kernel
theorem dX5_open_200 : decode cX5_open 200 = .ok (.goto (-128), 3) := by decide +kernel
theorem dX5_open_203 : decode cX5_open 203 = .ok (.aload_n 0, 1) := by decide +kernel
theorem dX5_open_204 : decode cX5_open 204 = .ok (.iload_n 3, 1) := by decide +kernel
theorem dX5_open_205 : decode cX5_open 205 = .ok (.invokevirtual 131, 3) := by decide +kernel
theorem dX5_open_208 : decode cX5_open 208 = .ok (.iinc 2 1, 3) := by decide +kernel
theorem dX5_open_211 : decode cX5_open 211 = .ok (.goto (-163), 3) := by decide +kernel
theorem dX5_open_214 : decode cX5_open 214 = .ok (.aload_n 0, 1) := by decide +kernel
theorem dX5_open_215 : decode cX5_open 215 = .ok (.getfield 100, 3) := by decide +kernel
theorem dX5_open_218 : decode cX5_open 218 = .ok (.ireturn, 1) := by decide +kernel
set_option maxRecDepth 20000 in
theorem ggX5_openWord_X5_isNumber : GoodIn wsX5_openWord wsX5_isNumber := goodIn_r _ [8, 9, 38, 39, 40, 41, 42, 43, 44, 45, 46, 47, 48, 49, 50, 51, 52, 53, 54, 55, 56, 57] (by decide +kernel) (by decide +kernel)
set_option maxRecDepth 20000 in
theorem gX5_openWord_X5_isNumber : GoodIn wsX5_openWord (wsV RX5 71 RX5 yX5_isNumber wsX5_isNumber) := goodIn_app (goodIn_of _ (by decide +kernel)) ggX5_openWord_X5_isNumber
set_option maxRecDepth 20000 in
theorem ggX5_openWord_X5_fail : GoodIn wsX5_openWord wsX5_fail := goodIn_r _ [13, 1, 38, 39, 40, 41, 42, 43, 44, 45, 46, 47, 48, 49, 50, 51, 52, 53, 54, 55, 56, 57] (by decide +kernel) (by decide +kernel)
set_option maxRecDepth 20000 in
theorem gX5_openWord_X5_fail : GoodIn wsX5_openWord (wsV RX5 67 RX5 yX5_fail wsX5_fail) := goodIn_app (goodIn_of _ (by decide +kernel)) ggX5_openWord_X5_fail
set_option maxRecDepth 20000 in
theorem ggX5_openWord_X5_begin : GoodIn wsX5_openWord wsX5_begin := goodIn_r _ [17, 2, 18, 3, 19, 20, 21, 22, 38, 39, 40, 41, 42, 43, 44, 45, 46, 47, 48, 49, 50, 51, 52, 53, 54, 55, 56, 57] (by decide +kernel) (by decide +kernel)
set_option maxRecDepth 20000 in
theorem gX5_openWord_X5_begin : GoodIn wsX5_openWord (wsV RX5 122 RX5 yX5_begin wsX5_begin) := goodIn_app (goodIn_of _ (by decide +kernel)) ggX5_openWord_X5_begin
set_option maxRecDepth 20000 in
theorem ggX5_openWord_X5_put : GoodIn wsX5_openWord wsX5_put := goodIn_r _ [26, 27, 18, 28, 29, 3, 30, 31, 32, 7, 33, 34, 35, 36, 37, 38, 39, 40, 41, 42, 43, 44, 45, 46, 47, 48, 49, 50, 51, 52, 53, 54, 55, 56, 57] (by decide +kernel) (by decide +kernel)
set_option maxRecDepth 20000 in
theorem gX5_openWord_X5_put : GoodIn wsX5_openWord (wsV RX5 131 RX5 yX5_put wsX5_put) := goodIn_app (goodIn_of _ (by decide +kernel)) ggX5_openWord_X5_put
theorem dX5_openWord_0 : decode cX5_openWord 0 = .ok (.aload_n 0, 1) := by decide +kernel
theorem dX5_openWord_1 : decode cX5_openWord 1 = .ok (.iconst 0, 1) := by decide +kernel
theorem dX5_openWord_2 : decode cX5_openWord 2 = .ok (.putfield 43, 3) := by decide +kernel
theorem dX5_openWord_5 : decode cX5_openWord 5 = .ok (.aload_n 0, 1) := by decide +kernel
theorem dX5_openWord_6 : decode cX5_openWord 6 = .ok (.iload_n 1, 1) := by decide +kernel
theorem dX5_openWord_7 : decode cX5_openWord 7 = .ok (.invokevirtual 71, 3) := by decide +kernel
theorem dX5_openWord_10 : decode cX5_openWord 10 = .ok (.ifCond .ne 9, 3) := by decide +kernel
theorem dX5_openWord_13 : decode cX5_openWord 13 = .ok (.aload_n 0, 1) := by decide +kernel
theorem dX5_openWord_14 : decode cX5_openWord 14 = .ok (.iconst 1, 1) := by decide +kernel
theorem dX5_openWord_15 : decode cX5_openWord 15 = .ok (.invokevirtual 67, 3) := by decide +kernel
theorem dX5_openWord_18 : decode cX5_openWord 18 = .ok (.ireturn, 1) := by decide +kernel
theorem dX5_openWord_19 : decode cX5_openWord 19 = .ok (.aload_n 0, 1) := by decide +kernel
theorem dX5_openWord_20 : decode cX5_openWord 20 = .ok (.getfield 106, 3) := by decide +kernel
theorem dX5_openWord_23 : decode cX5_openWord 23 = .ok (.ifCond .eq 9, 3) := by decide +kernel
theorem dX5_openWord_26 : decode cX5_openWord 26 = .ok (.aload_n 0, 1) := by decide +kernel
theorem dX5_openWord_27 : decode cX5_openWord 27 = .ok (.iconst 2, 1) := by decide +kernel
theorem dX5_openWord_28 : decode cX5_openWord 28 = .ok (.invokevirtual 67, 3) := by decide +kernel
theorem dX5_openWord_31 : decode cX5_openWord 31 = .ok (.ireturn, 1) := by decide +kernel
theorem dX5_openWord_32 : decode cX5_openWord 32 = .ok (.aload_n 0, 1) := by decide +kernel
theorem dX5_openWord_33 : decode cX5_openWord 33 = .ok (.invokevirtual 122, 3) := by decide +kernel
theorem dX5_openWord_36 : decode cX5_openWord 36 = .ok (.aload_n 0, 1) := by decide +kernel
theorem dX5_openWord_37 : decode cX5_openWord 37 = .ok (.iload_n 1, 1) := by decide +kernel
theorem dX5_openWord_38 : decode cX5_openWord 38 = .ok (.invokevirtual 131, 3) := by decide +kernel
theorem dX5_openWord_41 : decode cX5_openWord 41 = .ok (.aload_n 0, 1) := by decide +kernel
theorem dX5_openWord_42 : decode cX5_openWord 42 = .ok (.getfield 103, 3) := by decide +kernel
theorem dX5_openWord_45 : decode cX5_openWord 45 = .ok (.ireturn, 1) := by decide +kernel
set_option maxRecDepth 20000 in
theorem ggX5_giveUp_X5_fail : GoodIn wsX5_giveUp wsX5_fail := goodIn_r _ [9, 1, 10, 11, 12, 13, 14, 15, 16, 17, 18, 19, 20, 21, 22, 23, 24, 25, 26, 27, 28, 29] (by decide +kernel) (by decide +kernel)
set_option maxRecDepth 20000 in
theorem gX5_giveUp_X5_fail : GoodIn wsX5_giveUp (wsV RX5 67 RX5 yX5_fail wsX5_fail) := goodIn_app (goodIn_of _ (by decide +kernel)) ggX5_giveUp_X5_fail
theorem dX5_giveUp_0 : decode cX5_giveUp 0 = .ok (.aload_n 0, 1) := by decide +kernel
theorem dX5_giveUp_1 : decode cX5_giveUp 1 = .ok (.iconst 0, 1) := by decide +kernel
theorem dX5_giveUp_2 : decode cX5_giveUp 2 = .ok (.putfield 43, 3) := by decide +kernel
theorem dX5_giveUp_5 : decode cX5_giveUp 5 = .ok (.aload_n 0, 1) := by decide +kernel
theorem dX5_giveUp_6 : decode cX5_giveUp 6 = .ok (.getfield 106, 3) := by decide +kernel
theorem dX5_giveUp_9 : decode cX5_giveUp 9 = .ok (.ifCond .ne 9, 3) := by decide +kernel
theorem dX5_giveUp_12 : decode cX5_giveUp 12 = .ok (.aload_n 0, 1) := by decide +kernel
theorem dX5_giveUp_13 : decode cX5_giveUp 13 = .ok (.iconst 1, 1) := by decide +kernel
theorem dX5_giveUp_14 : decode cX5_giveUp 14 = .ok (.invokevirtual 67, 3) := by decide +kernel
theorem dX5_giveUp_17 : decode cX5_giveUp 17 = .ok (.ireturn, 1) := by decide +kernel
theorem dX5_giveUp_18 : decode cX5_giveUp 18 = .ok (.aload_n 0, 1) := by decide +kernel
theorem dX5_giveUp_19 : decode cX5_giveUp 19 = .ok (.iconst 0, 1) := by decide +kernel
theorem dX5_giveUp_20 : decode cX5_giveUp 20 = .ok (.putfield 106, 3) := by decide +kernel
theorem dX5_giveUp_23 : decode cX5_giveUp 23 = .ok (.aload_n 0, 1) := by decide +kernel
theorem dX5_giveUp_24 : decode cX5_giveUp 24 = .ok (.getfield 103, 3) := by decide +kernel
theorem dX5_giveUp_27 : decode cX5_giveUp 27 = .ok (.aload_n 0, 1) := by decide +kernel
theorem dX5_giveUp_28 : decode cX5_giveUp 28 = .ok (.getfield 110, 3) := by decide +kernel
theorem dX5_giveUp_31 : decode cX5_giveUp 31 = .ok (.isub, 1) := by decide +kernel
theorem dX5_giveUp_32 : decode cX5_giveUp 32 = .ok (.ireturn, 1) := by decide +kernel
theorem dX5_isOpen_0 : decode cX5_isOpen 0 = .ok (.aload_n 0, 1) := by decide +kernel
theorem dX5_isOpen_1 : decode cX5_isOpen 1 = .ok (.iconst 0, 1) := by decide +kernel
theorem dX5_isOpen_2 : decode cX5_isOpen 2 = .ok (.putfield 43, 3) := by decide +kernel
theorem dX5_isOpen_5 : decode cX5_isOpen 5 = .ok (.aload_n 0, 1) := by decide +kernel
theorem dX5_isOpen_6 : decode cX5_isOpen 6 = .ok (.getfield 106, 3) := by decide +kernel
theorem dX5_isOpen_9 : decode cX5_isOpen 9 = .ok (.ireturn, 1) := by decide +kernel
set_option maxRecDepth 20000 in
theorem ggX5_lessonWord_X5_fail : GoodIn wsX5_lessonWord wsX5_fail := goodIn_r _ [9, 1, 10, 11, 12, 13, 14, 15, 16, 17, 18, 19, 20, 21, 22, 23, 24, 25, 26, 27, 28, 29] (by decide +kernel) (by decide +kernel)
set_option maxRecDepth 20000 in
theorem gX5_lessonWord_X5_fail : GoodIn wsX5_lessonWord (wsV RX5 67 RX5 yX5_fail wsX5_fail) := goodIn_app (goodIn_of _ (by decide +kernel)) ggX5_lessonWord_X5_fail
theorem dX5_lessonWord_0 : decode cX5_lessonWord 0 = .ok (.aload_n 0, 1) := by decide +kernel
theorem dX5_lessonWord_1 : decode cX5_lessonWord 1 = .ok (.iconst 0, 1) := by decide +kernel
theorem dX5_lessonWord_2 : decode cX5_lessonWord 2 = .ok (.putfield 43, 3) := by decide +kernel
theorem dX5_lessonWord_5 : decode cX5_lessonWord 5 = .ok (.aload_n 0, 1) := by decide +kernel
theorem dX5_lessonWord_6 : decode cX5_lessonWord 6 = .ok (.getfield 106, 3) := by decide +kernel
theorem dX5_lessonWord_9 : decode cX5_lessonWord 9 = .ok (.ifCond .ne 9, 3) := by decide +kernel
theorem dX5_lessonWord_12 : decode cX5_lessonWord 12 = .ok (.aload_n 0, 1) := by decide +kernel
theorem dX5_lessonWord_13 : decode cX5_lessonWord 13 = .ok (.iconst 1, 1) := by decide +kernel
theorem dX5_lessonWord_14 : decode cX5_lessonWord 14 = .ok (.invokevirtual 67, 3) := by decide +kernel
theorem dX5_lessonWord_17 : decode cX5_lessonWord 17 = .ok (.ireturn, 1) := by decide +kernel
theorem dX5_lessonWord_18 : decode cX5_lessonWord 18 = .ok (.iload_n 1, 1) := by decide +kernel
theorem dX5_lessonWord_19 : decode cX5_lessonWord 19 = .ok (.ifCond .lt 20, 3) := by decide +kernel
theorem dX5_lessonWord_22 : decode cX5_lessonWord 22 = .ok (.iload_n 1, 1) := by decide +kernel
theorem dX5_lessonWord_23 : decode cX5_lessonWord 23 = .ok (.aload_n 0, 1) := by decide +kernel
theorem dX5_lessonWord_24 : decode cX5_lessonWord 24 = .ok (.getfield 100, 3) := by decide +kernel
theorem dX5_lessonWord_27 : decode cX5_lessonWord 27 = .ok (.if_icmp .ge 12, 3) := by decide +kernel
theorem dX5_lessonWord_30 : decode cX5_lessonWord 30 = .ok (.aload_n 0, 1) := by decide +kernel
theorem dX5_lessonWord_31 : decode cX5_lessonWord 31 = .ok (.getfield 26, 3) := by decide +kernel
theorem dX5_lessonWord_34 : decode cX5_lessonWord 34 = .ok (.iload_n 1, 1) := by decide +kernel
theorem dX5_lessonWord_35 : decode cX5_lessonWord 35 = .ok (.iaload, 1) := by decide +kernel
theorem dX5_lessonWord_36 : decode cX5_lessonWord 36 = .ok (.goto 8, 3) := by decide +kernel
theorem dX5_lessonWord_39 : decode cX5_lessonWord 39 = .ok (.aload_n 0, 1) := by decide +kernel
theorem dX5_lessonWord_40 : decode cX5_lessonWord 40 = .ok (.iconst 2, 1) := by decide +kernel
theorem dX5_lessonWord_41 : decode cX5_lessonWord 41 = .ok (.invokevirtual 67, 3) := by decide +kernel
theorem dX5_lessonWord_44 : decode cX5_lessonWord 44 = .ok (.ireturn, 1) := by decide +kernel
set_option maxRecDepth 20000 in
theorem ggX5_wanted_X5_fail : GoodIn wsX5_wanted wsX5_fail := goodIn_r _ [9, 1, 10, 11, 12, 13, 14, 15, 16, 17, 18, 19, 20, 21, 22, 23, 24, 25, 26, 27, 28, 29] (by decide +kernel) (by decide +kernel)
set_option maxRecDepth 20000 in
theorem gX5_wanted_X5_fail : GoodIn wsX5_wanted (wsV RX5 67 RX5 yX5_fail wsX5_fail) := goodIn_app (goodIn_of _ (by decide +kernel)) ggX5_wanted_X5_fail
theorem dX5_wanted_0 : decode cX5_wanted 0 = .ok (.aload_n 0, 1) := by decide +kernel
theorem dX5_wanted_1 : decode cX5_wanted 1 = .ok (.iconst 0, 1) := by decide +kernel
theorem dX5_wanted_2 : decode cX5_wanted 2 = .ok (.putfield 43, 3) := by decide +kernel
theorem dX5_wanted_5 : decode cX5_wanted 5 = .ok (.aload_n 0, 1) := by decide +kernel
theorem dX5_wanted_6 : decode cX5_wanted 6 = .ok (.getfield 106, 3) := by decide +kernel
theorem dX5_wanted_9 : decode cX5_wanted 9 = .ok (.ifCond .eq 15, 3) := by decide +kernel
theorem dX5_wanted_12 : decode cX5_wanted 12 = .ok (.aload_n 0, 1) := by decide +kernel
theorem dX5_wanted_13 : decode cX5_wanted 13 = .ok (.getfield 29, 3) := by decide +kernel
theorem dX5_wanted_16 : decode cX5_wanted 16 = .ok (.aload_n 0, 1) := by decide +kernel
theorem dX5_wanted_17 : decode cX5_wanted 17 = .ok (.getfield 110, 3) := by decide +kernel
theorem dX5_wanted_20 : decode cX5_wanted 20 = .ok (.iaload, 1) := by decide +kernel
theorem dX5_wanted_21 : decode cX5_wanted 21 = .ok (.goto 8, 3) := by decide +kernel
theorem dX5_wanted_24 : decode cX5_wanted 24 = .ok (.aload_n 0, 1) := by decide +kernel
theorem dX5_wanted_25 : decode cX5_wanted 25 = .ok (.iconst 1, 1) := by decide +kernel
theorem dX5_wanted_26 : decode cX5_wanted 26 = .ok (.invokevirtual 67, 3) := by decide +kernel
theorem dX5_wanted_29 : decode cX5_wanted 29 = .ok (.ireturn, 1) := by decide +kernel
set_option maxRecDepth 20000 in
theorem ggX5_done_X5_fail : GoodIn wsX5_done wsX5_fail := goodIn_r _ [8, 1, 9, 10, 11, 12, 13, 14, 15, 16, 17, 18, 19, 20, 21, 22, 23, 24, 25, 26, 27, 28] (by decide +kernel) (by decide +kernel)
set_option maxRecDepth 20000 in
theorem gX5_done_X5_fail : GoodIn wsX5_done (wsV RX5 67 RX5 yX5_fail wsX5_fail) := goodIn_app (goodIn_of _ (by decide +kernel)) ggX5_done_X5_fail
theorem dX5_done_0 : decode cX5_done 0 = .ok (.aload_n 0, 1) := by decide +kernel
theorem dX5_done_1 : decode cX5_done 1 = .ok (.iconst 0, 1) := by decide +kernel
theorem dX5_done_2 : decode cX5_done 2 = .ok (.putfield 43, 3) := by decide +kernel
theorem dX5_done_5 : decode cX5_done 5 = .ok (.aload_n 0, 1) := by decide +kernel
theorem dX5_done_6 : decode cX5_done 6 = .ok (.getfield 106, 3) := by decide +kernel
theorem dX5_done_9 : decode cX5_done 9 = .ok (.ifCond .eq 10, 3) := by decide +kernel
theorem dX5_done_12 : decode cX5_done 12 = .ok (.aload_n 0, 1) := by decide +kernel
theorem dX5_done_13 : decode cX5_done 13 = .ok (.getfield 110, 3) := by decide +kernel
theorem dX5_done_16 : decode cX5_done 16 = .ok (.goto 8, 3) := by decide +kernel
theorem dX5_done_19 : decode cX5_done 19 = .ok (.aload_n 0, 1) := by decide +kernel
theorem dX5_done_20 : decode cX5_done 20 = .ok (.iconst 1, 1) := by decide +kernel
theorem dX5_done_21 : decode cX5_done 21 = .ok (.invokevirtual 67, 3) := by decide +kernel
theorem dX5_done_24 : decode cX5_done 24 = .ok (.ireturn, 1) := by decide +kernel
set_option maxRecDepth 20000 in
theorem ggX5_kindOf_X5_nearTo : GoodIn wsX5_kindOf wsX5_nearTo := goodIn_r _ [8, 9, 10, 11, 12, 13, 14, 15, 16, 17, 18, 19, 20, 21, 22, 23, 24, 25, 26, 27, 28, 29, 30, 31, 32, 33, 34, 35, 36, 37, 38, 39, 40, 41, 42, 43, 44, 45, 46, 47, 48, 49, 50, 51, 52, 53, 54, 55, 56, 57, 58, 59, 60, 61, 62, 63, 64, 65, 66, 67, 68, 69, 70, 71, 72, 73, 74, 75, 76, 77, 78, 79, 80, 81, 82, 83, 84, 85, 86, 87, 88, 89, 90, 91, 92, 93, 94, 95, 96, 97, 98, 99, 100] (by decide +kernel) (by decide +kernel)
set_option maxRecDepth 20000 in
theorem gX5_kindOf_X5_nearTo : GoodIn wsX5_kindOf (va_wsS RX5 96 yX5_nearTo wsX5_nearTo) := goodIn_app (goodIn_of _ (by decide +kernel)) ggX5_kindOf_X5_nearTo
theorem dX5_kindOf_0 : decode cX5_kindOf 0 = .ok (.iload_n 1, 1) := by decide +kernel
theorem dX5_kindOf_1 : decode cX5_kindOf 1 = .ok (.aload_n 0, 1) := by decide +kernel
theorem dX5_kindOf_2 : decode cX5_kindOf 2 = .ok (.getfield 29, 3) := by decide +kernel
theorem dX5_kindOf_5 : decode cX5_kindOf 5 = .ok (.aload_n 0, 1) := by decide +kernel
theorem dX5_kindOf_6 : decode cX5_kindOf 6 = .ok (.getfield 110, 3) := by decide +kernel
theorem dX5_kindOf_9 : decode cX5_kindOf 9 = .ok (.iaload, 1) := by decide +kernel
theorem dX5_kindOf_10 : decode cX5_kindOf 10 = .ok (.if_icmp .ne 5, 3) := by decide +kernel
theorem dX5_kindOf_13 : decode cX5_kindOf 13 = .ok (.iconst 0, 1) := by decide +kernel
theorem dX5_kindOf_14 : decode cX5_kindOf 14 = .ok (.ireturn, 1) := by decide +kernel
theorem dX5_kindOf_15 : decode cX5_kindOf 15 = .ok (.aload_n 0, 1) := by decide +kernel
theorem dX5_kindOf_16 : decode cX5_kindOf 16 = .ok (.getfield 110, 3) := by decide +kernel
theorem dX5_kindOf_19 : decode cX5_kindOf 19 = .ok (.iconst 1, 1) := by decide +kernel
theorem dX5_kindOf_20 : decode cX5_kindOf 20 = .ok (.iadd, 1) := by decide +kernel
theorem dX5_kindOf_21 : decode cX5_kindOf 21 = .ok (.aload_n 0, 1) := by decide +kernel
theorem dX5_kindOf_22 : decode cX5_kindOf 22 = .ok (.getfield 103, 3) := by decide +kernel
theorem dX5_kindOf_25 : decode cX5_kindOf 25 = .ok (.if_icmp .ge 21, 3) := by decide +kernel
theorem dX5_kindOf_28 : decode cX5_kindOf 28 = .ok (.aload_n 0, 1) := by decide +kernel
theorem dX5_kindOf_29 : decode cX5_kindOf 29 = .ok (.getfield 32, 3) := by decide +kernel
theorem dX5_kindOf_32 : decode cX5_kindOf 32 = .ok (.aload_n 0, 1) := by decide +kernel
theorem dX5_kindOf_33 : decode cX5_kindOf 33 = .ok (.getfield 110, 3) := by decide +kernel
theorem dX5_kindOf_36 : decode cX5_kindOf 36 = .ok (.iconst 1, 1) := by decide +kernel
theorem dX5_kindOf_37 : decode cX5_kindOf 37 = .ok (.iadd, 1) := by decide +kernel
theorem dX5_kindOf_38 : decode cX5_kindOf 38 = .ok (.baload, 1) := by decide +kernel
theorem dX5_kindOf_39 : decode cX5_kindOf 39 = .ok (.ifCond .ne 7, 3) := by decide +kernel
theorem dX5_kindOf_42 : decode cX5_kindOf 42 = .ok (.iconst 1, 1) := by decide +kernel
theorem dX5_kindOf_43 : decode cX5_kindOf 43 = .ok (.goto 4, 3) := by decide +kernel
theorem dX5_kindOf_46 : decode cX5_kindOf 46 = .ok (.iconst 0, 1) := by decide +kernel
theorem dX5_kindOf_47 : decode cX5_kindOf 47 = .ok (.istore_n 2, 1) := by decide +kernel
theorem dX5_kindOf_48 : decode cX5_kindOf 48 = .ok (.iload_n 2, 1) := by decide +kernel
theorem dX5_kindOf_49 : decode cX5_kindOf 49 = .ok (.ifCond .eq 20, 3) := by decide +kernel
theorem dX5_kindOf_52 : decode cX5_kindOf 52 = .ok (.aload_n 0, 1) := by decide +kernel
theorem dX5_kindOf_53 : decode cX5_kindOf 53 = .ok (.getfield 29, 3) := by decide +kernel
theorem dX5_kindOf_56 : decode cX5_kindOf 56 = .ok (.aload_n 0, 1) := by decide +kernel
theorem dX5_kindOf_57 : decode cX5_kindOf 57 = .ok (.getfield 110, 3) := by decide +kernel
theorem dX5_kindOf_60 : decode cX5_kindOf 60 = .ok (.iconst 1, 1) := by decide +kernel
theorem dX5_kindOf_61 : decode cX5_kindOf 61 = .ok (.iadd, 1) := by decide +kernel
theorem dX5_kindOf_62 : decode cX5_kindOf 62 = .ok (.iaload, 1) := by decide +kernel
theorem dX5_kindOf_63 : decode cX5_kindOf 63 = .ok (.iload_n 1, 1) := by decide +kernel
theorem dX5_kindOf_64 : decode cX5_kindOf 64 = .ok (.if_icmp .ne 5, 3) := by decide +kernel
theorem dX5_kindOf_67 : decode cX5_kindOf 67 = .ok (.iconst 1, 1) := by decide +kernel
theorem dX5_kindOf_68 : decode cX5_kindOf 68 = .ok (.ireturn, 1) := by decide +kernel
theorem dX5_kindOf_69 : decode cX5_kindOf 69 = .ok (.aload_n 0, 1) := by decide +kernel
theorem dX5_kindOf_70 : decode cX5_kindOf 70 = .ok (.getfield 32, 3) := by decide +kernel
theorem dX5_kindOf_73 : decode cX5_kindOf 73 = .ok (.aload_n 0, 1) := by decide +kernel
theorem dX5_kindOf_74 : decode cX5_kindOf 74 = .ok (.getfield 110, 3) := by decide +kernel
theorem dX5_kindOf_77 : decode cX5_kindOf 77 = .ok (.baload, 1) := by decide +kernel
theorem dX5_kindOf_78 : decode cX5_kindOf 78 = .ok (.ifCond .ne 20, 3) := by decide +kernel
theorem dX5_kindOf_81 : decode cX5_kindOf 81 = .ok (.aload_n 0, 1) := by decide +kernel
theorem dX5_kindOf_82 : decode cX5_kindOf 82 = .ok (.getfield 29, 3) := by decide +kernel
theorem dX5_kindOf_85 : decode cX5_kindOf 85 = .ok (.aload_n 0, 1) := by decide +kernel
theorem dX5_kindOf_86 : decode cX5_kindOf 86 = .ok (.getfield 110, 3) := by decide +kernel
theorem dX5_kindOf_89 : decode cX5_kindOf 89 = .ok (.iconst 1, 1) := by decide +kernel
theorem dX5_kindOf_90 : decode cX5_kindOf 90 = .ok (.isub, 1) := by decide +kernel
theorem dX5_kindOf_91 : decode cX5_kindOf 91 = .ok (.iaload, 1) := by decide +kernel
theorem dX5_kindOf_92 : decode cX5_kindOf 92 = .ok (.iload_n 1, 1) := by decide +kernel
theorem dX5_kindOf_93 : decode cX5_kindOf 93 = .ok (.if_icmp .ne 5, 3) := by decide +kernel
theorem dX5_kindOf_96 : decode cX5_kindOf 96 = .ok (.iconst 2, 1) := by decide +kernel
theorem dX5_kindOf_97 : decode cX5_kindOf 97 = .ok (.ireturn, 1) := by decide +kernel
theorem dX5_kindOf_98 : decode cX5_kindOf 98 = .ok (.iload_n 1, 1) := by decide +kernel
theorem dX5_kindOf_99 : decode cX5_kindOf 99 = .ok (.aload_n 0, 1) := by decide +kernel
theorem dX5_kindOf_100 : decode cX5_kindOf 100 = .ok (.getfield 29, 3) := by decide +kernel
theorem dX5_kindOf_103 : decode cX5_kindOf 103 = .ok (.aload_n 0, 1) := by decide +kernel
theorem dX5_kindOf_104 : decode cX5_kindOf 104 = .ok (.getfield 110, 3) := by decide +kernel
theorem dX5_kindOf_107 : decode cX5_kindOf 107 = .ok (.iaload, 1) := by decide +kernel
theorem dX5_kindOf_108 : decode cX5_kindOf 108 = .ok (.invokestatic 96, 3) := by decide +kernel
theorem dX5_kindOf_111 : decode cX5_kindOf 111 = .ok (.ifCond .eq 7, 3) := by decide +kernel
theorem dX5_kindOf_114 : decode cX5_kindOf 114 = .ok (.iconst 3, 1) := by decide +kernel
theorem dX5_kindOf_115 : decode cX5_kindOf 115 = .ok (.goto 4, 3) := by decide +kernel
theorem dX5_kindOf_118 : decode cX5_kindOf 118 = .ok (.iconst 4, 1) := by decide +kernel
theorem dX5_kindOf_119 : decode cX5_kindOf 119 = .ok (.ireturn, 1) := by decide +kernel
theorem dX5_learn_0 : decode cX5_learn 0 = .ok (.aload_n 0, 1) := by decide +kernel
theorem dX5_learn_1 : decode cX5_learn 1 = .ok (.getfield 13, 3) := by decide +kernel
theorem dX5_learn_4 : decode cX5_learn 4 = .ok (.iload_n 1, 1) := by decide +kernel
theorem dX5_learn_5 : decode cX5_learn 5 = .ok (.dup2, 1) := by decide +kernel
theorem dX5_learn_6 : decode cX5_learn 6 = .ok (.iaload, 1) := by decide +kernel
theorem dX5_learn_7 : decode cX5_learn 7 = .ok (.iconst 1, 1) := by decide +kernel
theorem dX5_learn_8 : decode cX5_learn 8 = .ok (.iadd, 1) := by decide +kernel
theorem dX5_learn_9 : decode cX5_learn 9 = .ok (.iastore, 1) := by decide +kernel
theorem dX5_learn_10 : decode cX5_learn 10 = .ok (.aload_n 0, 1) := by decide +kernel
theorem dX5_learn_11 : decode cX5_learn 11 = .ok (.getfield 17, 3) := by decide +kernel
theorem dX5_learn_14 : decode cX5_learn 14 = .ok (.iload_n 1, 1) := by decide +kernel
theorem dX5_learn_15 : decode cX5_learn 15 = .ok (.dup2, 1) := by decide +kernel
theorem dX5_learn_16 : decode cX5_learn 16 = .ok (.iaload, 1) := by decide +kernel
theorem dX5_learn_17 : decode cX5_learn 17 = .ok (.iload_n 2, 1) := by decide +kernel
theorem dX5_learn_18 : decode cX5_learn 18 = .ok (.ifCond .eq 7, 3) := by decide +kernel
theorem dX5_learn_21 : decode cX5_learn 21 = .ok (.iconst 0, 1) := by decide +kernel
theorem dX5_learn_22 : decode cX5_learn 22 = .ok (.goto 4, 3) := by decide +kernel
theorem dX5_learn_25 : decode cX5_learn 25 = .ok (.iconst 1, 1) := by decide +kernel
theorem dX5_learn_26 : decode cX5_learn 26 = .ok (.iadd, 1) := by decide +kernel
theorem dX5_learn_27 : decode cX5_learn 27 = .ok (.iastore, 1) := by decide +kernel
theorem dX5_learn_28 : decode cX5_learn 28 = .ok (.aload_n 0, 1) := by decide +kernel
theorem dX5_learn_29 : decode cX5_learn 29 = .ok (.getfield 20, 3) := by decide +kernel
theorem dX5_learn_32 : decode cX5_learn 32 = .ok (.iload_n 1, 1) := by decide +kernel
theorem dX5_learn_33 : decode cX5_learn 33 = .ok (.dup2, 1) := by decide +kernel
theorem dX5_learn_34 : decode cX5_learn 34 = .ok (.iaload, 1) := by decide +kernel
theorem dX5_learn_35 : decode cX5_learn 35 = .ok (.iload_n 3, 1) := by decide +kernel
theorem dX5_learn_36 : decode cX5_learn 36 = .ok (.aload_n 0, 1) := by decide +kernel
theorem dX5_learn_37 : decode cX5_learn 37 = .ok (.getfield 20, 3) := by decide +kernel
theorem dX5_learn_40 : decode cX5_learn 40 = .ok (.iload_n 1, 1) := by decide +kernel
theorem dX5_learn_41 : decode cX5_learn 41 = .ok (.iaload, 1) := by decide +kernel
theorem dX5_learn_42 : decode cX5_learn 42 = .ok (.isub, 1) := by decide +kernel
theorem dX5_learn_43 : decode cX5_learn 43 = .ok (.iconst 4, 1) := by decide +kernel
theorem dX5_learn_44 : decode cX5_learn 44 = .ok (.idiv, 1) := by decide +kernel
theorem dX5_learn_45 : decode cX5_learn 45 = .ok (.iadd, 1) := by decide +kernel
theorem dX5_learn_46 : decode cX5_learn 46 = .ok (.iastore, 1) := by decide +kernel
theorem dX5_learn_47 : decode cX5_learn 47 = .ok (.return_, 1) := by decide +kernel
set_option maxRecDepth 20000 in
theorem ggX5_tryLetter_X5_learn : GoodIn wsX5_tryLetter wsX5_learn := goodIn_r _ [15, 16, 17, 18, 39, 40, 41, 42, 43, 44, 45, 46, 47, 48, 49, 50, 51, 52, 53, 54, 55, 56, 57, 58] (by decide +kernel) (by decide +kernel)
set_option maxRecDepth 20000 in
theorem gX5_tryLetter_X5_learn : GoodIn wsX5_tryLetter (wsV RX5 138 RX5 yX5_learn wsX5_learn) := goodIn_app (goodIn_of _ (by decide +kernel)) ggX5_tryLetter_X5_learn
set_option maxRecDepth 20000 in
theorem ggX5_tryLetter_X5_pairOf : GoodIn wsX5_tryLetter wsX5_pairOf := goodIn_r _ [21] (by decide +kernel) (by decide +kernel)
set_option maxRecDepth 20000 in
theorem gX5_tryLetter_X5_pairOf : GoodIn wsX5_tryLetter (va_wsS RX5 74 yX5_pairOf wsX5_pairOf) := goodIn_app (goodIn_of _ (by decide +kernel)) ggX5_tryLetter_X5_pairOf
set_option maxRecDepth 20000 in
theorem ggX5_tryLetter_X5_finish : GoodIn wsX5_tryLetter wsX5_finish := goodIn_r _ [25, 26, 27, 28, 29, 30, 31, 32, 33, 10, 9, 34, 35, 36, 37, 4, 38, 2, 3, 5, 39, 40, 41, 42, 43, 44, 45, 46, 47, 48, 49, 50, 51, 52, 53, 54, 55, 56, 57, 58] (by decide +kernel) (by decide +kernel)
set_option maxRecDepth 20000 in
theorem gX5_tryLetter_X5_finish : GoodIn wsX5_tryLetter (wsV RX5 142 RX5 yX5_finish wsX5_finish) := goodIn_app (goodIn_of _ (by decide +kernel)) ggX5_tryLetter_X5_finish
theorem dX5_tryLetter_0 : decode cX5_tryLetter 0 = .ok (.aload_n 0, 1) := by decide +kernel
theorem dX5_tryLetter_1 : decode cX5_tryLetter 1 = .ok (.getfield 113, 3) := by decide +kernel
theorem dX5_tryLetter_4 : decode cX5_tryLetter 4 = .ok (.ifCond .ne 7, 3) := by decide +kernel
theorem dX5_tryLetter_7 : decode cX5_tryLetter 7 = .ok (.iconst 1, 1) := by decide +kernel
theorem dX5_tryLetter_8 : decode cX5_tryLetter 8 = .ok (.goto 4, 3) := by decide +kernel
theorem dX5_tryLetter_11 : decode cX5_tryLetter 11 = .ok (.iconst 0, 1) := by decide +kernel
theorem dX5_tryLetter_12 : decode cX5_tryLetter 12 = .ok (.istore_n 2, 1) := by decide +kernel
theorem dX5_tryLetter_13 : decode cX5_tryLetter 13 = .ok (.iload_n 2, 1) := by decide +kernel
theorem dX5_tryLetter_14 : decode cX5_tryLetter 14 = .ok (.ifCond .eq 17, 3) := by decide +kernel
theorem dX5_tryLetter_17 : decode cX5_tryLetter 17 = .ok (.iconst 0, 1) := by decide +kernel
theorem dX5_tryLetter_18 : decode cX5_tryLetter 18 = .ok (.sipush 1000, 3) := by decide +kernel
theorem dX5_tryLetter_21 : decode cX5_tryLetter 21 = .ok (.iload_n 1, 1) := by decide +kernel
theorem dX5_tryLetter_22 : decode cX5_tryLetter 22 = .ok (.iconst 5, 1) := by decide +kernel
theorem dX5_tryLetter_23 : decode cX5_tryLetter 23 = .ok (.idiv, 1) := by decide +kernel
theorem dX5_tryLetter_24 : decode cX5_tryLetter 24 = .ok (.isub, 1) := by decide +kernel
theorem dX5_tryLetter_25 : decode cX5_tryLetter 25 = .ok (.invokestatic 135, 3) := by decide +kernel
theorem dX5_tryLetter_28 : decode cX5_tryLetter 28 = .ok (.goto 4, 3) := by decide +kernel
theorem dX5_tryLetter_31 : decode cX5_tryLetter 31 = .ok (.iconst 0, 1) := by decide +kernel
theorem dX5_tryLetter_32 : decode cX5_tryLetter 32 = .ok (.istore_n 3, 1) := by decide +kernel
theorem dX5_tryLetter_33 : decode cX5_tryLetter 33 = .ok (.aload_n 0, 1) := by decide +kernel
theorem dX5_tryLetter_34 : decode cX5_tryLetter 34 = .ok (.aload_n 0, 1) := by decide +kernel
theorem dX5_tryLetter_35 : decode cX5_tryLetter 35 = .ok (.getfield 29, 3) := by decide +kernel
theorem dX5_tryLetter_38 : decode cX5_tryLetter 38 = .ok (.aload_n 0, 1) := by decide +kernel
theorem dX5_tryLetter_39 : decode cX5_tryLetter 39 = .ok (.getfield 110, 3) := by decide +kernel
theorem dX5_tryLetter_42 : decode cX5_tryLetter 42 = .ok (.iaload, 1) := by decide +kernel
theorem dX5_tryLetter_43 : decode cX5_tryLetter 43 = .ok (.iload_n 2, 1) := by decide +kernel
theorem dX5_tryLetter_44 : decode cX5_tryLetter 44 = .ok (.iload_n 3, 1) := by decide +kernel
theorem dX5_tryLetter_45 : decode cX5_tryLetter 45 = .ok (.invokevirtual 138, 3) := by decide +kernel
theorem dX5_tryLetter_48 : decode cX5_tryLetter 48 = .ok (.aload_n 0, 1) := by decide +kernel
theorem dX5_tryLetter_49 : decode cX5_tryLetter 49 = .ok (.getfield 32, 3) := by decide +kernel
theorem dX5_tryLetter_52 : decode cX5_tryLetter 52 = .ok (.aload_n 0, 1) := by decide +kernel
theorem dX5_tryLetter_53 : decode cX5_tryLetter 53 = .ok (.getfield 110, 3) := by decide +kernel
theorem dX5_tryLetter_56 : decode cX5_tryLetter 56 = .ok (.baload, 1) := by decide +kernel
theorem dX5_tryLetter_57 : decode cX5_tryLetter 57 = .ok (.ifCond .ne 32, 3) := by decide +kernel
theorem dX5_tryLetter_60 : decode cX5_tryLetter 60 = .ok (.aload_n 0, 1) := by decide +kernel
theorem dX5_tryLetter_61 : decode cX5_tryLetter 61 = .ok (.aload_n 0, 1) := by decide +kernel
theorem dX5_tryLetter_62 : decode cX5_tryLetter 62 = .ok (.getfield 29, 3) := by decide +kernel
theorem dX5_tryLetter_65 : decode cX5_tryLetter 65 = .ok (.aload_n 0, 1) := by decide +kernel
theorem dX5_tryLetter_66 : decode cX5_tryLetter 66 = .ok (.getfield 110, 3) := by decide +kernel
theorem dX5_tryLetter_69 : decode cX5_tryLetter 69 = .ok (.iconst 1, 1) := by decide +kernel
theorem dX5_tryLetter_70 : decode cX5_tryLetter 70 = .ok (.isub, 1) := by decide +kernel
theorem dX5_tryLetter_71 : decode cX5_tryLetter 71 = .ok (.iaload, 1) := by decide +kernel
theorem dX5_tryLetter_72 : decode cX5_tryLetter 72 = .ok (.aload_n 0, 1) := by decide +kernel
theorem dX5_tryLetter_73 : decode cX5_tryLetter 73 = .ok (.getfield 29, 3) := by decide +kernel
theorem dX5_tryLetter_76 : decode cX5_tryLetter 76 = .ok (.aload_n 0, 1) := by decide +kernel
theorem dX5_tryLetter_77 : decode cX5_tryLetter 77 = .ok (.getfield 110, 3) := by decide +kernel
theorem dX5_tryLetter_80 : decode cX5_tryLetter 80 = .ok (.iaload, 1) := by decide +kernel
theorem dX5_tryLetter_81 : decode cX5_tryLetter 81 = .ok (.invokestatic 74, 3) := by decide +kernel
theorem dX5_tryLetter_84 : decode cX5_tryLetter 84 = .ok (.iload_n 2, 1) := by decide +kernel
theorem dX5_tryLetter_85 : decode cX5_tryLetter 85 = .ok (.iload_n 3, 1) := by decide +kernel
theorem dX5_tryLetter_86 : decode cX5_tryLetter 86 = .ok (.invokevirtual 138, 3) := by decide +kernel
theorem dX5_tryLetter_89 : decode cX5_tryLetter 89 = .ok (.aload_n 0, 1) := by decide +kernel
theorem dX5_tryLetter_90 : decode cX5_tryLetter 90 = .ok (.dup, 1) := by decide +kernel
theorem dX5_tryLetter_91 : decode cX5_tryLetter 91 = .ok (.getfield 116, 3) := by decide +kernel
theorem dX5_tryLetter_94 : decode cX5_tryLetter 94 = .ok (.iload_n 2, 1) := by decide +kernel
theorem dX5_tryLetter_95 : decode cX5_tryLetter 95 = .ok (.ifCond .eq 7, 3) := by decide +kernel
theorem dX5_tryLetter_98 : decode cX5_tryLetter 98 = .ok (.iconst 1, 1) := by decide +kernel
theorem dX5_tryLetter_99 : decode cX5_tryLetter 99 = .ok (.goto 4, 3) := by decide +kernel
theorem dX5_tryLetter_102 : decode cX5_tryLetter 102 = .ok (.iconst 0, 1) := by decide +kernel
theorem dX5_tryLetter_103 : decode cX5_tryLetter 103 = .ok (.iadd, 1) := by decide +kernel
theorem dX5_tryLetter_104 : decode cX5_tryLetter 104 = .ok (.putfield 116, 3) := by decide +kernel
theorem dX5_tryLetter_107 : decode cX5_tryLetter 107 = .ok (.aload_n 0, 1) := by decide +kernel
theorem dX5_tryLetter_108 : decode cX5_tryLetter 108 = .ok (.iconst 0, 1) := by decide +kernel
theorem dX5_tryLetter_109 : decode cX5_tryLetter 109 = .ok (.putfield 113, 3) := by decide +kernel
theorem dX5_tryLetter_112 : decode cX5_tryLetter 112 = .ok (.aload_n 0, 1) := by decide +kernel
theorem dX5_tryLetter_113 : decode cX5_tryLetter 113 = .ok (.dup, 1) := by decide +kernel
theorem dX5_tryLetter_114 : decode cX5_tryLetter 114 = .ok (.getfield 110, 3) := by decide +kernel
theorem dX5_tryLetter_117 : decode cX5_tryLetter 117 = .ok (.iconst 1, 1) := by decide +kernel
theorem dX5_tryLetter_118 : decode cX5_tryLetter 118 = .ok (.iadd, 1) := by decide +kernel
theorem dX5_tryLetter_119 : decode cX5_tryLetter 119 = .ok (.putfield 110, 3) := by decide +kernel
theorem dX5_tryLetter_122 : decode cX5_tryLetter 122 = .ok (.aload_n 0, 1) := by decide +kernel
theorem dX5_tryLetter_123 : decode cX5_tryLetter 123 = .ok (.getfield 110, 3) := by decide +kernel
theorem dX5_tryLetter_126 : decode cX5_tryLetter 126 = .ok (.aload_n 0, 1) := by decide +kernel
theorem dX5_tryLetter_127 : decode cX5_tryLetter 127 = .ok (.getfield 103, 3) := by decide +kernel
theorem dX5_tryLetter_130 : decode cX5_tryLetter 130 = .ok (.if_icmp .ne 7, 3) := by decide +kernel
theorem dX5_tryLetter_133 : decode cX5_tryLetter 133 = .ok (.aload_n 0, 1) := by decide +kernel
theorem dX5_tryLetter_134 : decode cX5_tryLetter 134 = .ok (.invokevirtual 142, 3) := by decide +kernel
theorem dX5_tryLetter_137 : decode cX5_tryLetter 137 = .ok (.return_, 1) := by decide +kernel
theorem dX5_finish_0 : decode cX5_finish 0 = .ok (.aload_n 0, 1) := by decide +kernel
theorem dX5_finish_1 : decode cX5_finish 1 = .ok (.iconst 0, 1) := by decide +kernel
theorem dX5_finish_2 : decode cX5_finish 2 = .ok (.putfield 106, 3) := by decide +kernel
theorem dX5_finish_5 : decode cX5_finish 5 = .ok (.iconst 3, 1) := by decide +kernel
theorem dX5_finish_6 : decode cX5_finish 6 = .ok (.aload_n 0, 1) := by decide +kernel
theorem dX5_finish_7 : decode cX5_finish 7 = .ok (.getfield 145, 3) := by decide +kernel
theorem dX5_finish_10 : decode cX5_finish 10 = .ok (.imul, 1) := by decide +kernel
theorem dX5_finish_11 : decode cX5_finish 11 = .ok (.aload_n 0, 1) := by decide +kernel
theorem dX5_finish_12 : decode cX5_finish 12 = .ok (.getfield 36, 3) := by decide +kernel
theorem dX5_finish_15 : decode cX5_finish 15 = .ok (.arraylength, 1) := by decide +kernel
theorem dX5_finish_16 : decode cX5_finish 16 = .ok (.if_icmp .ne 33, 3) := by decide +kernel
theorem dX5_finish_19 : decode cX5_finish 19 = .ok (.iconst 2, 1) := by decide +kernel
theorem dX5_finish_20 : decode cX5_finish 20 = .ok (.aload_n 0, 1) := by decide +kernel
theorem dX5_finish_21 : decode cX5_finish 21 = .ok (.getfield 36, 3) := by decide +kernel
theorem dX5_finish_24 : decode cX5_finish 24 = .ok (.arraylength, 1) := by decide +kernel
theorem dX5_finish_25 : decode cX5_finish 25 = .ok (.imul, 1) := by decide +kernel
theorem dX5_finish_26 : decode cX5_finish 26 = .ok (.newarray .int, 2) := by decide +kernel
theorem dX5_finish_28 : decode cX5_finish 28 = .ok (.astore_n 1, 1) := by decide +kernel
theorem dX5_finish_29 : decode cX5_finish 29 = .ok (.aload_n 0, 1) := by decide +kernel
theorem dX5_finish_30 : decode cX5_finish 30 = .ok (.getfield 36, 3) := by decide +kernel
theorem dX5_finish_33 : decode cX5_finish 33 = .ok (.iconst 0, 1) := by decide +kernel
theorem dX5_finish_34 : decode cX5_finish 34 = .ok (.aload_n 1, 1) := by decide +kernel
theorem dX5_finish_35 : decode cX5_finish 35 = .ok (.iconst 0, 1) := by decide +kernel
theorem dX5_finish_36 : decode cX5_finish 36 = .ok (.aload_n 0, 1) := by decide +kernel
theorem dX5_finish_37 : decode cX5_finish 37 = .ok (.getfield 36, 3) := by decide +kernel
theorem dX5_finish_40 : decode cX5_finish 40 = .ok (.arraylength, 1) := by decide +kernel
theorem dX5_finish_41 : decode cX5_finish 41 = .ok (.invokestatic 148, 3) := by decide +kernel
theorem dX5_finish_44 : decode cX5_finish 44 = .ok (.aload_n 0, 1) := by decide +kernel
theorem dX5_finish_45 : decode cX5_finish 45 = .ok (.aload_n 1, 1) := by decide +kernel
theorem dX5_finish_46 : decode cX5_finish 46 = .ok (.putfield 36, 3) := by decide +kernel
theorem dX5_finish_49 : decode cX5_finish 49 = .ok (.aload_n 0, 1) := by decide +kernel
theorem dX5_finish_50 : decode cX5_finish 50 = .ok (.getfield 36, 3) := by decide +kernel
theorem dX5_finish_53 : decode cX5_finish 53 = .ok (.iconst 3, 1) := by decide +kernel
theorem dX5_finish_54 : decode cX5_finish 54 = .ok (.aload_n 0, 1) := by decide +kernel
theorem dX5_finish_55 : decode cX5_finish 55 = .ok (.getfield 145, 3) := by decide +kernel
theorem dX5_finish_58 : decode cX5_finish 58 = .ok (.imul, 1) := by decide +kernel
theorem dX5_finish_59 : decode cX5_finish 59 = .ok (.aload_n 0, 1) := by decide +kernel
theorem dX5_finish_60 : decode cX5_finish 60 = .ok (.getfield 103, 3) := by decide +kernel
theorem dX5_finish_63 : decode cX5_finish 63 = .ok (.iastore, 1) := by decide +kernel
theorem dX5_finish_64 : decode cX5_finish 64 = .ok (.aload_n 0, 1) := by decide +kernel
theorem dX5_finish_65 : decode cX5_finish 65 = .ok (.getfield 36, 3) := by decide +kernel
theorem dX5_finish_68 : decode cX5_finish 68 = .ok (.iconst 3, 1) := by decide +kernel
theorem dX5_finish_69 : decode cX5_finish 69 = .ok (.aload_n 0, 1) := by decide +kernel
theorem dX5_finish_70 : decode cX5_finish 70 = .ok (.getfield 145, 3) := by decide +kernel
theorem dX5_finish_73 : decode cX5_finish 73 = .ok (.imul, 1) := by decide +kernel
theorem dX5_finish_74 : decode cX5_finish 74 = .ok (.iconst 1, 1) := by decide +kernel
theorem dX5_finish_75 : decode cX5_finish 75 = .ok (.iadd, 1) := by decide +kernel
theorem dX5_finish_76 : decode cX5_finish 76 = .ok (.aload_n 0, 1) := by decide +kernel
theorem dX5_finish_77 : decode cX5_finish 77 = .ok (.getfield 116, 3) := by decide +kernel
theorem dX5_finish_80 : decode cX5_finish 80 = .ok (.iastore, 1) := by decide +kernel
theorem dX5_finish_81 : decode cX5_finish 81 = .ok (.aload_n 0, 1) := by decide +kernel
theorem dX5_finish_82 : decode cX5_finish 82 = .ok (.getfield 36, 3) := by decide +kernel
theorem dX5_finish_85 : decode cX5_finish 85 = .ok (.iconst 3, 1) := by decide +kernel
theorem dX5_finish_86 : decode cX5_finish 86 = .ok (.aload_n 0, 1) := by decide +kernel
theorem dX5_finish_87 : decode cX5_finish 87 = .ok (.getfield 145, 3) := by decide +kernel
theorem dX5_finish_90 : decode cX5_finish 90 = .ok (.imul, 1) := by decide +kernel
theorem dX5_finish_91 : decode cX5_finish 91 = .ok (.iconst 2, 1) := by decide +kernel
theorem dX5_finish_92 : decode cX5_finish 92 = .ok (.iadd, 1) := by decide +kernel
theorem dX5_finish_93 : decode cX5_finish 93 = .ok (.aload_n 0, 1) := by decide +kernel
theorem dX5_finish_94 : decode cX5_finish 94 = .ok (.getfield 119, 3) := by decide +kernel
theorem dX5_finish_97 : decode cX5_finish 97 = .ok (.iastore, 1) := by decide +kernel
theorem dX5_finish_98 : decode cX5_finish 98 = .ok (.aload_n 0, 1) := by decide +kernel
theorem dX5_finish_99 : decode cX5_finish 99 = .ok (.dup, 1) := by decide +kernel
theorem dX5_finish_100 : decode cX5_finish 100 = .ok (.getfield 145, 3) := by decide +kernel
theorem dX5_finish_103 : decode cX5_finish 103 = .ok (.iconst 1, 1) := by decide +kernel
theorem dX5_finish_104 : decode cX5_finish 104 = .ok (.iadd, 1) := by decide +kernel
theorem dX5_finish_105 : decode cX5_finish 105 = .ok (.putfield 145, 3) := by decide +kernel
theorem dX5_finish_108 : decode cX5_finish 108 = .ok (.bipush 100, 2) := by decide +kernel
theorem dX5_finish_110 : decode cX5_finish 110 = .ok (.aload_n 0, 1) := by decide +kernel
theorem dX5_finish_111 : decode cX5_finish 111 = .ok (.getfield 116, 3) := by decide +kernel
theorem dX5_finish_114 : decode cX5_finish 114 = .ok (.imul, 1) := by decide +kernel
theorem dX5_finish_115 : decode cX5_finish 115 = .ok (.bipush 95, 2) := by decide +kernel
theorem dX5_finish_117 : decode cX5_finish 117 = .ok (.aload_n 0, 1) := by decide +kernel
theorem dX5_finish_118 : decode cX5_finish 118 = .ok (.getfield 103, 3) := by decide +kernel
theorem dX5_finish_121 : decode cX5_finish 121 = .ok (.imul, 1) := by decide +kernel
theorem dX5_finish_122 : decode cX5_finish 122 = .ok (.if_icmp .lt 24, 3) := by decide +kernel
theorem dX5_finish_125 : decode cX5_finish 125 = .ok (.aload_n 0, 1) := by decide +kernel
theorem dX5_finish_126 : decode cX5_finish 126 = .ok (.dup, 1) := by decide +kernel
theorem dX5_finish_127 : decode cX5_finish 127 = .ok (.getfield 39, 3) := by decide +kernel
theorem dX5_finish_130 : decode cX5_finish 130 = .ok (.aload_n 0, 1) := by decide +kernel
theorem dX5_finish_131 : decode cX5_finish 131 = .ok (.getfield 39, 3) := by decide +kernel
theorem dX5_finish_134 : decode cX5_finish 134 = .ok (.bipush 20, 2) := by decide +kernel
theorem dX5_finish_136 : decode cX5_finish 136 = .ok (.idiv, 1) := by decide +kernel
theorem dX5_finish_137 : decode cX5_finish 137 = .ok (.iconst 1, 1) := by decide +kernel
theorem dX5_finish_138 : decode cX5_finish 138 = .ok (.iadd, 1) := by decide +kernel
theorem dX5_finish_139 : decode cX5_finish 139 = .ok (.iadd, 1) := by decide +kernel
theorem dX5_finish_140 : decode cX5_finish 140 = .ok (.putfield 39, 3) := by decide +kernel
theorem dX5_finish_143 : decode cX5_finish 143 = .ok (.goto 36, 3) := by decide +kernel
theorem dX5_finish_146 : decode cX5_finish 146 = .ok (.bipush 100, 2) := by decide +kernel
theorem dX5_finish_148 : decode cX5_finish 148 = .ok (.aload_n 0, 1) := by decide +kernel
theorem dX5_finish_149 : decode cX5_finish 149 = .ok (.getfield 116, 3) := by decide +kernel
theorem dX5_finish_152 : decode cX5_finish 152 = .ok (.imul, 1) := by decide +kernel
theorem dX5_finish_153 : decode cX5_finish 153 = .ok (.bipush 85, 2) := by decide +kernel
theorem dX5_finish_155 : decode cX5_finish 155 = .ok (.aload_n 0, 1) := by decide +kernel
theorem dX5_finish_156 : decode cX5_finish 156 = .ok (.getfield 103, 3) := by decide +kernel
theorem dX5_finish_159 : decode cX5_finish 159 = .ok (.imul, 1) := by decide +kernel
theorem dX5_finish_160 : decode cX5_finish 160 = .ok (.if_icmp .ge 19, 3) := by decide +kernel
theorem dX5_finish_163 : decode cX5_finish 163 = .ok (.aload_n 0, 1) := by decide +kernel
theorem dX5_finish_164 : decode cX5_finish 164 = .ok (.dup, 1) := by decide +kernel
theorem dX5_finish_165 : decode cX5_finish 165 = .ok (.getfield 39, 3) := by decide +kernel
theorem dX5_finish_168 : decode cX5_finish 168 = .ok (.aload_n 0, 1) := by decide +kernel
theorem dX5_finish_169 : decode cX5_finish 169 = .ok (.getfield 39, 3) := by decide +kernel
theorem dX5_finish_172 : decode cX5_finish 172 = .ok (.bipush 10, 2) := by decide +kernel
theorem dX5_finish_174 : decode cX5_finish 174 = .ok (.idiv, 1) := by decide +kernel
theorem dX5_finish_175 : decode cX5_finish 175 = .ok (.isub, 1) := by decide +kernel
theorem dX5_finish_176 : decode cX5_finish 176 = .ok (.putfield 39, 3) := by decide +kernel
theorem dX5_finish_179 : decode cX5_finish 179 = .ok (.aload_n 0, 1) := by decide +kernel
theorem dX5_finish_180 : decode cX5_finish 180 = .ok (.bipush 20, 2) := by decide +kernel
theorem dX5_finish_182 : decode cX5_finish 182 = .ok (.sipush 900, 3) := by decide +kernel
theorem dX5_finish_185 : decode cX5_finish 185 = .ok (.aload_n 0, 1) := by decide +kernel
theorem dX5_finish_186 : decode cX5_finish 186 = .ok (.getfield 39, 3) := by decide +kernel
theorem dX5_finish_189 : decode cX5_finish 189 = .ok (.invokestatic 154, 3) := by decide +kernel
theorem dX5_finish_192 : decode cX5_finish 192 = .ok (.invokestatic 135, 3) := by decide +kernel
theorem dX5_finish_195 : decode cX5_finish 195 = .ok (.putfield 39, 3) := by decide +kernel
theorem dX5_finish_198 : decode cX5_finish 198 = .ok (.return_, 1) := by decide +kernel
set_option maxRecDepth 20000 in
theorem ggX5_strike_X5_isKey : GoodIn wsX5_strike wsX5_isKey := goodIn_r _ [9] (by decide +kernel) (by decide +kernel)
set_option maxRecDepth 20000 in
theorem gX5_strike_X5_isKey : GoodIn wsX5_strike (va_wsS RX5 59 yX5_isKey wsX5_isKey) := goodIn_app (goodIn_of _ (by decide +kernel)) ggX5_strike_X5_isKey
set_option maxRecDepth 20000 in
theorem ggX5_strike_X5_fail : GoodIn wsX5_strike wsX5_fail := goodIn_r _ [13, 1, 146, 147, 148, 149, 150, 151, 152, 153, 154, 155, 156, 157, 158, 159, 160, 161, 162, 163, 164, 165] (by decide +kernel) (by decide +kernel)
set_option maxRecDepth 20000 in
theorem gX5_strike_X5_fail : GoodIn wsX5_strike (wsV RX5 67 RX5 yX5_fail wsX5_fail) := goodIn_app (goodIn_of _ (by decide +kernel)) ggX5_strike_X5_fail
set_option maxRecDepth 20000 in
theorem ggX5_strike_X5_kindOf : GoodIn wsX5_strike wsX5_kindOf := goodIn_r _ [17, 18, 19, 20, 21, 22, 23, 8, 24, 25, 26, 27, 28, 29, 30, 31, 32, 33, 34, 35, 36, 37, 38, 39, 40, 41, 42, 43, 44, 45, 46, 47, 48, 49, 50, 51, 52, 53, 54, 55, 56, 57, 58, 59, 60, 61, 62, 63, 64, 65, 66, 67, 68, 69, 70, 71, 72, 73, 74, 75, 76, 77, 78, 79, 80, 81, 82, 83, 84, 85, 86, 87, 88, 89, 90, 91, 92, 93, 94, 95, 96, 97, 98, 99, 100, 101, 102, 103, 104, 105, 106, 107, 108, 109, 110, 111, 112, 113, 114, 115, 116, 146, 147, 148, 149, 150, 151, 152, 153, 154, 155, 156, 157, 158, 159, 160, 161, 162, 163, 164, 165] (by decide +kernel) (by decide +kernel)
set_option maxRecDepth 20000 in
theorem gX5_strike_X5_kindOf : GoodIn wsX5_strike (wsV RX5 157 RX5 yX5_kindOf wsX5_kindOf) := goodIn_app (goodIn_of _ (by decide +kernel)) ggX5_strike_X5_kindOf
set_option maxRecDepth 20000 in
theorem ggX5_strike_X5_tryLetter : GoodIn wsX5_strike wsX5_tryLetter := goodIn_r _ [120, 5, 121, 58, 27, 59, 18, 19, 21, 122, 20, 123, 124, 125, 8, 126, 127, 128, 129, 130, 131, 132, 133, 134, 135, 136, 2, 137, 138, 139, 140, 141, 142, 143, 3, 144, 145, 61, 62, 146, 147, 148, 149, 150, 151, 152, 153, 154, 155, 156, 157, 158, 159, 160, 161, 162, 163, 164, 165] (by decide +kernel) (by decide +kernel)
set_option maxRecDepth 20000 in
theorem gX5_strike_X5_tryLetter : GoodIn wsX5_strike (wsV RX5 160 RX5 yX5_tryLetter wsX5_tryLetter) := goodIn_app (goodIn_of _ (by decide +kernel)) ggX5_strike_X5_tryLetter
theorem dX5_strike_0 : decode cX5_strike 0 = .ok (.aload_n 0, 1) := by decide +kernel
theorem dX5_strike_1 : decode cX5_strike 1 = .ok (.iconst 0, 1) := by decide +kernel
theorem dX5_strike_2 : decode cX5_strike 2 = .ok (.putfield 43, 3) := by decide +kernel
theorem dX5_strike_5 : decode cX5_strike 5 = .ok (.iload_n 1, 1) := by decide +kernel
theorem dX5_strike_6 : decode cX5_strike 6 = .ok (.invokestatic 59, 3) := by decide +kernel
theorem dX5_strike_9 : decode cX5_strike 9 = .ok (.ifCond .ne 9, 3) := by decide +kernel
theorem dX5_strike_12 : decode cX5_strike 12 = .ok (.aload_n 0, 1) := by decide +kernel
theorem dX5_strike_13 : decode cX5_strike 13 = .ok (.iconst 1, 1) := by decide +kernel
theorem dX5_strike_14 : decode cX5_strike 14 = .ok (.invokevirtual 67, 3) := by decide +kernel
theorem dX5_strike_17 : decode cX5_strike 17 = .ok (.ireturn, 1) := by decide +kernel
theorem dX5_strike_18 : decode cX5_strike 18 = .ok (.iload_n 2, 1) := by decide +kernel
theorem dX5_strike_19 : decode cX5_strike 19 = .ok (.iconst 1, 1) := by decide +kernel
theorem dX5_strike_20 : decode cX5_strike 20 = .ok (.if_icmp .lt 10, 3) := by decide +kernel
theorem dX5_strike_23 : decode cX5_strike 23 = .ok (.iload_n 2, 1) := by decide +kernel
theorem dX5_strike_24 : decode cX5_strike 24 = .ok (.sipush 5000, 3) := by decide +kernel
theorem dX5_strike_27 : decode cX5_strike 27 = .ok (.if_icmp .le 9, 3) := by decide +kernel
theorem dX5_strike_30 : decode cX5_strike 30 = .ok (.aload_n 0, 1) := by decide +kernel
theorem dX5_strike_31 : decode cX5_strike 31 = .ok (.iconst 2, 1) := by decide +kernel
theorem dX5_strike_32 : decode cX5_strike 32 = .ok (.invokevirtual 67, 3) := by decide +kernel
theorem dX5_strike_35 : decode cX5_strike 35 = .ok (.ireturn, 1) := by decide +kernel
theorem dX5_strike_36 : decode cX5_strike 36 = .ok (.aload_n 0, 1) := by decide +kernel
theorem dX5_strike_37 : decode cX5_strike 37 = .ok (.getfield 106, 3) := by decide +kernel
theorem dX5_strike_40 : decode cX5_strike 40 = .ok (.ifCond .ne 9, 3) := by decide +kernel
theorem dX5_strike_43 : decode cX5_strike 43 = .ok (.aload_n 0, 1) := by decide +kernel
theorem dX5_strike_44 : decode cX5_strike 44 = .ok (.iconst 3, 1) := by decide +kernel
theorem dX5_strike_45 : decode cX5_strike 45 = .ok (.invokevirtual 67, 3) := by decide +kernel
theorem dX5_strike_48 : decode cX5_strike 48 = .ok (.ireturn, 1) := by decide +kernel
theorem dX5_strike_49 : decode cX5_strike 49 = .ok (.aload_n 0, 1) := by decide +kernel
theorem dX5_strike_50 : decode cX5_strike 50 = .ok (.iload_n 1, 1) := by decide +kernel
theorem dX5_strike_51 : decode cX5_strike 51 = .ok (.invokevirtual 157, 3) := by decide +kernel
theorem dX5_strike_54 : decode cX5_strike 54 = .ok (.istore_n 3, 1) := by decide +kernel
theorem dX5_strike_55 : decode cX5_strike 55 = .ok (.aload_n 0, 1) := by decide +kernel
theorem dX5_strike_56 : decode cX5_strike 56 = .ok (.dup, 1) := by decide +kernel
theorem dX5_strike_57 : decode cX5_strike 57 = .ok (.getfield 119, 3) := by decide +kernel
theorem dX5_strike_60 : decode cX5_strike 60 = .ok (.iload_n 2, 1) := by decide +kernel
theorem dX5_strike_61 : decode cX5_strike 61 = .ok (.iadd, 1) := by decide +kernel
theorem dX5_strike_62 : decode cX5_strike 62 = .ok (.putfield 119, 3) := by decide +kernel
theorem dX5_strike_65 : decode cX5_strike 65 = .ok (.aload_n 0, 1) := by decide +kernel
theorem dX5_strike_66 : decode cX5_strike 66 = .ok (.getfield 23, 3) := by decide +kernel
theorem dX5_strike_69 : decode cX5_strike 69 = .ok (.iload_n 3, 1) := by decide +kernel
theorem dX5_strike_70 : decode cX5_strike 70 = .ok (.dup2, 1) := by decide +kernel
theorem dX5_strike_71 : decode cX5_strike 71 = .ok (.iaload, 1) := by decide +kernel
theorem dX5_strike_72 : decode cX5_strike 72 = .ok (.iload_n 3, 1) := by decide +kernel
theorem dX5_strike_73 : decode cX5_strike 73 = .ok (.ifCond .ne 7, 3) := by decide +kernel
theorem dX5_strike_76 : decode cX5_strike 76 = .ok (.iconst 0, 1) := by decide +kernel
theorem dX5_strike_77 : decode cX5_strike 77 = .ok (.goto 4, 3) := by decide +kernel
theorem dX5_strike_80 : decode cX5_strike 80 = .ok (.iconst 1, 1) := by decide +kernel
theorem dX5_strike_81 : decode cX5_strike 81 = .ok (.iadd, 1) := by decide +kernel
theorem dX5_strike_82 : decode cX5_strike 82 = .ok (.iastore, 1) := by decide +kernel
theorem dX5_strike_83 : decode cX5_strike 83 = .ok (.aload_n 0, 1) := by decide +kernel
theorem dX5_strike_84 : decode cX5_strike 84 = .ok (.dup, 1) := by decide +kernel
theorem dX5_strike_85 : decode cX5_strike 85 = .ok (.getfield 113, 3) := by decide +kernel
theorem dX5_strike_88 : decode cX5_strike 88 = .ok (.iload_n 3, 1) := by decide +kernel
theorem dX5_strike_89 : decode cX5_strike 89 = .ok (.ifCond .ne 7, 3) := by decide +kernel
theorem dX5_strike_92 : decode cX5_strike 92 = .ok (.iconst 0, 1) := by decide +kernel
theorem dX5_strike_93 : decode cX5_strike 93 = .ok (.goto 4, 3) := by decide +kernel
theorem dX5_strike_96 : decode cX5_strike 96 = .ok (.iconst 1, 1) := by decide +kernel
theorem dX5_strike_97 : decode cX5_strike 97 = .ok (.iadd, 1) := by decide +kernel
theorem dX5_strike_98 : decode cX5_strike 98 = .ok (.putfield 113, 3) := by decide +kernel
theorem dX5_strike_101 : decode cX5_strike 101 = .ok (.iload_n 3, 1) := by decide +kernel
theorem dX5_strike_102 : decode cX5_strike 102 = .ok (.ifCond .eq 11, 3) := by decide +kernel
theorem dX5_strike_105 : decode cX5_strike 105 = .ok (.aload_n 0, 1) := by decide +kernel
theorem dX5_strike_106 : decode cX5_strike 106 = .ok (.getfield 113, 3) := by decide +kernel
theorem dX5_strike_109 : decode cX5_strike 109 = .ok (.iconst 2, 1) := by decide +kernel
theorem dX5_strike_110 : decode cX5_strike 110 = .ok (.if_icmp .ne 8, 3) := by decide +kernel
theorem dX5_strike_113 : decode cX5_strike 113 = .ok (.aload_n 0, 1) := by decide +kernel
theorem dX5_strike_114 : decode cX5_strike 114 = .ok (.iload_n 2, 1) := by decide +kernel
theorem dX5_strike_115 : decode cX5_strike 115 = .ok (.invokevirtual 160, 3) := by decide +kernel
theorem dX5_strike_118 : decode cX5_strike 118 = .ok (.iload_n 3, 1) := by decide +kernel
theorem dX5_strike_119 : decode cX5_strike 119 = .ok (.ireturn, 1) := by decide +kernel
theorem dX5_known_0 : decode cX5_known 0 = .ok (.iload_n 2, 1) := by decide +kernel
theorem dX5_known_1 : decode cX5_known 1 = .ok (.ifCond .ne 12, 3) := by decide +kernel
theorem dX5_known_4 : decode cX5_known 4 = .ok (.aload_n 0, 1) := by decide +kernel
theorem dX5_known_5 : decode cX5_known 5 = .ok (.getfield 13, 3) := by decide +kernel
theorem dX5_known_8 : decode cX5_known 8 = .ok (.iload_n 1, 1) := by decide +kernel
theorem dX5_known_9 : decode cX5_known 9 = .ok (.iaload, 1) := by decide +kernel
theorem dX5_known_10 : decode cX5_known 10 = .ok (.goto 23, 3) := by decide +kernel
theorem dX5_known_13 : decode cX5_known 13 = .ok (.iload_n 2, 1) := by decide +kernel
theorem dX5_known_14 : decode cX5_known 14 = .ok (.iconst 1, 1) := by decide +kernel
theorem dX5_known_15 : decode cX5_known 15 = .ok (.if_icmp .ne 12, 3) := by decide +kernel
theorem dX5_known_18 : decode cX5_known 18 = .ok (.aload_n 0, 1) := by decide +kernel
theorem dX5_known_19 : decode cX5_known 19 = .ok (.getfield 17, 3) := by decide +kernel
theorem dX5_known_22 : decode cX5_known 22 = .ok (.iload_n 1, 1) := by decide +kernel
theorem dX5_known_23 : decode cX5_known 23 = .ok (.iaload, 1) := by decide +kernel
theorem dX5_known_24 : decode cX5_known 24 = .ok (.goto 9, 3) := by decide +kernel
theorem dX5_known_27 : decode cX5_known 27 = .ok (.aload_n 0, 1) := by decide +kernel
theorem dX5_known_28 : decode cX5_known 28 = .ok (.getfield 20, 3) := by decide +kernel
theorem dX5_known_31 : decode cX5_known 31 = .ok (.iload_n 1, 1) := by decide +kernel
theorem dX5_known_32 : decode cX5_known 32 = .ok (.iaload, 1) := by decide +kernel
theorem dX5_known_33 : decode cX5_known 33 = .ok (.ireturn, 1) := by decide +kernel
set_option maxRecDepth 20000 in
theorem ggX5_key_X5_isKey : GoodIn wsX5_key wsX5_isKey := goodIn_r _ [5] (by decide +kernel) (by decide +kernel)
set_option maxRecDepth 20000 in
theorem gX5_key_X5_isKey : GoodIn wsX5_key (va_wsS RX5 59 yX5_isKey wsX5_isKey) := goodIn_app (goodIn_of _ (by decide +kernel)) ggX5_key_X5_isKey
set_option maxRecDepth 20000 in
theorem ggX5_key_X5_known : GoodIn wsX5_key wsX5_known := goodIn_r _ [9, 10, 11, 12, 17, 18, 19, 20, 21, 22, 23, 24, 25, 26, 27, 28, 29, 30, 31, 32, 33, 34, 35, 36] (by decide +kernel) (by decide +kernel)
set_option maxRecDepth 20000 in
theorem gX5_key_X5_known : GoodIn wsX5_key (wsV RX5 163 RX5 yX5_known wsX5_known) := goodIn_app (goodIn_of _ (by decide +kernel)) ggX5_key_X5_known
set_option maxRecDepth 20000 in
theorem ggX5_key_X5_fail : GoodIn wsX5_key wsX5_fail := goodIn_r _ [16, 1, 17, 18, 19, 20, 21, 22, 23, 24, 25, 26, 27, 28, 29, 30, 31, 32, 33, 34, 35, 36] (by decide +kernel) (by decide +kernel)
set_option maxRecDepth 20000 in
theorem gX5_key_X5_fail : GoodIn wsX5_key (wsV RX5 67 RX5 yX5_fail wsX5_fail) := goodIn_app (goodIn_of _ (by decide +kernel)) ggX5_key_X5_fail
theorem dX5_key_0 : decode cX5_key 0 = .ok (.aload_n 0, 1) := by decide +kernel
theorem dX5_key_1 : decode cX5_key 1 = .ok (.iconst 0, 1) := by decide +kernel
theorem dX5_key_2 : decode cX5_key 2 = .ok (.putfield 43, 3) := by decide +kernel
theorem dX5_key_5 : decode cX5_key 5 = .ok (.iload_n 1, 1) := by decide +kernel
theorem dX5_key_6 : decode cX5_key 6 = .ok (.invokestatic 59, 3) := by decide +kernel
theorem dX5_key_9 : decode cX5_key 9 = .ok (.ifCond .eq 21, 3) := by decide +kernel
theorem dX5_key_12 : decode cX5_key 12 = .ok (.iload_n 2, 1) := by decide +kernel
theorem dX5_key_13 : decode cX5_key 13 = .ok (.ifCond .lt 17, 3) := by decide +kernel
theorem dX5_key_16 : decode cX5_key 16 = .ok (.iload_n 2, 1) := by decide +kernel
theorem dX5_key_17 : decode cX5_key 17 = .ok (.iconst 2, 1) := by decide +kernel
theorem dX5_key_18 : decode cX5_key 18 = .ok (.if_icmp .gt 12, 3) := by decide +kernel
theorem dX5_key_21 : decode cX5_key 21 = .ok (.aload_n 0, 1) := by decide +kernel
theorem dX5_key_22 : decode cX5_key 22 = .ok (.iload_n 1, 1) := by decide +kernel
theorem dX5_key_23 : decode cX5_key 23 = .ok (.iload_n 2, 1) := by decide +kernel
theorem dX5_key_24 : decode cX5_key 24 = .ok (.invokevirtual 163, 3) := by decide +kernel
theorem dX5_key_27 : decode cX5_key 27 = .ok (.goto 8, 3) := by decide +kernel
theorem dX5_key_30 : decode cX5_key 30 = .ok (.aload_n 0, 1) := by decide +kernel
theorem dX5_key_31 : decode cX5_key 31 = .ok (.iconst 1, 1) := by decide +kernel
theorem dX5_key_32 : decode cX5_key 32 = .ok (.invokevirtual 67, 3) := by decide +kernel
theorem dX5_key_35 : decode cX5_key 35 = .ok (.ireturn, 1) := by decide +kernel
set_option maxRecDepth 20000 in
theorem ggX5_pair_X5_isKey : GoodIn wsX5_pair wsX5_isKey := goodIn_r _ [5] (by decide +kernel) (by decide +kernel)
set_option maxRecDepth 20000 in
theorem gX5_pair_X5_isKey : GoodIn wsX5_pair (va_wsS RX5 59 yX5_isKey wsX5_isKey) := goodIn_app (goodIn_of _ (by decide +kernel)) ggX5_pair_X5_isKey
set_option maxRecDepth 20000 in
theorem ggX5_pair_X5_fail : GoodIn wsX5_pair wsX5_fail := goodIn_r _ [9, 1, 24, 25, 26, 27, 28, 29, 30, 31, 32, 33, 34, 35, 36, 37, 38, 39, 40, 41, 42, 43] (by decide +kernel) (by decide +kernel)
set_option maxRecDepth 20000 in
theorem gX5_pair_X5_fail : GoodIn wsX5_pair (wsV RX5 67 RX5 yX5_fail wsX5_fail) := goodIn_app (goodIn_of _ (by decide +kernel)) ggX5_pair_X5_fail
set_option maxRecDepth 20000 in
theorem ggX5_pair_X5_weakness : GoodIn wsX5_pair wsX5_weakness := goodIn_r _ [13, 14, 15, 16, 17, 4, 18, 24, 25, 26, 27, 28, 29, 30, 31, 32, 33, 34, 35, 36, 37, 38, 39, 40, 41, 42, 43] (by decide +kernel) (by decide +kernel)
set_option maxRecDepth 20000 in
theorem gX5_pair_X5_weakness : GoodIn wsX5_pair (wsV RX5 78 RX5 yX5_weakness wsX5_weakness) := goodIn_app (goodIn_of _ (by decide +kernel)) ggX5_pair_X5_weakness
set_option maxRecDepth 20000 in
theorem ggX5_pair_X5_pairOf : GoodIn wsX5_pair wsX5_pairOf := goodIn_r _ [18] (by decide +kernel) (by decide +kernel)
set_option maxRecDepth 20000 in
theorem gX5_pair_X5_pairOf : GoodIn wsX5_pair (va_wsS RX5 74 yX5_pairOf wsX5_pairOf) := goodIn_app (goodIn_of _ (by decide +kernel)) ggX5_pair_X5_pairOf
set_option maxRecDepth 20000 in
theorem ggX5_pair_X5_known : GoodIn wsX5_pair wsX5_known := goodIn_r _ [22, 15, 23, 14, 24, 25, 26, 27, 28, 29, 30, 31, 32, 33, 34, 35, 36, 37, 38, 39, 40, 41, 42, 43] (by decide +kernel) (by decide +kernel)
set_option maxRecDepth 20000 in
theorem gX5_pair_X5_known : GoodIn wsX5_pair (wsV RX5 163 RX5 yX5_known wsX5_known) := goodIn_app (goodIn_of _ (by decide +kernel)) ggX5_pair_X5_known
theorem dX5_pair_0 : decode cX5_pair 0 = .ok (.aload_n 0, 1) := by decide +kernel
theorem dX5_pair_1 : decode cX5_pair 1 = .ok (.iconst 0, 1) := by decide +kernel
theorem dX5_pair_2 : decode cX5_pair 2 = .ok (.putfield 43, 3) := by decide +kernel
theorem dX5_pair_5 : decode cX5_pair 5 = .ok (.iload_n 1, 1) := by decide +kernel
theorem dX5_pair_6 : decode cX5_pair 6 = .ok (.invokestatic 59, 3) := by decide +kernel
theorem dX5_pair_9 : decode cX5_pair 9 = .ok (.ifCond .eq 19, 3) := by decide +kernel
theorem dX5_pair_12 : decode cX5_pair 12 = .ok (.iload_n 2, 1) := by decide +kernel
theorem dX5_pair_13 : decode cX5_pair 13 = .ok (.invokestatic 59, 3) := by decide +kernel
theorem dX5_pair_16 : decode cX5_pair 16 = .ok (.ifCond .eq 12, 3) := by decide +kernel
theorem dX5_pair_19 : decode cX5_pair 19 = .ok (.iload_n 3, 1) := by decide +kernel
theorem dX5_pair_20 : decode cX5_pair 20 = .ok (.ifCond .lt 8, 3) := by decide +kernel
theorem dX5_pair_23 : decode cX5_pair 23 = .ok (.iload_n 3, 1) := by decide +kernel
theorem dX5_pair_24 : decode cX5_pair 24 = .ok (.iconst 3, 1) := by decide +kernel
theorem dX5_pair_25 : decode cX5_pair 25 = .ok (.if_icmp .le 9, 3) := by decide +kernel
theorem dX5_pair_28 : decode cX5_pair 28 = .ok (.aload_n 0, 1) := by decide +kernel
theorem dX5_pair_29 : decode cX5_pair 29 = .ok (.iconst 1, 1) := by decide +kernel
theorem dX5_pair_30 : decode cX5_pair 30 = .ok (.invokevirtual 67, 3) := by decide +kernel
theorem dX5_pair_33 : decode cX5_pair 33 = .ok (.ireturn, 1) := by decide +kernel
theorem dX5_pair_34 : decode cX5_pair 34 = .ok (.iload_n 3, 1) := by decide +kernel
theorem dX5_pair_35 : decode cX5_pair 35 = .ok (.iconst 3, 1) := by decide +kernel
theorem dX5_pair_36 : decode cX5_pair 36 = .ok (.if_icmp .ne 12, 3) := by decide +kernel
theorem dX5_pair_39 : decode cX5_pair 39 = .ok (.aload_n 0, 1) := by decide +kernel
theorem dX5_pair_40 : decode cX5_pair 40 = .ok (.iload_n 1, 1) := by decide +kernel
theorem dX5_pair_41 : decode cX5_pair 41 = .ok (.iload_n 2, 1) := by decide +kernel
theorem dX5_pair_42 : decode cX5_pair 42 = .ok (.invokevirtual 78, 3) := by decide +kernel
theorem dX5_pair_45 : decode cX5_pair 45 = .ok (.goto 13, 3) := by decide +kernel
theorem dX5_pair_48 : decode cX5_pair 48 = .ok (.aload_n 0, 1) := by decide +kernel
theorem dX5_pair_49 : decode cX5_pair 49 = .ok (.iload_n 1, 1) := by decide +kernel
theorem dX5_pair_50 : decode cX5_pair 50 = .ok (.iload_n 2, 1) := by decide +kernel
theorem dX5_pair_51 : decode cX5_pair 51 = .ok (.invokestatic 74, 3) := by decide +kernel
theorem dX5_pair_54 : decode cX5_pair 54 = .ok (.iload_n 3, 1) := by decide +kernel
theorem dX5_pair_55 : decode cX5_pair 55 = .ok (.invokevirtual 163, 3) := by decide +kernel
theorem dX5_pair_58 : decode cX5_pair 58 = .ok (.ireturn, 1) := by decide +kernel
set_option maxRecDepth 20000 in
theorem ggX5_weakest_X5_weakness : GoodIn wsX5_weakest wsX5_weakness := goodIn_r _ [7, 8, 2, 9, 10, 6, 11, 12, 13, 14, 15, 16, 17, 18, 19, 20, 21, 22, 23, 24, 25, 26, 27, 28, 29, 30, 31] (by decide +kernel) (by decide +kernel)
set_option maxRecDepth 20000 in
theorem gX5_weakest_X5_weakness : GoodIn wsX5_weakest (wsV RX5 78 RX5 yX5_weakness wsX5_weakness) := goodIn_app (goodIn_of _ (by decide +kernel)) ggX5_weakest_X5_weakness
theorem dX5_weakest_0 : decode cX5_weakest 0 = .ok (.aload_n 0, 1) := by decide +kernel
theorem dX5_weakest_1 : decode cX5_weakest 1 = .ok (.iconst 0, 1) := by decide +kernel
theorem dX5_weakest_2 : decode cX5_weakest 2 = .ok (.putfield 43, 3) := by decide +kernel
theorem dX5_weakest_5 : decode cX5_weakest 5 = .ok (.iconst (-1), 1) := by decide +kernel
theorem dX5_weakest_6 : decode cX5_weakest 6 = .ok (.istore_n 1, 1) := by decide +kernel
theorem dX5_weakest_7 : decode cX5_weakest 7 = .ok (.iconst 0, 1) := by decide +kernel
theorem dX5_weakest_8 : decode cX5_weakest 8 = .ok (.istore_n 2, 1) := by decide +kernel
theorem dX5_weakest_9 : decode cX5_weakest 9 = .ok (.iload_n 2, 1) := by decide +kernel
theorem dX5_weakest_10 : decode cX5_weakest 10 = .ok (.sipush 676, 3) := by decide +kernel
theorem dX5_weakest_13 : decode cX5_weakest 13 = .ok (.if_icmp .ge 58, 3) := by decide +kernel
theorem dX5_weakest_16 : decode cX5_weakest 16 = .ok (.aload_n 0, 1) := by decide +kernel
theorem dX5_weakest_17 : decode cX5_weakest 17 = .ok (.getfield 13, 3) := by decide +kernel
theorem dX5_weakest_20 : decode cX5_weakest 20 = .ok (.bipush 26, 2) := by decide +kernel
theorem dX5_weakest_22 : decode cX5_weakest 22 = .ok (.iload_n 2, 1) := by decide +kernel
theorem dX5_weakest_23 : decode cX5_weakest 23 = .ok (.iadd, 1) := by decide +kernel
theorem dX5_weakest_24 : decode cX5_weakest 24 = .ok (.iaload, 1) := by decide +kernel
theorem dX5_weakest_25 : decode cX5_weakest 25 = .ok (.ifCond .ne 6, 3) := by decide +kernel
theorem dX5_weakest_28 : decode cX5_weakest 28 = .ok (.goto 37, 3) := by decide +kernel
theorem dX5_weakest_31 : decode cX5_weakest 31 = .ok (.iload_n 1, 1) := by decide +kernel
theorem dX5_weakest_32 : decode cX5_weakest 32 = .ok (.iconst (-1), 1) := by decide +kernel
theorem dX5_weakest_33 : decode cX5_weakest 33 = .ok (.if_icmp .eq 30, 3) := by decide +kernel
theorem dX5_weakest_36 : decode cX5_weakest 36 = .ok (.aload_n 0, 1) := by decide +kernel
theorem dX5_weakest_37 : decode cX5_weakest 37 = .ok (.iload_n 2, 1) := by decide +kernel
theorem dX5_weakest_38 : decode cX5_weakest 38 = .ok (.bipush 26, 2) := by decide +kernel
theorem dX5_weakest_40 : decode cX5_weakest 40 = .ok (.idiv, 1) := by decide +kernel
theorem dX5_weakest_41 : decode cX5_weakest 41 = .ok (.iload_n 2, 1) := by decide +kernel
theorem dX5_weakest_42 : decode cX5_weakest 42 = .ok (.bipush 26, 2) := by decide +kernel
theorem dX5_weakest_44 : decode cX5_weakest 44 = .ok (.irem, 1) := by decide +kernel
theorem dX5_weakest_45 : decode cX5_weakest 45 = .ok (.invokevirtual 78, 3) := by decide +kernel
theorem dX5_weakest_48 : decode cX5_weakest 48 = .ok (.aload_n 0, 1) := by decide +kernel
theorem dX5_weakest_49 : decode cX5_weakest 49 = .ok (.iload_n 1, 1) := by decide +kernel
theorem dX5_weakest_50 : decode cX5_weakest 50 = .ok (.bipush 26, 2) := by decide +kernel
theorem dX5_weakest_52 : decode cX5_weakest 52 = .ok (.idiv, 1) := by decide +kernel
theorem dX5_weakest_53 : decode cX5_weakest 53 = .ok (.iload_n 1, 1) := by decide +kernel
theorem dX5_weakest_54 : decode cX5_weakest 54 = .ok (.bipush 26, 2) := by decide +kernel
theorem dX5_weakest_56 : decode cX5_weakest 56 = .ok (.irem, 1) := by decide +kernel
theorem dX5_weakest_57 : decode cX5_weakest 57 = .ok (.invokevirtual 78, 3) := by decide +kernel
theorem dX5_weakest_60 : decode cX5_weakest 60 = .ok (.if_icmp .le 5, 3) := by decide +kernel
theorem dX5_weakest_63 : decode cX5_weakest 63 = .ok (.iload_n 2, 1) := by decide +kernel
theorem dX5_weakest_64 : decode cX5_weakest 64 = .ok (.istore_n 1, 1) := by decide +kernel
theorem dX5_weakest_65 : decode cX5_weakest 65 = .ok (.iinc 2 1, 3) := by decide +kernel
theorem dX5_weakest_68 : decode cX5_weakest 68 = .ok (.goto (-59), 3) := by decide +kernel
theorem dX5_weakest_71 : decode cX5_weakest 71 = .ok (.iload_n 1, 1) := by decide +kernel
theorem dX5_weakest_72 : decode cX5_weakest 72 = .ok (.ireturn, 1) := by decide +kernel
set_option maxRecDepth 20000 in
theorem ggX5_mistakes_X5_fail : GoodIn wsX5_mistakes wsX5_fail := goodIn_r _ [7, 1, 8, 9, 10, 11, 12, 13, 14, 15, 16, 17, 18, 19, 20, 21, 22, 23, 24, 25, 26, 27] (by decide +kernel) (by decide +kernel)
set_option maxRecDepth 20000 in
theorem gX5_mistakes_X5_fail : GoodIn wsX5_mistakes (wsV RX5 67 RX5 yX5_fail wsX5_fail) := goodIn_app (goodIn_of _ (by decide +kernel)) ggX5_mistakes_X5_fail
theorem dX5_mistakes_0 : decode cX5_mistakes 0 = .ok (.aload_n 0, 1) := by decide +kernel
theorem dX5_mistakes_1 : decode cX5_mistakes 1 = .ok (.iconst 0, 1) := by decide +kernel
theorem dX5_mistakes_2 : decode cX5_mistakes 2 = .ok (.putfield 43, 3) := by decide +kernel
theorem dX5_mistakes_5 : decode cX5_mistakes 5 = .ok (.iload_n 1, 1) := by decide +kernel
theorem dX5_mistakes_6 : decode cX5_mistakes 6 = .ok (.iconst 1, 1) := by decide +kernel
theorem dX5_mistakes_7 : decode cX5_mistakes 7 = .ok (.if_icmp .lt 17, 3) := by decide +kernel
theorem dX5_mistakes_10 : decode cX5_mistakes 10 = .ok (.iload_n 1, 1) := by decide +kernel
theorem dX5_mistakes_11 : decode cX5_mistakes 11 = .ok (.iconst 4, 1) := by decide +kernel
theorem dX5_mistakes_12 : decode cX5_mistakes 12 = .ok (.if_icmp .gt 12, 3) := by decide +kernel
theorem dX5_mistakes_15 : decode cX5_mistakes 15 = .ok (.aload_n 0, 1) := by decide +kernel
theorem dX5_mistakes_16 : decode cX5_mistakes 16 = .ok (.getfield 23, 3) := by decide +kernel
theorem dX5_mistakes_19 : decode cX5_mistakes 19 = .ok (.iload_n 1, 1) := by decide +kernel
theorem dX5_mistakes_20 : decode cX5_mistakes 20 = .ok (.iaload, 1) := by decide +kernel
theorem dX5_mistakes_21 : decode cX5_mistakes 21 = .ok (.goto 8, 3) := by decide +kernel
theorem dX5_mistakes_24 : decode cX5_mistakes 24 = .ok (.aload_n 0, 1) := by decide +kernel
theorem dX5_mistakes_25 : decode cX5_mistakes 25 = .ok (.iconst 1, 1) := by decide +kernel
theorem dX5_mistakes_26 : decode cX5_mistakes 26 = .ok (.invokevirtual 67, 3) := by decide +kernel
theorem dX5_mistakes_29 : decode cX5_mistakes 29 = .ok (.ireturn, 1) := by decide +kernel
theorem dX5_lessons_0 : decode cX5_lessons 0 = .ok (.aload_n 0, 1) := by decide +kernel
theorem dX5_lessons_1 : decode cX5_lessons 1 = .ok (.iconst 0, 1) := by decide +kernel
theorem dX5_lessons_2 : decode cX5_lessons 2 = .ok (.putfield 43, 3) := by decide +kernel
theorem dX5_lessons_5 : decode cX5_lessons 5 = .ok (.aload_n 0, 1) := by decide +kernel
theorem dX5_lessons_6 : decode cX5_lessons 6 = .ok (.getfield 145, 3) := by decide +kernel
theorem dX5_lessons_9 : decode cX5_lessons 9 = .ok (.ireturn, 1) := by decide +kernel
theorem dX5_told_0 : decode cX5_told 0 = .ok (.iload_n 2, 1) := by decide +kernel
theorem dX5_told_1 : decode cX5_told 1 = .ok (.iconst 3, 1) := by decide +kernel
theorem dX5_told_2 : decode cX5_told 2 = .ok (.if_icmp .ge 16, 3) := by decide +kernel
theorem dX5_told_5 : decode cX5_told 5 = .ok (.aload_n 0, 1) := by decide +kernel
theorem dX5_told_6 : decode cX5_told 6 = .ok (.getfield 36, 3) := by decide +kernel
theorem dX5_told_9 : decode cX5_told 9 = .ok (.iconst 3, 1) := by decide +kernel
theorem dX5_told_10 : decode cX5_told 10 = .ok (.iload_n 1, 1) := by decide +kernel
theorem dX5_told_11 : decode cX5_told 11 = .ok (.imul, 1) := by decide +kernel
theorem dX5_told_12 : decode cX5_told 12 = .ok (.iload_n 2, 1) := by decide +kernel
theorem dX5_told_13 : decode cX5_told 13 = .ok (.iadd, 1) := by decide +kernel
theorem dX5_told_14 : decode cX5_told 14 = .ok (.iaload, 1) := by decide +kernel
theorem dX5_told_15 : decode cX5_told 15 = .ok (.goto 25, 3) := by decide +kernel
theorem dX5_told_18 : decode cX5_told 18 = .ok (.aload_n 0, 1) := by decide +kernel
theorem dX5_told_19 : decode cX5_told 19 = .ok (.getfield 36, 3) := by decide +kernel
theorem dX5_told_22 : decode cX5_told 22 = .ok (.iconst 3, 1) := by decide +kernel
theorem dX5_told_23 : decode cX5_told 23 = .ok (.iload_n 1, 1) := by decide +kernel
theorem dX5_told_24 : decode cX5_told 24 = .ok (.imul, 1) := by decide +kernel
theorem dX5_told_25 : decode cX5_told 25 = .ok (.iaload, 1) := by decide +kernel
theorem dX5_told_26 : decode cX5_told 26 = .ok (.ldc 166, 2) := by decide +kernel
theorem dX5_told_28 : decode cX5_told 28 = .ok (.imul, 1) := by decide +kernel
theorem dX5_told_29 : decode cX5_told 29 = .ok (.aload_n 0, 1) := by decide +kernel
theorem dX5_told_30 : decode cX5_told 30 = .ok (.getfield 36, 3) := by decide +kernel
theorem dX5_told_33 : decode cX5_told 33 = .ok (.iconst 3, 1) := by decide +kernel
theorem dX5_told_34 : decode cX5_told 34 = .ok (.iload_n 1, 1) := by decide +kernel
theorem dX5_told_35 : decode cX5_told 35 = .ok (.imul, 1) := by decide +kernel
theorem dX5_told_36 : decode cX5_told 36 = .ok (.iconst 2, 1) := by decide +kernel
theorem dX5_told_37 : decode cX5_told 37 = .ok (.iadd, 1) := by decide +kernel
theorem dX5_told_38 : decode cX5_told 38 = .ok (.iaload, 1) := by decide +kernel
theorem dX5_told_39 : decode cX5_told 39 = .ok (.idiv, 1) := by decide +kernel
theorem dX5_told_40 : decode cX5_told 40 = .ok (.ireturn, 1) := by decide +kernel
set_option maxRecDepth 20000 in
theorem ggX5_lesson_X5_told : GoodIn wsX5_lesson wsX5_told := goodIn_r _ [7, 8, 9, 14, 15, 16, 17, 18, 19, 20, 21, 22, 23, 24, 25, 26, 27, 28, 29, 30, 31, 32, 33] (by decide +kernel) (by decide +kernel)
set_option maxRecDepth 20000 in
theorem gX5_lesson_X5_told : GoodIn wsX5_lesson (wsV RX5 167 RX5 yX5_told wsX5_told) := goodIn_app (goodIn_of _ (by decide +kernel)) ggX5_lesson_X5_told
set_option maxRecDepth 20000 in
theorem ggX5_lesson_X5_fail : GoodIn wsX5_lesson wsX5_fail := goodIn_r _ [13, 1, 14, 15, 16, 17, 18, 19, 20, 21, 22, 23, 24, 25, 26, 27, 28, 29, 30, 31, 32, 33] (by decide +kernel) (by decide +kernel)
set_option maxRecDepth 20000 in
theorem gX5_lesson_X5_fail : GoodIn wsX5_lesson (wsV RX5 67 RX5 yX5_fail wsX5_fail) := goodIn_app (goodIn_of _ (by decide +kernel)) ggX5_lesson_X5_fail
theorem dX5_lesson_0 : decode cX5_lesson 0 = .ok (.aload_n 0, 1) := by decide +kernel
theorem dX5_lesson_1 : decode cX5_lesson 1 = .ok (.iconst 0, 1) := by decide +kernel
theorem dX5_lesson_2 : decode cX5_lesson 2 = .ok (.putfield 43, 3) := by decide +kernel
theorem dX5_lesson_5 : decode cX5_lesson 5 = .ok (.iload_n 1, 1) := by decide +kernel
theorem dX5_lesson_6 : decode cX5_lesson 6 = .ok (.ifCond .lt 29, 3) := by decide +kernel
theorem dX5_lesson_9 : decode cX5_lesson 9 = .ok (.iload_n 1, 1) := by decide +kernel
theorem dX5_lesson_10 : decode cX5_lesson 10 = .ok (.aload_n 0, 1) := by decide +kernel
theorem dX5_lesson_11 : decode cX5_lesson 11 = .ok (.getfield 145, 3) := by decide +kernel
theorem dX5_lesson_14 : decode cX5_lesson 14 = .ok (.if_icmp .ge 21, 3) := by decide +kernel
theorem dX5_lesson_17 : decode cX5_lesson 17 = .ok (.iload_n 2, 1) := by decide +kernel
theorem dX5_lesson_18 : decode cX5_lesson 18 = .ok (.ifCond .lt 17, 3) := by decide +kernel
theorem dX5_lesson_21 : decode cX5_lesson 21 = .ok (.iload_n 2, 1) := by decide +kernel
theorem dX5_lesson_22 : decode cX5_lesson 22 = .ok (.iconst 3, 1) := by decide +kernel
theorem dX5_lesson_23 : decode cX5_lesson 23 = .ok (.if_icmp .gt 12, 3) := by decide +kernel
theorem dX5_lesson_26 : decode cX5_lesson 26 = .ok (.aload_n 0, 1) := by decide +kernel
theorem dX5_lesson_27 : decode cX5_lesson 27 = .ok (.iload_n 1, 1) := by decide +kernel
theorem dX5_lesson_28 : decode cX5_lesson 28 = .ok (.iload_n 2, 1) := by decide +kernel
theorem dX5_lesson_29 : decode cX5_lesson 29 = .ok (.invokevirtual 167, 3) := by decide +kernel
theorem dX5_lesson_32 : decode cX5_lesson 32 = .ok (.goto 8, 3) := by decide +kernel
theorem dX5_lesson_35 : decode cX5_lesson 35 = .ok (.aload_n 0, 1) := by decide +kernel
theorem dX5_lesson_36 : decode cX5_lesson 36 = .ok (.iconst 1, 1) := by decide +kernel
theorem dX5_lesson_37 : decode cX5_lesson 37 = .ok (.invokevirtual 67, 3) := by decide +kernel
theorem dX5_lesson_40 : decode cX5_lesson 40 = .ok (.ireturn, 1) := by decide +kernel
theorem dX5_pace_0 : decode cX5_pace 0 = .ok (.aload_n 0, 1) := by decide +kernel
theorem dX5_pace_1 : decode cX5_pace 1 = .ok (.iconst 0, 1) := by decide +kernel
theorem dX5_pace_2 : decode cX5_pace 2 = .ok (.putfield 43, 3) := by decide +kernel
theorem dX5_pace_5 : decode cX5_pace 5 = .ok (.aload_n 0, 1) := by decide +kernel
theorem dX5_pace_6 : decode cX5_pace 6 = .ok (.getfield 39, 3) := by decide +kernel
theorem dX5_pace_9 : decode cX5_pace 9 = .ok (.ireturn, 1) := by decide +kernel
set_option maxRecDepth 20000 in
theorem ggX5_greatest_X5_told : GoodIn wsX5_greatest wsX5_told := goodIn_r _ [9, 10, 11, 12, 13, 14, 15, 16, 17, 18, 19, 20, 21, 22, 23, 24, 25, 26, 27, 28, 29, 30, 31] (by decide +kernel) (by decide +kernel)
set_option maxRecDepth 20000 in
theorem gX5_greatest_X5_told : GoodIn wsX5_greatest (wsV RX5 167 RX5 yX5_told wsX5_told) := goodIn_app (goodIn_of _ (by decide +kernel)) ggX5_greatest_X5_told
theorem dX5_greatest_0 : decode cX5_greatest 0 = .ok (.aload_n 0, 1) := by decide +kernel
theorem dX5_greatest_1 : decode cX5_greatest 1 = .ok (.iload_n 1, 1) := by decide +kernel
theorem dX5_greatest_2 : decode cX5_greatest 2 = .ok (.iconst 3, 1) := by decide +kernel
theorem dX5_greatest_3 : decode cX5_greatest 3 = .ok (.invokevirtual 167, 3) := by decide +kernel
theorem dX5_greatest_6 : decode cX5_greatest 6 = .ok (.aload_n 0, 1) := by decide +kernel
theorem dX5_greatest_7 : decode cX5_greatest 7 = .ok (.iload_n 1, 1) := by decide +kernel
theorem dX5_greatest_8 : decode cX5_greatest 8 = .ok (.iconst 1, 1) := by decide +kernel
theorem dX5_greatest_9 : decode cX5_greatest 9 = .ok (.iadd, 1) := by decide +kernel
theorem dX5_greatest_10 : decode cX5_greatest 10 = .ok (.iconst 3, 1) := by decide +kernel
theorem dX5_greatest_11 : decode cX5_greatest 11 = .ok (.invokevirtual 167, 3) := by decide +kernel
theorem dX5_greatest_14 : decode cX5_greatest 14 = .ok (.aload_n 0, 1) := by decide +kernel
theorem dX5_greatest_15 : decode cX5_greatest 15 = .ok (.iload_n 1, 1) := by decide +kernel
theorem dX5_greatest_16 : decode cX5_greatest 16 = .ok (.iconst 2, 1) := by decide +kernel
theorem dX5_greatest_17 : decode cX5_greatest 17 = .ok (.iadd, 1) := by decide +kernel
theorem dX5_greatest_18 : decode cX5_greatest 18 = .ok (.iconst 3, 1) := by decide +kernel
theorem dX5_greatest_19 : decode cX5_greatest 19 = .ok (.invokevirtual 167, 3) := by decide +kernel
theorem dX5_greatest_22 : decode cX5_greatest 22 = .ok (.invokestatic 135, 3) := by decide +kernel
theorem dX5_greatest_25 : decode cX5_greatest 25 = .ok (.invokestatic 135, 3) := by decide +kernel
theorem dX5_greatest_28 : decode cX5_greatest 28 = .ok (.ireturn, 1) := by decide +kernel
set_option maxRecDepth 20000 in
theorem ggX5_isPlateau_X5_greatest : GoodIn wsX5_isPlateau wsX5_greatest := goodIn_r _ [7, 8, 9, 10, 11, 12, 13, 14, 6, 15, 16, 17, 18, 19, 20, 21, 22, 23, 24, 25, 26, 27, 28, 29, 30, 31, 32, 33, 34, 35, 36, 37] (by decide +kernel) (by decide +kernel)
set_option maxRecDepth 20000 in
theorem gX5_isPlateau_X5_greatest : GoodIn wsX5_isPlateau (wsV RX5 170 RX5 yX5_greatest wsX5_greatest) := goodIn_app (goodIn_of _ (by decide +kernel)) ggX5_isPlateau_X5_greatest
theorem dX5_isPlateau_0 : decode cX5_isPlateau 0 = .ok (.aload_n 0, 1) := by decide +kernel
theorem dX5_isPlateau_1 : decode cX5_isPlateau 1 = .ok (.iconst 0, 1) := by decide +kernel
theorem dX5_isPlateau_2 : decode cX5_isPlateau 2 = .ok (.putfield 43, 3) := by decide +kernel
theorem dX5_isPlateau_5 : decode cX5_isPlateau 5 = .ok (.aload_n 0, 1) := by decide +kernel
theorem dX5_isPlateau_6 : decode cX5_isPlateau 6 = .ok (.getfield 145, 3) := by decide +kernel
theorem dX5_isPlateau_9 : decode cX5_isPlateau 9 = .ok (.bipush 6, 2) := by decide +kernel
theorem dX5_isPlateau_11 : decode cX5_isPlateau 11 = .ok (.if_icmp .lt 31, 3) := by decide +kernel
theorem dX5_isPlateau_14 : decode cX5_isPlateau 14 = .ok (.aload_n 0, 1) := by decide +kernel
theorem dX5_isPlateau_15 : decode cX5_isPlateau 15 = .ok (.aload_n 0, 1) := by decide +kernel
theorem dX5_isPlateau_16 : decode cX5_isPlateau 16 = .ok (.getfield 145, 3) := by decide +kernel
theorem dX5_isPlateau_19 : decode cX5_isPlateau 19 = .ok (.iconst 3, 1) := by decide +kernel
theorem dX5_isPlateau_20 : decode cX5_isPlateau 20 = .ok (.isub, 1) := by decide +kernel
theorem dX5_isPlateau_21 : decode cX5_isPlateau 21 = .ok (.invokevirtual 170, 3) := by decide +kernel
theorem dX5_isPlateau_24 : decode cX5_isPlateau 24 = .ok (.aload_n 0, 1) := by decide +kernel
theorem dX5_isPlateau_25 : decode cX5_isPlateau 25 = .ok (.aload_n 0, 1) := by decide +kernel
theorem dX5_isPlateau_26 : decode cX5_isPlateau 26 = .ok (.getfield 145, 3) := by decide +kernel
theorem dX5_isPlateau_29 : decode cX5_isPlateau 29 = .ok (.bipush 6, 2) := by decide +kernel
theorem dX5_isPlateau_31 : decode cX5_isPlateau 31 = .ok (.isub, 1) := by decide +kernel
theorem dX5_isPlateau_32 : decode cX5_isPlateau 32 = .ok (.invokevirtual 170, 3) := by decide +kernel
theorem dX5_isPlateau_35 : decode cX5_isPlateau 35 = .ok (.if_icmp .gt 7, 3) := by decide +kernel
theorem dX5_isPlateau_38 : decode cX5_isPlateau 38 = .ok (.iconst 1, 1) := by decide +kernel
theorem dX5_isPlateau_39 : decode cX5_isPlateau 39 = .ok (.goto 4, 3) := by decide +kernel
theorem dX5_isPlateau_42 : decode cX5_isPlateau 42 = .ok (.iconst 0, 1) := by decide +kernel
theorem dX5_isPlateau_43 : decode cX5_isPlateau 43 = .ok (.ireturn, 1) := by decide +kernel
theorem dX5_accuracy_0 : decode cX5_accuracy 0 = .ok (.aload_n 0, 1) := by decide +kernel
theorem dX5_accuracy_1 : decode cX5_accuracy 1 = .ok (.iconst 0, 1) := by decide +kernel
theorem dX5_accuracy_2 : decode cX5_accuracy 2 = .ok (.putfield 43, 3) := by decide +kernel
theorem dX5_accuracy_5 : decode cX5_accuracy 5 = .ok (.iconst 0, 1) := by decide +kernel
theorem dX5_accuracy_6 : decode cX5_accuracy 6 = .ok (.istore_n 1, 1) := by decide +kernel
theorem dX5_accuracy_7 : decode cX5_accuracy 7 = .ok (.iconst 0, 1) := by decide +kernel
theorem dX5_accuracy_8 : decode cX5_accuracy 8 = .ok (.istore_n 2, 1) := by decide +kernel
theorem dX5_accuracy_9 : decode cX5_accuracy 9 = .ok (.iconst 0, 1) := by decide +kernel
theorem dX5_accuracy_10 : decode cX5_accuracy 10 = .ok (.istore_n 3, 1) := by decide +kernel
theorem dX5_accuracy_11 : decode cX5_accuracy 11 = .ok (.iload_n 3, 1) := by decide +kernel
theorem dX5_accuracy_12 : decode cX5_accuracy 12 = .ok (.aload_n 0, 1) := by decide +kernel
theorem dX5_accuracy_13 : decode cX5_accuracy 13 = .ok (.getfield 145, 3) := by decide +kernel
theorem dX5_accuracy_16 : decode cX5_accuracy 16 = .ok (.if_icmp .ge 33, 3) := by decide +kernel
theorem dX5_accuracy_19 : decode cX5_accuracy 19 = .ok (.iload_n 1, 1) := by decide +kernel
theorem dX5_accuracy_20 : decode cX5_accuracy 20 = .ok (.aload_n 0, 1) := by decide +kernel
theorem dX5_accuracy_21 : decode cX5_accuracy 21 = .ok (.getfield 36, 3) := by decide +kernel
theorem dX5_accuracy_24 : decode cX5_accuracy 24 = .ok (.iconst 3, 1) := by decide +kernel
theorem dX5_accuracy_25 : decode cX5_accuracy 25 = .ok (.iload_n 3, 1) := by decide +kernel
theorem dX5_accuracy_26 : decode cX5_accuracy 26 = .ok (.imul, 1) := by decide +kernel
theorem dX5_accuracy_27 : decode cX5_accuracy 27 = .ok (.iaload, 1) := by decide +kernel
theorem dX5_accuracy_28 : decode cX5_accuracy 28 = .ok (.iadd, 1) := by decide +kernel
theorem dX5_accuracy_29 : decode cX5_accuracy 29 = .ok (.istore_n 1, 1) := by decide +kernel
theorem dX5_accuracy_30 : decode cX5_accuracy 30 = .ok (.iload_n 2, 1) := by decide +kernel
theorem dX5_accuracy_31 : decode cX5_accuracy 31 = .ok (.aload_n 0, 1) := by decide +kernel
theorem dX5_accuracy_32 : decode cX5_accuracy 32 = .ok (.getfield 36, 3) := by decide +kernel
theorem dX5_accuracy_35 : decode cX5_accuracy 35 = .ok (.iconst 3, 1) := by decide +kernel
theorem dX5_accuracy_36 : decode cX5_accuracy 36 = .ok (.iload_n 3, 1) := by decide +kernel
theorem dX5_accuracy_37 : decode cX5_accuracy 37 = .ok (.imul, 1) := by decide +kernel
theorem dX5_accuracy_38 : decode cX5_accuracy 38 = .ok (.iconst 1, 1) := by decide +kernel
theorem dX5_accuracy_39 : decode cX5_accuracy 39 = .ok (.iadd, 1) := by decide +kernel
theorem dX5_accuracy_40 : decode cX5_accuracy 40 = .ok (.iaload, 1) := by decide +kernel
theorem dX5_accuracy_41 : decode cX5_accuracy 41 = .ok (.iadd, 1) := by decide +kernel
theorem dX5_accuracy_42 : decode cX5_accuracy 42 = .ok (.istore_n 2, 1) := by decide +kernel
theorem dX5_accuracy_43 : decode cX5_accuracy 43 = .ok (.iinc 3 1, 3) := by decide +kernel
theorem dX5_accuracy_46 : decode cX5_accuracy 46 = .ok (.goto (-35), 3) := by decide +kernel
theorem dX5_accuracy_49 : decode cX5_accuracy 49 = .ok (.iload_n 1, 1) := by decide +kernel
theorem dX5_accuracy_50 : decode cX5_accuracy 50 = .ok (.ifCond .ne 7, 3) := by decide +kernel
theorem dX5_accuracy_53 : decode cX5_accuracy 53 = .ok (.dconst 1, 1) := by decide +kernel
theorem dX5_accuracy_54 : decode cX5_accuracy 54 = .ok (.goto 8, 3) := by decide +kernel
theorem dX5_accuracy_57 : decode cX5_accuracy 57 = .ok (.iload_n 2, 1) := by decide +kernel
theorem dX5_accuracy_58 : decode cX5_accuracy 58 = .ok (.i2d, 1) := by decide +kernel
theorem dX5_accuracy_59 : decode cX5_accuracy 59 = .ok (.iload_n 1, 1) := by decide +kernel
theorem dX5_accuracy_60 : decode cX5_accuracy 60 = .ok (.i2d, 1) := by decide +kernel
theorem dX5_accuracy_61 : decode cX5_accuracy 61 = .ok (.ddiv, 1) := by decide +kernel
theorem dX5_accuracy_62 : decode cX5_accuracy 62 = .ok (.dreturn, 1) := by decide +kernel
set_option maxRecDepth 20000 in
theorem ggX5_digest_X5_known : GoodIn wsX5_digest wsX5_known := goodIn_r _ [18, 6, 19, 20, 27, 28, 29, 30, 31, 32, 33, 34, 35, 36, 37, 38, 39, 40, 41, 42, 43, 44, 45, 46] (by decide +kernel) (by decide +kernel)
set_option maxRecDepth 20000 in
theorem gX5_digest_X5_known : GoodIn wsX5_digest (wsV RX5 163 RX5 yX5_known wsX5_known) := goodIn_app (goodIn_of _ (by decide +kernel)) ggX5_digest_X5_known
set_option maxRecDepth 20000 in
theorem ggX5_digest_X5_told : GoodIn wsX5_digest wsX5_told := goodIn_r _ [24, 25, 26, 27, 28, 29, 30, 31, 32, 33, 34, 35, 36, 37, 38, 39, 40, 41, 42, 43, 44, 45, 46] (by decide +kernel) (by decide +kernel)
set_option maxRecDepth 20000 in
theorem gX5_digest_X5_told : GoodIn wsX5_digest (wsV RX5 167 RX5 yX5_told wsX5_told) := goodIn_app (goodIn_of _ (by decide +kernel)) ggX5_digest_X5_told
theorem dX5_digest_0 : decode cX5_digest 0 = .ok (.aload_n 0, 1) := by decide +kernel
theorem dX5_digest_1 : decode cX5_digest 1 = .ok (.iconst 0, 1) := by decide +kernel
theorem dX5_digest_2 : decode cX5_digest 2 = .ok (.putfield 43, 3) := by decide +kernel
theorem dX5_digest_5 : decode cX5_digest 5 = .ok (.ldc2_w 173, 3) := by decide +kernel
theorem dX5_digest_8 : decode cX5_digest 8 = .ok (.aload_n 0, 1) := by decide +kernel
theorem dX5_digest_9 : decode cX5_digest 9 = .ok (.getfield 46, 3) := by decide +kernel
theorem dX5_digest_12 : decode cX5_digest 12 = .ok (.i2l, 1) := by decide +kernel
theorem dX5_digest_13 : decode cX5_digest 13 = .ok (.ladd, 1) := by decide +kernel
theorem dX5_digest_14 : decode cX5_digest 14 = .ok (.lstore_n 1, 1) := by decide +kernel
theorem dX5_digest_15 : decode cX5_digest 15 = .ok (.iconst 0, 1) := by decide +kernel
theorem dX5_digest_16 : decode cX5_digest 16 = .ok (.istore_n 3, 1) := by decide +kernel
theorem dX5_digest_17 : decode cX5_digest 17 = .ok (.iload_n 3, 1) := by decide +kernel
theorem dX5_digest_18 : decode cX5_digest 18 = .ok (.aload_n 0, 1) := by decide +kernel
theorem dX5_digest_19 : decode cX5_digest 19 = .ok (.getfield 46, 3) := by decide +kernel
theorem dX5_digest_22 : decode cX5_digest 22 = .ok (.if_icmp .ge 22, 3) := by decide +kernel
theorem dX5_digest_25 : decode cX5_digest 25 = .ok (.lload_n 1, 1) := by decide +kernel
theorem dX5_digest_26 : decode cX5_digest 26 = .ok (.ldc2_w 175, 3) := by decide +kernel
theorem dX5_digest_29 : decode cX5_digest 29 = .ok (.lmul, 1) := by decide +kernel
theorem dX5_digest_30 : decode cX5_digest 30 = .ok (.aload_n 0, 1) := by decide +kernel
theorem dX5_digest_31 : decode cX5_digest 31 = .ok (.getfield 9, 3) := by decide +kernel
theorem dX5_digest_34 : decode cX5_digest 34 = .ok (.iload_n 3, 1) := by decide +kernel
theorem dX5_digest_35 : decode cX5_digest 35 = .ok (.laload, 1) := by decide +kernel
theorem dX5_digest_36 : decode cX5_digest 36 = .ok (.ladd, 1) := by decide +kernel
theorem dX5_digest_37 : decode cX5_digest 37 = .ok (.lstore_n 1, 1) := by decide +kernel
theorem dX5_digest_38 : decode cX5_digest 38 = .ok (.iinc 3 1, 3) := by decide +kernel
theorem dX5_digest_41 : decode cX5_digest 41 = .ok (.goto (-24), 3) := by decide +kernel
theorem dX5_digest_44 : decode cX5_digest 44 = .ok (.iconst 0, 1) := by decide +kernel
theorem dX5_digest_45 : decode cX5_digest 45 = .ok (.istore_n 3, 1) := by decide +kernel
theorem dX5_digest_46 : decode cX5_digest 46 = .ok (.iload_n 3, 1) := by decide +kernel
theorem dX5_digest_47 : decode cX5_digest 47 = .ok (.bipush 26, 2) := by decide +kernel
theorem dX5_digest_49 : decode cX5_digest 49 = .ok (.if_icmp .ge 39, 3) := by decide +kernel
theorem dX5_digest_52 : decode cX5_digest 52 = .ok (.iconst 0, 1) := by decide +kernel
theorem dX5_digest_53 : decode cX5_digest 53 = .ok (.istore 4, 2) := by decide +kernel
theorem dX5_digest_55 : decode cX5_digest 55 = .ok (.iload 4, 2) := by decide +kernel
theorem dX5_digest_57 : decode cX5_digest 57 = .ok (.iconst 3, 1) := by decide +kernel
theorem dX5_digest_58 : decode cX5_digest 58 = .ok (.if_icmp .ge 24, 3) := by decide +kernel
theorem dX5_digest_61 : decode cX5_digest 61 = .ok (.lload_n 1, 1) := by decide +kernel
theorem dX5_digest_62 : decode cX5_digest 62 = .ok (.ldc2_w 175, 3) := by decide +kernel
theorem dX5_digest_65 : decode cX5_digest 65 = .ok (.lmul, 1) := by decide +kernel
theorem dX5_digest_66 : decode cX5_digest 66 = .ok (.aload_n 0, 1) := by decide +kernel
theorem dX5_digest_67 : decode cX5_digest 67 = .ok (.iload_n 3, 1) := by decide +kernel
theorem dX5_digest_68 : decode cX5_digest 68 = .ok (.iload 4, 2) := by decide +kernel
theorem dX5_digest_70 : decode cX5_digest 70 = .ok (.invokevirtual 163, 3) := by decide +kernel
theorem dX5_digest_73 : decode cX5_digest 73 = .ok (.i2l, 1) := by decide +kernel
theorem dX5_digest_74 : decode cX5_digest 74 = .ok (.ladd, 1) := by decide +kernel
theorem dX5_digest_75 : decode cX5_digest 75 = .ok (.lstore_n 1, 1) := by decide +kernel
theorem dX5_digest_76 : decode cX5_digest 76 = .ok (.iinc 4 1, 3) := by decide +kernel
theorem dX5_digest_79 : decode cX5_digest 79 = .ok (.goto (-24), 3) := by decide +kernel
theorem dX5_digest_82 : decode cX5_digest 82 = .ok (.iinc 3 1, 3) := by decide +kernel
theorem dX5_digest_85 : decode cX5_digest 85 = .ok (.goto (-39), 3) := by decide +kernel
theorem dX5_digest_88 : decode cX5_digest 88 = .ok (.iconst 0, 1) := by decide +kernel
theorem dX5_digest_89 : decode cX5_digest 89 = .ok (.istore_n 3, 1) := by decide +kernel
theorem dX5_digest_90 : decode cX5_digest 90 = .ok (.iload_n 3, 1) := by decide +kernel
theorem dX5_digest_91 : decode cX5_digest 91 = .ok (.sipush 676, 3) := by decide +kernel
theorem dX5_digest_94 : decode cX5_digest 94 = .ok (.if_icmp .ge 66, 3) := by decide +kernel
theorem dX5_digest_97 : decode cX5_digest 97 = .ok (.aload_n 0, 1) := by decide +kernel
theorem dX5_digest_98 : decode cX5_digest 98 = .ok (.getfield 13, 3) := by decide +kernel
theorem dX5_digest_101 : decode cX5_digest 101 = .ok (.bipush 26, 2) := by decide +kernel
theorem dX5_digest_103 : decode cX5_digest 103 = .ok (.iload_n 3, 1) := by decide +kernel
theorem dX5_digest_104 : decode cX5_digest 104 = .ok (.iadd, 1) := by decide +kernel
theorem dX5_digest_105 : decode cX5_digest 105 = .ok (.iaload, 1) := by decide +kernel
theorem dX5_digest_106 : decode cX5_digest 106 = .ok (.ifCond .ne 6, 3) := by decide +kernel
theorem dX5_digest_109 : decode cX5_digest 109 = .ok (.goto 45, 3) := by decide +kernel
theorem dX5_digest_112 : decode cX5_digest 112 = .ok (.lload_n 1, 1) := by decide +kernel
theorem dX5_digest_113 : decode cX5_digest 113 = .ok (.ldc2_w 175, 3) := by decide +kernel
theorem dX5_digest_116 : decode cX5_digest 116 = .ok (.lmul, 1) := by decide +kernel
theorem dX5_digest_117 : decode cX5_digest 117 = .ok (.iload_n 3, 1) := by decide +kernel
theorem dX5_digest_118 : decode cX5_digest 118 = .ok (.i2l, 1) := by decide +kernel
theorem dX5_digest_119 : decode cX5_digest 119 = .ok (.ladd, 1) := by decide +kernel
theorem dX5_digest_120 : decode cX5_digest 120 = .ok (.lstore_n 1, 1) := by decide +kernel
theorem dX5_digest_121 : decode cX5_digest 121 = .ok (.iconst 0, 1) := by decide +kernel
theorem dX5_digest_122 : decode cX5_digest 122 = .ok (.istore 4, 2) := by decide +kernel
theorem dX5_digest_124 : decode cX5_digest 124 = .ok (.iload 4, 2) := by decide +kernel
theorem dX5_digest_126 : decode cX5_digest 126 = .ok (.iconst 3, 1) := by decide +kernel
theorem dX5_digest_127 : decode cX5_digest 127 = .ok (.if_icmp .ge 27, 3) := by decide +kernel
theorem dX5_digest_130 : decode cX5_digest 130 = .ok (.lload_n 1, 1) := by decide +kernel
theorem dX5_digest_131 : decode cX5_digest 131 = .ok (.ldc2_w 175, 3) := by decide +kernel
theorem dX5_digest_134 : decode cX5_digest 134 = .ok (.lmul, 1) := by decide +kernel
theorem dX5_digest_135 : decode cX5_digest 135 = .ok (.aload_n 0, 1) := by decide +kernel
theorem dX5_digest_136 : decode cX5_digest 136 = .ok (.bipush 26, 2) := by decide +kernel
theorem dX5_digest_138 : decode cX5_digest 138 = .ok (.iload_n 3, 1) := by decide +kernel
theorem dX5_digest_139 : decode cX5_digest 139 = .ok (.iadd, 1) := by decide +kernel
theorem dX5_digest_140 : decode cX5_digest 140 = .ok (.iload 4, 2) := by decide +kernel
theorem dX5_digest_142 : decode cX5_digest 142 = .ok (.invokevirtual 163, 3) := by decide +kernel
theorem dX5_digest_145 : decode cX5_digest 145 = .ok (.i2l, 1) := by decide +kernel
theorem dX5_digest_146 : decode cX5_digest 146 = .ok (.ladd, 1) := by decide +kernel
theorem dX5_digest_147 : decode cX5_digest 147 = .ok (.lstore_n 1, 1) := by decide +kernel
theorem dX5_digest_148 : decode cX5_digest 148 = .ok (.iinc 4 1, 3) := by decide +kernel
theorem dX5_digest_151 : decode cX5_digest 151 = .ok (.goto (-27), 3) := by decide +kernel
theorem dX5_digest_154 : decode cX5_digest 154 = .ok (.iinc 3 1, 3) := by decide +kernel
theorem dX5_digest_157 : decode cX5_digest 157 = .ok (.goto (-67), 3) := by decide +kernel
theorem dX5_digest_160 : decode cX5_digest 160 = .ok (.iconst 1, 1) := by decide +kernel
theorem dX5_digest_161 : decode cX5_digest 161 = .ok (.istore_n 3, 1) := by decide +kernel
theorem dX5_digest_162 : decode cX5_digest 162 = .ok (.iload_n 3, 1) := by decide +kernel
theorem dX5_digest_163 : decode cX5_digest 163 = .ok (.iconst 5, 1) := by decide +kernel
theorem dX5_digest_164 : decode cX5_digest 164 = .ok (.if_icmp .ge 23, 3) := by decide +kernel
theorem dX5_digest_167 : decode cX5_digest 167 = .ok (.lload_n 1, 1) := by decide +kernel
theorem dX5_digest_168 : decode cX5_digest 168 = .ok (.ldc2_w 175, 3) := by decide +kernel
theorem dX5_digest_171 : decode cX5_digest 171 = .ok (.lmul, 1) := by decide +kernel
theorem dX5_digest_172 : decode cX5_digest 172 = .ok (.aload_n 0, 1) := by decide +kernel
theorem dX5_digest_173 : decode cX5_digest 173 = .ok (.getfield 23, 3) := by decide +kernel
theorem dX5_digest_176 : decode cX5_digest 176 = .ok (.iload_n 3, 1) := by decide +kernel
theorem dX5_digest_177 : decode cX5_digest 177 = .ok (.iaload, 1) := by decide +kernel
theorem dX5_digest_178 : decode cX5_digest 178 = .ok (.i2l, 1) := by decide +kernel
theorem dX5_digest_179 : decode cX5_digest 179 = .ok (.ladd, 1) := by decide +kernel
theorem dX5_digest_180 : decode cX5_digest 180 = .ok (.lstore_n 1, 1) := by decide +kernel
theorem dX5_digest_181 : decode cX5_digest 181 = .ok (.iinc 3 1, 3) := by decide +kernel
theorem dX5_digest_184 : decode cX5_digest 184 = .ok (.goto (-22), 3) := by decide +kernel
theorem dX5_digest_187 : decode cX5_digest 187 = .ok (.lload_n 1, 1) := by decide +kernel
theorem dX5_digest_188 : decode cX5_digest 188 = .ok (.ldc2_w 175, 3) := by decide +kernel
theorem dX5_digest_191 : decode cX5_digest 191 = .ok (.lmul, 1) := by decide +kernel
theorem dX5_digest_192 : decode cX5_digest 192 = .ok (.aload_n 0, 1) := by decide +kernel
theorem dX5_digest_193 : decode cX5_digest 193 = .ok (.getfield 106, 3) := by decide +kernel
theorem dX5_digest_196 : decode cX5_digest 196 = .ok (.ifCond .eq 7, 3) := by decide +kernel
theorem dX5_digest_199 : decode cX5_digest 199 = .ok (.lconst 1, 1) := by decide +kernel
theorem dX5_digest_200 : decode cX5_digest 200 = .ok (.goto 4, 3) := by decide +kernel
theorem dX5_digest_203 : decode cX5_digest 203 = .ok (.lconst 0, 1) := by decide +kernel
theorem dX5_digest_204 : decode cX5_digest 204 = .ok (.ladd, 1) := by decide +kernel
theorem dX5_digest_205 : decode cX5_digest 205 = .ok (.lstore_n 1, 1) := by decide +kernel
theorem dX5_digest_206 : decode cX5_digest 206 = .ok (.aload_n 0, 1) := by decide +kernel
theorem dX5_digest_207 : decode cX5_digest 207 = .ok (.getfield 106, 3) := by decide +kernel
theorem dX5_digest_210 : decode cX5_digest 210 = .ok (.ifCond .eq 57, 3) := by decide +kernel
theorem dX5_digest_213 : decode cX5_digest 213 = .ok (.lload_n 1, 1) := by decide +kernel
theorem dX5_digest_214 : decode cX5_digest 214 = .ok (.ldc2_w 175, 3) := by decide +kernel
theorem dX5_digest_217 : decode cX5_digest 217 = .ok (.lmul, 1) := by decide +kernel
theorem dX5_digest_218 : decode cX5_digest 218 = .ok (.aload_n 0, 1) := by decide +kernel
theorem dX5_digest_219 : decode cX5_digest 219 = .ok (.getfield 100, 3) := by decide +kernel
theorem dX5_digest_222 : decode cX5_digest 222 = .ok (.i2l, 1) := by decide +kernel
theorem dX5_digest_223 : decode cX5_digest 223 = .ok (.ladd, 1) := by decide +kernel
theorem dX5_digest_224 : decode cX5_digest 224 = .ok (.lstore_n 1, 1) := by decide +kernel
theorem dX5_digest_225 : decode cX5_digest 225 = .ok (.iconst 0, 1) := by decide +kernel
theorem dX5_digest_226 : decode cX5_digest 226 = .ok (.istore_n 3, 1) := by decide +kernel
theorem dX5_digest_227 : decode cX5_digest 227 = .ok (.iload_n 3, 1) := by decide +kernel
theorem dX5_digest_228 : decode cX5_digest 228 = .ok (.aload_n 0, 1) := by decide +kernel
theorem dX5_digest_229 : decode cX5_digest 229 = .ok (.getfield 100, 3) := by decide +kernel
theorem dX5_digest_232 : decode cX5_digest 232 = .ok (.if_icmp .ge 23, 3) := by decide +kernel
theorem dX5_digest_235 : decode cX5_digest 235 = .ok (.lload_n 1, 1) := by decide +kernel
theorem dX5_digest_236 : decode cX5_digest 236 = .ok (.ldc2_w 175, 3) := by decide +kernel
theorem dX5_digest_239 : decode cX5_digest 239 = .ok (.lmul, 1) := by decide +kernel
theorem dX5_digest_240 : decode cX5_digest 240 = .ok (.aload_n 0, 1) := by decide +kernel
theorem dX5_digest_241 : decode cX5_digest 241 = .ok (.getfield 26, 3) := by decide +kernel
theorem dX5_digest_244 : decode cX5_digest 244 = .ok (.iload_n 3, 1) := by decide +kernel
theorem dX5_digest_245 : decode cX5_digest 245 = .ok (.iaload, 1) := by decide +kernel
theorem dX5_digest_246 : decode cX5_digest 246 = .ok (.i2l, 1) := by decide +kernel
theorem dX5_digest_247 : decode cX5_digest 247 = .ok (.ladd, 1) := by decide +kernel
theorem dX5_digest_248 : decode cX5_digest 248 = .ok (.lstore_n 1, 1) := by decide +kernel
theorem dX5_digest_249 : decode cX5_digest 249 = .ok (.iinc 3 1, 3) := by decide +kernel
theorem dX5_digest_252 : decode cX5_digest 252 = .ok (.goto (-25), 3) := by decide +kernel
theorem dX5_digest_255 : decode cX5_digest 255 = .ok (.lload_n 1, 1) := by decide +kernel
theorem dX5_digest_256 : decode cX5_digest 256 = .ok (.ldc2_w 175, 3) := by decide +kernel
theorem dX5_digest_259 : decode cX5_digest 259 = .ok (.lmul, 1) := by decide +kernel
theorem dX5_digest_260 : decode cX5_digest 260 = .ok (.aload_n 0, 1) := by decide +kernel
theorem dX5_digest_261 : decode cX5_digest 261 = .ok (.getfield 110, 3) := by decide +kernel
theorem dX5_digest_264 : decode cX5_digest 264 = .ok (.i2l, 1) := by decide +kernel
theorem dX5_digest_265 : decode cX5_digest 265 = .ok (.ladd, 1) := by decide +kernel
theorem dX5_digest_266 : decode cX5_digest 266 = .ok (.lstore_n 1, 1) := by decide +kernel
theorem dX5_digest_267 : decode cX5_digest 267 = .ok (.lload_n 1, 1) := by decide +kernel
theorem dX5_digest_268 : decode cX5_digest 268 = .ok (.ldc2_w 175, 3) := by decide +kernel
theorem dX5_digest_271 : decode cX5_digest 271 = .ok (.lmul, 1) := by decide +kernel
theorem dX5_digest_272 : decode cX5_digest 272 = .ok (.aload_n 0, 1) := by decide +kernel
theorem dX5_digest_273 : decode cX5_digest 273 = .ok (.getfield 145, 3) := by decide +kernel
theorem dX5_digest_276 : decode cX5_digest 276 = .ok (.i2l, 1) := by decide +kernel
theorem dX5_digest_277 : decode cX5_digest 277 = .ok (.ladd, 1) := by decide +kernel
theorem dX5_digest_278 : decode cX5_digest 278 = .ok (.lstore_n 1, 1) := by decide +kernel
theorem dX5_digest_279 : decode cX5_digest 279 = .ok (.iconst 0, 1) := by decide +kernel
theorem dX5_digest_280 : decode cX5_digest 280 = .ok (.istore_n 3, 1) := by decide +kernel
theorem dX5_digest_281 : decode cX5_digest 281 = .ok (.iload_n 3, 1) := by decide +kernel
theorem dX5_digest_282 : decode cX5_digest 282 = .ok (.aload_n 0, 1) := by decide +kernel
theorem dX5_digest_283 : decode cX5_digest 283 = .ok (.getfield 145, 3) := by decide +kernel
theorem dX5_digest_286 : decode cX5_digest 286 = .ok (.if_icmp .ge 39, 3) := by decide +kernel
theorem dX5_digest_289 : decode cX5_digest 289 = .ok (.iconst 0, 1) := by decide +kernel
theorem dX5_digest_290 : decode cX5_digest 290 = .ok (.istore 4, 2) := by decide +kernel
theorem dX5_digest_292 : decode cX5_digest 292 = .ok (.iload 4, 2) := by decide +kernel
theorem dX5_digest_294 : decode cX5_digest 294 = .ok (.iconst 4, 1) := by decide +kernel
theorem dX5_digest_295 : decode cX5_digest 295 = .ok (.if_icmp .ge 24, 3) := by decide +kernel
theorem dX5_digest_298 : decode cX5_digest 298 = .ok (.lload_n 1, 1) := by decide +kernel
theorem dX5_digest_299 : decode cX5_digest 299 = .ok (.ldc2_w 175, 3) := by decide +kernel
theorem dX5_digest_302 : decode cX5_digest 302 = .ok (.lmul, 1) := by decide +kernel
theorem dX5_digest_303 : decode cX5_digest 303 = .ok (.aload_n 0, 1) := by decide +kernel
theorem dX5_digest_304 : decode cX5_digest 304 = .ok (.iload_n 3, 1) := by decide +kernel
theorem dX5_digest_305 : decode cX5_digest 305 = .ok (.iload 4, 2) := by decide +kernel
theorem dX5_digest_307 : decode cX5_digest 307 = .ok (.invokevirtual 167, 3) := by decide +kernel
theorem dX5_digest_310 : decode cX5_digest 310 = .ok (.i2l, 1) := by decide +kernel
theorem dX5_digest_311 : decode cX5_digest 311 = .ok (.ladd, 1) := by decide +kernel
theorem dX5_digest_312 : decode cX5_digest 312 = .ok (.lstore_n 1, 1) := by decide +kernel
theorem dX5_digest_313 : decode cX5_digest 313 = .ok (.iinc 4 1, 3) := by decide +kernel
theorem dX5_digest_316 : decode cX5_digest 316 = .ok (.goto (-24), 3) := by decide +kernel
theorem dX5_digest_319 : decode cX5_digest 319 = .ok (.iinc 3 1, 3) := by decide +kernel
theorem dX5_digest_322 : decode cX5_digest 322 = .ok (.goto (-41), 3) := by decide +kernel
theorem dX5_digest_325 : decode cX5_digest 325 = .ok (.lload_n 1, 1) := by decide +kernel
theorem dX5_digest_326 : decode cX5_digest 326 = .ok (.ldc2_w 175, 3) := by decide +kernel
theorem dX5_digest_329 : decode cX5_digest 329 = .ok (.lmul, 1) := by decide +kernel
theorem dX5_digest_330 : decode cX5_digest 330 = .ok (.aload_n 0, 1) := by decide +kernel
theorem dX5_digest_331 : decode cX5_digest 331 = .ok (.getfield 39, 3) := by decide +kernel
theorem dX5_digest_334 : decode cX5_digest 334 = .ok (.i2l, 1) := by decide +kernel
theorem dX5_digest_335 : decode cX5_digest 335 = .ok (.ladd, 1) := by decide +kernel
theorem dX5_digest_336 : decode cX5_digest 336 = .ok (.lreturn, 1) := by decide +kernel
theorem dJ11_isValidCodePoint_9a6ad_0 : decode cJ11_isValidCodePoint_9a6ad 0 = .ok (.iload_n 0, 1) := by decide +kernel
theorem dJ11_isValidCodePoint_9a6ad_1 : decode cJ11_isValidCodePoint_9a6ad 1 = .ok (.bipush 16, 2) := by decide +kernel
theorem dJ11_isValidCodePoint_9a6ad_3 : decode cJ11_isValidCodePoint_9a6ad 3 = .ok (.iushr, 1) := by decide +kernel
theorem dJ11_isValidCodePoint_9a6ad_4 : decode cJ11_isValidCodePoint_9a6ad 4 = .ok (.istore_n 1, 1) := by decide +kernel
theorem dJ11_isValidCodePoint_9a6ad_5 : decode cJ11_isValidCodePoint_9a6ad 5 = .ok (.iload_n 1, 1) := by decide +kernel
theorem dJ11_isValidCodePoint_9a6ad_6 : decode cJ11_isValidCodePoint_9a6ad 6 = .ok (.bipush 17, 2) := by decide +kernel
theorem dJ11_isValidCodePoint_9a6ad_8 : decode cJ11_isValidCodePoint_9a6ad 8 = .ok (.if_icmp .ge 7, 3) := by decide +kernel
theorem dJ11_isValidCodePoint_9a6ad_11 : decode cJ11_isValidCodePoint_9a6ad 11 = .ok (.iconst 1, 1) := by decide +kernel
theorem dJ11_isValidCodePoint_9a6ad_12 : decode cJ11_isValidCodePoint_9a6ad 12 = .ok (.goto 4, 3) := by decide +kernel
theorem dJ11_isValidCodePoint_9a6ad_15 : decode cJ11_isValidCodePoint_9a6ad 15 = .ok (.iconst 0, 1) := by decide +kernel
theorem dJ11_isValidCodePoint_9a6ad_16 : decode cJ11_isValidCodePoint_9a6ad 16 = .ok (.ireturn, 1) := by decide +kernel
theorem dJ11_highSurrogate_5068e_0 : decode cJ11_highSurrogate_5068e 0 = .ok (.iload_n 0, 1) := by decide +kernel
theorem dJ11_highSurrogate_5068e_1 : decode cJ11_highSurrogate_5068e 1 = .ok (.bipush 10, 2) := by decide +kernel
theorem dJ11_highSurrogate_5068e_3 : decode cJ11_highSurrogate_5068e 3 = .ok (.iushr, 1) := by decide +kernel
theorem dJ11_highSurrogate_5068e_4 : decode cJ11_highSurrogate_5068e 4 = .ok (.ldc 110, 2) := by decide +kernel
theorem dJ11_highSurrogate_5068e_6 : decode cJ11_highSurrogate_5068e 6 = .ok (.iadd, 1) := by decide +kernel
theorem dJ11_highSurrogate_5068e_7 : decode cJ11_highSurrogate_5068e 7 = .ok (.i2c, 1) := by decide +kernel
theorem dJ11_highSurrogate_5068e_8 : decode cJ11_highSurrogate_5068e 8 = .ok (.ireturn, 1) := by decide +kernel
theorem dJ11_lowSurrogate_5068e_0 : decode cJ11_lowSurrogate_5068e 0 = .ok (.iload_n 0, 1) := by decide +kernel
theorem dJ11_lowSurrogate_5068e_1 : decode cJ11_lowSurrogate_5068e 1 = .ok (.sipush 1023, 3) := by decide +kernel
theorem dJ11_lowSurrogate_5068e_4 : decode cJ11_lowSurrogate_5068e 4 = .ok (.iand, 1) := by decide +kernel
theorem dJ11_lowSurrogate_5068e_5 : decode cJ11_lowSurrogate_5068e 5 = .ok (.ldc 76, 2) := by decide +kernel
theorem dJ11_lowSurrogate_5068e_7 : decode cJ11_lowSurrogate_5068e 7 = .ok (.iadd, 1) := by decide +kernel
theorem dJ11_lowSurrogate_5068e_8 : decode cJ11_lowSurrogate_5068e 8 = .ok (.i2c, 1) := by decide +kernel
theorem dJ11_lowSurrogate_5068e_9 : decode cJ11_lowSurrogate_5068e 9 = .ok (.ireturn, 1) := by decide +kernel
theorem dJ9_abs_0f7a4_0 : decode cJ9_abs_0f7a4 0 = .ok (.iload_n 0, 1) := by decide +kernel
theorem dJ9_abs_0f7a4_1 : decode cJ9_abs_0f7a4 1 = .ok (.ifCond .ge 8, 3) := by decide +kernel
theorem dJ9_abs_0f7a4_4 : decode cJ9_abs_0f7a4 4 = .ok (.iload_n 0, 1) := by decide +kernel
theorem dJ9_abs_0f7a4_5 : decode cJ9_abs_0f7a4 5 = .ok (.ineg, 1) := by decide +kernel
theorem dJ9_abs_0f7a4_6 : decode cJ9_abs_0f7a4 6 = .ok (.goto 4, 3) := by decide +kernel
theorem dJ9_abs_0f7a4_9 : decode cJ9_abs_0f7a4 9 = .ok (.iload_n 0, 1) := by decide +kernel
theorem dJ9_abs_0f7a4_10 : decode cJ9_abs_0f7a4 10 = .ok (.ireturn, 1) := by decide +kernel
theorem dJ9_max_7cf53_0 : decode cJ9_max_7cf53 0 = .ok (.iload_n 0, 1) := by decide +kernel
theorem dJ9_max_7cf53_1 : decode cJ9_max_7cf53 1 = .ok (.iload_n 1, 1) := by decide +kernel
theorem dJ9_max_7cf53_2 : decode cJ9_max_7cf53 2 = .ok (.if_icmp .lt 7, 3) := by decide +kernel
theorem dJ9_max_7cf53_5 : decode cJ9_max_7cf53 5 = .ok (.iload_n 0, 1) := by decide +kernel
theorem dJ9_max_7cf53_6 : decode cJ9_max_7cf53 6 = .ok (.goto 4, 3) := by decide +kernel
theorem dJ9_max_7cf53_9 : decode cJ9_max_7cf53 9 = .ok (.iload_n 1, 1) := by decide +kernel
theorem dJ9_max_7cf53_10 : decode cJ9_max_7cf53 10 = .ok (.ireturn, 1) := by decide +kernel
theorem dJ9_min_7cf53_0 : decode cJ9_min_7cf53 0 = .ok (.iload_n 0, 1) := by decide +kernel
theorem dJ9_min_7cf53_1 : decode cJ9_min_7cf53 1 = .ok (.iload_n 1, 1) := by decide +kernel
theorem dJ9_min_7cf53_2 : decode cJ9_min_7cf53 2 = .ok (.if_icmp .gt 7, 3) := by decide +kernel
theorem dJ9_min_7cf53_5 : decode cJ9_min_7cf53 5 = .ok (.iload_n 0, 1) := by decide +kernel
theorem dJ9_min_7cf53_6 : decode cJ9_min_7cf53 6 = .ok (.goto 4, 3) := by decide +kernel
theorem dJ9_min_7cf53_9 : decode cJ9_min_7cf53 9 = .ok (.iload_n 1, 1) := by decide +kernel
theorem dJ9_min_7cf53_10 : decode cJ9_min_7cf53 10 = .ok (.ireturn, 1) := by decide +kernel
set_option maxRecDepth 20000 in
theorem ggJ0_length_8abf5_J0_coder_7d493 : GoodIn wsJ0_length_8abf5 wsJ0_coder_7d493 := goodIn_r _ [6, 7, 8] (by decide +kernel) (by decide +kernel)
set_option maxRecDepth 20000 in
theorem gJ0_length_8abf5_J0_coder_7d493 : GoodIn wsJ0_length_8abf5 (wsV RJ0 335 RJ0 yJ0_coder_7d493 wsJ0_coder_7d493) := goodIn_app (goodIn_of _ (by decide +kernel)) ggJ0_length_8abf5_J0_coder_7d493
theorem dJ0_length_8abf5_0 : decode cJ0_length_8abf5 0 = .ok (.aload_n 0, 1) := by decide +kernel
theorem dJ0_length_8abf5_1 : decode cJ0_length_8abf5 1 = .ok (.getfield 9, 3) := by decide +kernel
theorem dJ0_length_8abf5_4 : decode cJ0_length_8abf5 4 = .ok (.arraylength, 1) := by decide +kernel
theorem dJ0_length_8abf5_5 : decode cJ0_length_8abf5 5 = .ok (.aload_n 0, 1) := by decide +kernel
theorem dJ0_length_8abf5_6 : decode cJ0_length_8abf5 6 = .ok (.invokevirtual 335, 3) := by decide +kernel
theorem dJ0_length_8abf5_9 : decode cJ0_length_8abf5 9 = .ok (.ishr, 1) := by decide +kernel
theorem dJ0_length_8abf5_10 : decode cJ0_length_8abf5 10 = .ok (.ireturn, 1) := by decide +kernel
set_option maxRecDepth 20000 in
theorem ggJ0_indexOf_0f7a4_J0_indexOf_7cf53 : GoodIn wsJ0_indexOf_0f7a4 wsJ0_indexOf_7cf53 := goodIn_r _ [5, 6, 7, 8, 9, 4, 10, 11, 12, 13, 14, 15, 16, 17, 18, 19, 20, 21, 22, 23, 24, 25, 26, 27, 28, 29, 30, 31, 32, 33, 34, 35, 36, 37, 38, 39, 40, 41, 42, 43, 44, 45, 46, 47, 48, 49, 50, 51, 52, 53, 54, 55, 56, 57, 58, 59, 60, 61, 62, 63, 64, 65, 66, 67, 68, 69, 70, 71, 72, 73, 74, 75, 76, 77, 78, 79, 80, 81, 82, 83, 84, 85] (by decide +kernel) (by decide +kernel)
set_option maxRecDepth 20000 in
theorem gJ0_indexOf_0f7a4_J0_indexOf_7cf53 : GoodIn wsJ0_indexOf_0f7a4 (wsV RJ0 633 RJ0 yJ0_indexOf_7cf53 wsJ0_indexOf_7cf53) := goodIn_app (goodIn_of _ (by decide +kernel)) ggJ0_indexOf_0f7a4_J0_indexOf_7cf53
theorem dJ0_indexOf_0f7a4_0 : decode cJ0_indexOf_0f7a4 0 = .ok (.aload_n 0, 1) := by decide +kernel
theorem dJ0_indexOf_0f7a4_1 : decode cJ0_indexOf_0f7a4 1 = .ok (.iload_n 1, 1) := by decide +kernel
theorem dJ0_indexOf_0f7a4_2 : decode cJ0_indexOf_0f7a4 2 = .ok (.iconst 0, 1) := by decide +kernel
theorem dJ0_indexOf_0f7a4_3 : decode cJ0_indexOf_0f7a4 3 = .ok (.invokevirtual 633, 3) := by decide +kernel
theorem dJ0_indexOf_0f7a4_6 : decode cJ0_indexOf_0f7a4 6 = .ok (.ireturn, 1) := by decide +kernel
set_option maxRecDepth 20000 in
theorem ggJ0_indexOf_7cf53_J0_isLatin1_aae02 : GoodIn wsJ0_indexOf_7cf53 wsJ0_isLatin1_aae02 := goodIn_r _ [6, 7, 8] (by decide +kernel) (by decide +kernel)
set_option maxRecDepth 20000 in
theorem gJ0_indexOf_7cf53_J0_isLatin1_aae02 : GoodIn wsJ0_indexOf_7cf53 (wsV RJ0 492 RJ0 yJ0_isLatin1_aae02 wsJ0_isLatin1_aae02) := goodIn_app (goodIn_of _ (by decide +kernel)) ggJ0_indexOf_7cf53_J0_isLatin1_aae02
set_option maxRecDepth 20000 in
theorem ggJ0_indexOf_7cf53_J0_length_8abf5 : GoodIn wsJ0_indexOf_7cf53 wsJ0_length_8abf5 := goodIn_r _ [12, 1, 13, 14, 15, 5, 16, 7, 8] (by decide +kernel) (by decide +kernel)
set_option maxRecDepth 20000 in
theorem gJ0_indexOf_7cf53_J0_length_8abf5 : GoodIn wsJ0_indexOf_7cf53 (wsV RJ0 505 RJ0 yJ0_length_8abf5 wsJ0_length_8abf5) := goodIn_app (goodIn_of _ (by decide +kernel)) ggJ0_indexOf_7cf53_J0_length_8abf5
set_option maxRecDepth 20000 in
theorem ggJ0_indexOf_7cf53_J1_indexOf_4cfef : GoodIn wsJ0_indexOf_7cf53 wsJ1_indexOf_4cfef := goodIn_r _ [20, 21, 22, 23, 24, 25, 26, 27, 28, 29, 19, 30, 31, 32, 33] (by decide +kernel) (by decide +kernel)
set_option maxRecDepth 20000 in
theorem gJ0_indexOf_7cf53_J1_indexOf_4cfef : GoodIn wsJ0_indexOf_7cf53 (va_wsS RJ0 637 yJ1_indexOf_4cfef wsJ1_indexOf_4cfef) := goodIn_app (goodIn_of _ (by decide +kernel)) ggJ0_indexOf_7cf53_J1_indexOf_4cfef
set_option maxRecDepth 20000 in
theorem ggJ0_indexOf_7cf53_J2_indexOf_4cfef : GoodIn wsJ0_indexOf_7cf53 wsJ2_indexOf_4cfef := goodIn_r _ [37, 38, 22, 23, 24, 39, 26, 27, 40, 41, 42, 36, 43, 44, 45, 46, 47, 48, 49, 50, 51, 5, 52, 53, 54, 55, 56, 57, 58, 59, 60, 61, 62, 63, 64, 65, 66, 67, 68, 69, 70, 71, 72, 73, 74, 75, 76, 77, 78, 79, 80, 81] (by decide +kernel) (by decide +kernel)
set_option maxRecDepth 20000 in
theorem gJ0_indexOf_7cf53_J2_indexOf_4cfef : GoodIn wsJ0_indexOf_7cf53 (va_wsS RJ0 640 yJ2_indexOf_4cfef wsJ2_indexOf_4cfef) := goodIn_app (goodIn_of _ (by decide +kernel)) ggJ0_indexOf_7cf53_J2_indexOf_4cfef
theorem dJ0_indexOf_7cf53_0 : decode cJ0_indexOf_7cf53 0 = .ok (.aload_n 0, 1) := by decide +kernel
theorem dJ0_indexOf_7cf53_1 : decode cJ0_indexOf_7cf53 1 = .ok (.invokevirtual 492, 3) := by decide +kernel
theorem dJ0_indexOf_7cf53_4 : decode cJ0_indexOf_7cf53 4 = .ok (.ifCond .eq 19, 3) := by decide +kernel
theorem dJ0_indexOf_7cf53_7 : decode cJ0_indexOf_7cf53 7 = .ok (.aload_n 0, 1) := by decide +kernel
theorem dJ0_indexOf_7cf53_8 : decode cJ0_indexOf_7cf53 8 = .ok (.getfield 9, 3) := by decide +kernel
theorem dJ0_indexOf_7cf53_11 : decode cJ0_indexOf_7cf53 11 = .ok (.iload_n 1, 1) := by decide +kernel
theorem dJ0_indexOf_7cf53_12 : decode cJ0_indexOf_7cf53 12 = .ok (.iload_n 2, 1) := by decide +kernel
theorem dJ0_indexOf_7cf53_13 : decode cJ0_indexOf_7cf53 13 = .ok (.aload_n 0, 1) := by decide +kernel
theorem dJ0_indexOf_7cf53_14 : decode cJ0_indexOf_7cf53 14 = .ok (.invokevirtual 505, 3) := by decide +kernel
theorem dJ0_indexOf_7cf53_17 : decode cJ0_indexOf_7cf53 17 = .ok (.invokestatic 637, 3) := by decide +kernel
theorem dJ0_indexOf_7cf53_20 : decode cJ0_indexOf_7cf53 20 = .ok (.goto 16, 3) := by decide +kernel
theorem dJ0_indexOf_7cf53_23 : decode cJ0_indexOf_7cf53 23 = .ok (.aload_n 0, 1) := by decide +kernel
theorem dJ0_indexOf_7cf53_24 : decode cJ0_indexOf_7cf53 24 = .ok (.getfield 9, 3) := by decide +kernel
theorem dJ0_indexOf_7cf53_27 : decode cJ0_indexOf_7cf53 27 = .ok (.iload_n 1, 1) := by decide +kernel
theorem dJ0_indexOf_7cf53_28 : decode cJ0_indexOf_7cf53 28 = .ok (.iload_n 2, 1) := by decide +kernel
theorem dJ0_indexOf_7cf53_29 : decode cJ0_indexOf_7cf53 29 = .ok (.aload_n 0, 1) := by decide +kernel
theorem dJ0_indexOf_7cf53_30 : decode cJ0_indexOf_7cf53 30 = .ok (.invokevirtual 505, 3) := by decide +kernel
theorem dJ0_indexOf_7cf53_33 : decode cJ0_indexOf_7cf53 33 = .ok (.invokestatic 640, 3) := by decide +kernel
theorem dJ0_indexOf_7cf53_36 : decode cJ0_indexOf_7cf53 36 = .ok (.ireturn, 1) := by decide +kernel
theorem dJ0_coder_7d493_0 : decode cJ0_coder_7d493 0 = .ok (.getstatic 38, 3) := by decide +kernel
theorem dJ0_coder_7d493_3 : decode cJ0_coder_7d493 3 = .ok (.ifCond .eq 10, 3) := by decide +kernel
theorem dJ0_coder_7d493_6 : decode cJ0_coder_7d493 6 = .ok (.aload_n 0, 1) := by decide +kernel
theorem dJ0_coder_7d493_7 : decode cJ0_coder_7d493 7 = .ok (.getfield 15, 3) := by decide +kernel
theorem dJ0_coder_7d493_10 : decode cJ0_coder_7d493 10 = .ok (.goto 4, 3) := by decide +kernel
theorem dJ0_coder_7d493_13 : decode cJ0_coder_7d493 13 = .ok (.iconst 1, 1) := by decide +kernel
theorem dJ0_coder_7d493_14 : decode cJ0_coder_7d493 14 = .ok (.ireturn, 1) := by decide +kernel
theorem dJ0_isLatin1_aae02_0 : decode cJ0_isLatin1_aae02 0 = .ok (.getstatic 38, 3) := by decide +kernel
theorem dJ0_isLatin1_aae02_3 : decode cJ0_isLatin1_aae02 3 = .ok (.ifCond .eq 14, 3) := by decide +kernel
theorem dJ0_isLatin1_aae02_6 : decode cJ0_isLatin1_aae02 6 = .ok (.aload_n 0, 1) := by decide +kernel
theorem dJ0_isLatin1_aae02_7 : decode cJ0_isLatin1_aae02 7 = .ok (.getfield 15, 3) := by decide +kernel
theorem dJ0_isLatin1_aae02_10 : decode cJ0_isLatin1_aae02 10 = .ok (.ifCond .ne 7, 3) := by decide +kernel
theorem dJ0_isLatin1_aae02_13 : decode cJ0_isLatin1_aae02 13 = .ok (.iconst 1, 1) := by decide +kernel
theorem dJ0_isLatin1_aae02_14 : decode cJ0_isLatin1_aae02 14 = .ok (.goto 4, 3) := by decide +kernel
theorem dJ0_isLatin1_aae02_17 : decode cJ0_isLatin1_aae02 17 = .ok (.iconst 0, 1) := by decide +kernel
theorem dJ0_isLatin1_aae02_18 : decode cJ0_isLatin1_aae02 18 = .ok (.ireturn, 1) := by decide +kernel
set_option maxRecDepth 20000 in
theorem ggJ0_checkBoundsBeginEnd_23922_J3_checkFromToIndex_8c36e : GoodIn wsJ0_checkBoundsBeginEnd_23922 wsJ3_checkFromToIndex_8c36e := goodIn_r _ [5] (by decide +kernel) (by decide +kernel)
set_option maxRecDepth 20000 in
theorem gJ0_checkBoundsBeginEnd_23922_J3_checkFromToIndex_8c36e : GoodIn wsJ0_checkBoundsBeginEnd_23922 (va_wsS RJ0 1062 yJ3_checkFromToIndex_8c36e wsJ3_checkFromToIndex_8c36e) := goodIn_app (goodIn_of _ (by decide +kernel)) ggJ0_checkBoundsBeginEnd_23922_J3_checkFromToIndex_8c36e
theorem dJ0_checkBoundsBeginEnd_23922_0 : decode cJ0_checkBoundsBeginEnd_23922 0 = .ok (.iload_n 0, 1) := by decide +kernel
theorem dJ0_checkBoundsBeginEnd_23922_1 : decode cJ0_checkBoundsBeginEnd_23922 1 = .ok (.iload_n 1, 1) := by decide +kernel
theorem dJ0_checkBoundsBeginEnd_23922_2 : decode cJ0_checkBoundsBeginEnd_23922 2 = .ok (.iload_n 2, 1) := by decide +kernel
theorem dJ0_checkBoundsBeginEnd_23922_3 : decode cJ0_checkBoundsBeginEnd_23922 3 = .ok (.getstatic 1053, 3) := by decide +kernel
theorem dJ0_checkBoundsBeginEnd_23922_6 : decode cJ0_checkBoundsBeginEnd_23922 6 = .ok (.invokestatic 1062, 3) := by decide +kernel
theorem dJ0_checkBoundsBeginEnd_23922_9 : decode cJ0_checkBoundsBeginEnd_23922 9 = .ok (.pop, 1) := by decide +kernel
theorem dJ0_checkBoundsBeginEnd_23922_10 : decode cJ0_checkBoundsBeginEnd_23922 10 = .ok (.return_, 1) := by decide +kernel
theorem dJ1_canEncode_9a6ad_0 : decode cJ1_canEncode_9a6ad 0 = .ok (.iload_n 0, 1) := by decide +kernel
theorem dJ1_canEncode_9a6ad_1 : decode cJ1_canEncode_9a6ad 1 = .ok (.ifCond .lt 14, 3) := by decide +kernel
theorem dJ1_canEncode_9a6ad_4 : decode cJ1_canEncode_9a6ad 4 = .ok (.iload_n 0, 1) := by decide +kernel
theorem dJ1_canEncode_9a6ad_5 : decode cJ1_canEncode_9a6ad 5 = .ok (.sipush 255, 3) := by decide +kernel
theorem dJ1_canEncode_9a6ad_8 : decode cJ1_canEncode_9a6ad 8 = .ok (.if_icmp .gt 7, 3) := by decide +kernel
theorem dJ1_canEncode_9a6ad_11 : decode cJ1_canEncode_9a6ad 11 = .ok (.iconst 1, 1) := by decide +kernel
theorem dJ1_canEncode_9a6ad_12 : decode cJ1_canEncode_9a6ad 12 = .ok (.goto 4, 3) := by decide +kernel
theorem dJ1_canEncode_9a6ad_15 : decode cJ1_canEncode_9a6ad 15 = .ok (.iconst 0, 1) := by decide +kernel
theorem dJ1_canEncode_9a6ad_16 : decode cJ1_canEncode_9a6ad 16 = .ok (.ireturn, 1) := by decide +kernel
set_option maxRecDepth 20000 in
theorem ggJ1_indexOf_4cfef_J1_canEncode_9a6ad : GoodIn wsJ1_indexOf_4cfef wsJ1_canEncode_9a6ad := goodIn_r _ [11] (by decide +kernel) (by decide +kernel)
set_option maxRecDepth 20000 in
theorem gJ1_indexOf_4cfef_J1_canEncode_9a6ad : GoodIn wsJ1_indexOf_4cfef (va_wsS RJ1 88 yJ1_canEncode_9a6ad wsJ1_canEncode_9a6ad) := goodIn_app (goodIn_of _ (by decide +kernel)) ggJ1_indexOf_4cfef_J1_canEncode_9a6ad
set_option maxRecDepth 20000 in
theorem ggJ1_indexOf_4cfef_J1_indexOfChar_4cfef : GoodIn wsJ1_indexOf_4cfef wsJ1_indexOfChar_4cfef := goodIn_r _ [14] (by decide +kernel) (by decide +kernel)
set_option maxRecDepth 20000 in
theorem gJ1_indexOf_4cfef_J1_indexOfChar_4cfef : GoodIn wsJ1_indexOf_4cfef (va_wsS RJ1 95 yJ1_indexOfChar_4cfef wsJ1_indexOfChar_4cfef) := goodIn_app (goodIn_of _ (by decide +kernel)) ggJ1_indexOf_4cfef_J1_indexOfChar_4cfef
theorem dJ1_indexOf_4cfef_0 : decode cJ1_indexOf_4cfef 0 = .ok (.iload_n 1, 1) := by decide +kernel
theorem dJ1_indexOf_4cfef_1 : decode cJ1_indexOf_4cfef 1 = .ok (.invokestatic 88, 3) := by decide +kernel
theorem dJ1_indexOf_4cfef_4 : decode cJ1_indexOf_4cfef 4 = .ok (.ifCond .ne 5, 3) := by decide +kernel
theorem dJ1_indexOf_4cfef_7 : decode cJ1_indexOf_4cfef 7 = .ok (.iconst (-1), 1) := by decide +kernel
theorem dJ1_indexOf_4cfef_8 : decode cJ1_indexOf_4cfef 8 = .ok (.ireturn, 1) := by decide +kernel
theorem dJ1_indexOf_4cfef_9 : decode cJ1_indexOf_4cfef 9 = .ok (.iload_n 2, 1) := by decide +kernel
theorem dJ1_indexOf_4cfef_10 : decode cJ1_indexOf_4cfef 10 = .ok (.iconst 0, 1) := by decide +kernel
theorem dJ1_indexOf_4cfef_11 : decode cJ1_indexOf_4cfef 11 = .ok (.invokestatic 92, 3) := by decide +kernel
theorem dJ1_indexOf_4cfef_14 : decode cJ1_indexOf_4cfef 14 = .ok (.istore_n 2, 1) := by decide +kernel
theorem dJ1_indexOf_4cfef_15 : decode cJ1_indexOf_4cfef 15 = .ok (.iload_n 3, 1) := by decide +kernel
theorem dJ1_indexOf_4cfef_16 : decode cJ1_indexOf_4cfef 16 = .ok (.aload_n 0, 1) := by decide +kernel
theorem dJ1_indexOf_4cfef_17 : decode cJ1_indexOf_4cfef 17 = .ok (.arraylength, 1) := by decide +kernel
theorem dJ1_indexOf_4cfef_18 : decode cJ1_indexOf_4cfef 18 = .ok (.invokestatic 38, 3) := by decide +kernel
theorem dJ1_indexOf_4cfef_21 : decode cJ1_indexOf_4cfef 21 = .ok (.istore_n 3, 1) := by decide +kernel
theorem dJ1_indexOf_4cfef_22 : decode cJ1_indexOf_4cfef 22 = .ok (.iload_n 2, 1) := by decide +kernel
theorem dJ1_indexOf_4cfef_23 : decode cJ1_indexOf_4cfef 23 = .ok (.iload_n 3, 1) := by decide +kernel
theorem dJ1_indexOf_4cfef_24 : decode cJ1_indexOf_4cfef 24 = .ok (.if_icmp .lt 5, 3) := by decide +kernel
theorem dJ1_indexOf_4cfef_27 : decode cJ1_indexOf_4cfef 27 = .ok (.iconst (-1), 1) := by decide +kernel
theorem dJ1_indexOf_4cfef_28 : decode cJ1_indexOf_4cfef 28 = .ok (.ireturn, 1) := by decide +kernel
theorem dJ1_indexOf_4cfef_29 : decode cJ1_indexOf_4cfef 29 = .ok (.aload_n 0, 1) := by decide +kernel
theorem dJ1_indexOf_4cfef_30 : decode cJ1_indexOf_4cfef 30 = .ok (.iload_n 1, 1) := by decide +kernel
theorem dJ1_indexOf_4cfef_31 : decode cJ1_indexOf_4cfef 31 = .ok (.iload_n 2, 1) := by decide +kernel
theorem dJ1_indexOf_4cfef_32 : decode cJ1_indexOf_4cfef 32 = .ok (.iload_n 3, 1) := by decide +kernel
theorem dJ1_indexOf_4cfef_33 : decode cJ1_indexOf_4cfef 33 = .ok (.invokestatic 95, 3) := by decide +kernel
theorem dJ1_indexOf_4cfef_36 : decode cJ1_indexOf_4cfef 36 = .ok (.ireturn, 1) := by decide +kernel
theorem dJ1_indexOfChar_4cfef_0 : decode cJ1_indexOfChar_4cfef 0 = .ok (.iload_n 1, 1) := by decide +kernel
theorem dJ1_indexOfChar_4cfef_1 : decode cJ1_indexOfChar_4cfef 1 = .ok (.i2b, 1) := by decide +kernel
theorem dJ1_indexOfChar_4cfef_2 : decode cJ1_indexOfChar_4cfef 2 = .ok (.istore 4, 2) := by decide +kernel
theorem dJ1_indexOfChar_4cfef_4 : decode cJ1_indexOfChar_4cfef 4 = .ok (.iload_n 2, 1) := by decide +kernel
theorem dJ1_indexOfChar_4cfef_5 : decode cJ1_indexOfChar_4cfef 5 = .ok (.istore 5, 2) := by decide +kernel
theorem dJ1_indexOfChar_4cfef_7 : decode cJ1_indexOfChar_4cfef 7 = .ok (.iload 5, 2) := by decide +kernel
theorem dJ1_indexOfChar_4cfef_9 : decode cJ1_indexOfChar_4cfef 9 = .ok (.iload_n 3, 1) := by decide +kernel
theorem dJ1_indexOfChar_4cfef_10 : decode cJ1_indexOfChar_4cfef 10 = .ok (.if_icmp .ge 21, 3) := by decide +kernel
theorem dJ1_indexOfChar_4cfef_13 : decode cJ1_indexOfChar_4cfef 13 = .ok (.aload_n 0, 1) := by decide +kernel
theorem dJ1_indexOfChar_4cfef_14 : decode cJ1_indexOfChar_4cfef 14 = .ok (.iload 5, 2) := by decide +kernel
theorem dJ1_indexOfChar_4cfef_16 : decode cJ1_indexOfChar_4cfef 16 = .ok (.baload, 1) := by decide +kernel
theorem dJ1_indexOfChar_4cfef_17 : decode cJ1_indexOfChar_4cfef 17 = .ok (.iload 4, 2) := by decide +kernel
theorem dJ1_indexOfChar_4cfef_19 : decode cJ1_indexOfChar_4cfef 19 = .ok (.if_icmp .ne 6, 3) := by decide +kernel
theorem dJ1_indexOfChar_4cfef_22 : decode cJ1_indexOfChar_4cfef 22 = .ok (.iload 5, 2) := by decide +kernel
theorem dJ1_indexOfChar_4cfef_24 : decode cJ1_indexOfChar_4cfef 24 = .ok (.ireturn, 1) := by decide +kernel
theorem dJ1_indexOfChar_4cfef_25 : decode cJ1_indexOfChar_4cfef 25 = .ok (.iinc 5 1, 3) := by decide +kernel
theorem dJ1_indexOfChar_4cfef_28 : decode cJ1_indexOfChar_4cfef 28 = .ok (.goto (-21), 3) := by decide +kernel
theorem dJ1_indexOfChar_4cfef_31 : decode cJ1_indexOfChar_4cfef 31 = .ok (.iconst (-1), 1) := by decide +kernel
theorem dJ1_indexOfChar_4cfef_32 : decode cJ1_indexOfChar_4cfef 32 = .ok (.ireturn, 1) := by decide +kernel
set_option maxRecDepth 20000 in
theorem ggJ2_getChar_3b067_J2_length_9d52b : GoodIn wsJ2_getChar_3b067 wsJ2_length_9d52b := goodIn_r _ [7] (by decide +kernel) (by decide +kernel)
set_option maxRecDepth 20000 in
theorem gJ2_getChar_3b067_J2_length_9d52b : GoodIn wsJ2_getChar_3b067 (va_wsS RJ2 48 yJ2_length_9d52b wsJ2_length_9d52b) := goodIn_app (goodIn_of _ (by decide +kernel)) ggJ2_getChar_3b067_J2_length_9d52b
theorem dJ2_getChar_3b067_0 : decode cJ2_getChar_3b067 0 = .ok (.getstatic 44, 3) := by decide +kernel
theorem dJ2_getChar_3b067_3 : decode cJ2_getChar_3b067 3 = .ok (.ifCond .ne 25, 3) := by decide +kernel
theorem dJ2_getChar_3b067_6 : decode cJ2_getChar_3b067 6 = .ok (.iload_n 1, 1) := by decide +kernel
theorem dJ2_getChar_3b067_7 : decode cJ2_getChar_3b067 7 = .ok (.ifCond .lt 11, 3) := by decide +kernel
theorem dJ2_getChar_3b067_10 : decode cJ2_getChar_3b067 10 = .ok (.iload_n 1, 1) := by decide +kernel
theorem dJ2_getChar_3b067_11 : decode cJ2_getChar_3b067 11 = .ok (.aload_n 0, 1) := by decide +kernel
theorem dJ2_getChar_3b067_12 : decode cJ2_getChar_3b067 12 = .ok (.invokestatic 48, 3) := by decide +kernel
theorem dJ2_getChar_3b067_15 : decode cJ2_getChar_3b067 15 = .ok (.if_icmp .lt 13, 3) := by decide +kernel
theorem dJ2_getChar_3b067_18 : decode cJ2_getChar_3b067 18 = .ok (.new 52, 3) := by decide +kernel
theorem dJ2_getChar_3b067_21 : decode cJ2_getChar_3b067 21 = .ok (.dup, 1) := by decide +kernel
theorem dJ2_getChar_3b067_22 : decode cJ2_getChar_3b067 22 = .ok (.ldc 54, 2) := by decide +kernel
theorem dJ2_getChar_3b067_24 : decode cJ2_getChar_3b067 24 = .ok (.invokespecial 56, 3) := by decide +kernel
theorem dJ2_getChar_3b067_27 : decode cJ2_getChar_3b067 27 = .ok (.athrow, 1) := by decide +kernel
theorem dJ2_getChar_3b067_28 : decode cJ2_getChar_3b067 28 = .ok (.iload_n 1, 1) := by decide +kernel
theorem dJ2_getChar_3b067_29 : decode cJ2_getChar_3b067 29 = .ok (.iconst 1, 1) := by decide +kernel
theorem dJ2_getChar_3b067_30 : decode cJ2_getChar_3b067 30 = .ok (.ishl, 1) := by decide +kernel
theorem dJ2_getChar_3b067_31 : decode cJ2_getChar_3b067 31 = .ok (.istore_n 1, 1) := by decide +kernel
theorem dJ2_getChar_3b067_32 : decode cJ2_getChar_3b067 32 = .ok (.aload_n 0, 1) := by decide +kernel
theorem dJ2_getChar_3b067_33 : decode cJ2_getChar_3b067 33 = .ok (.iload_n 1, 1) := by decide +kernel
theorem dJ2_getChar_3b067_34 : decode cJ2_getChar_3b067 34 = .ok (.iinc 1 1, 3) := by decide +kernel
theorem dJ2_getChar_3b067_37 : decode cJ2_getChar_3b067 37 = .ok (.baload, 1) := by decide +kernel
theorem dJ2_getChar_3b067_38 : decode cJ2_getChar_3b067 38 = .ok (.sipush 255, 3) := by decide +kernel
theorem dJ2_getChar_3b067_41 : decode cJ2_getChar_3b067 41 = .ok (.iand, 1) := by decide +kernel
theorem dJ2_getChar_3b067_42 : decode cJ2_getChar_3b067 42 = .ok (.getstatic 59, 3) := by decide +kernel
theorem dJ2_getChar_3b067_45 : decode cJ2_getChar_3b067 45 = .ok (.ishl, 1) := by decide +kernel
theorem dJ2_getChar_3b067_46 : decode cJ2_getChar_3b067 46 = .ok (.aload_n 0, 1) := by decide +kernel
theorem dJ2_getChar_3b067_47 : decode cJ2_getChar_3b067 47 = .ok (.iload_n 1, 1) := by decide +kernel
theorem dJ2_getChar_3b067_48 : decode cJ2_getChar_3b067 48 = .ok (.baload, 1) := by decide +kernel
theorem dJ2_getChar_3b067_49 : decode cJ2_getChar_3b067 49 = .ok (.sipush 255, 3) := by decide +kernel
theorem dJ2_getChar_3b067_52 : decode cJ2_getChar_3b067 52 = .ok (.iand, 1) := by decide +kernel
theorem dJ2_getChar_3b067_53 : decode cJ2_getChar_3b067 53 = .ok (.getstatic 63, 3) := by decide +kernel
theorem dJ2_getChar_3b067_56 : decode cJ2_getChar_3b067 56 = .ok (.ishl, 1) := by decide +kernel
theorem dJ2_getChar_3b067_57 : decode cJ2_getChar_3b067 57 = .ok (.ior, 1) := by decide +kernel
theorem dJ2_getChar_3b067_58 : decode cJ2_getChar_3b067 58 = .ok (.i2c, 1) := by decide +kernel
theorem dJ2_getChar_3b067_59 : decode cJ2_getChar_3b067 59 = .ok (.ireturn, 1) := by decide +kernel
theorem dJ2_length_9d52b_0 : decode cJ2_length_9d52b 0 = .ok (.aload_n 0, 1) := by decide +kernel
theorem dJ2_length_9d52b_1 : decode cJ2_length_9d52b 1 = .ok (.arraylength, 1) := by decide +kernel
theorem dJ2_length_9d52b_2 : decode cJ2_length_9d52b 2 = .ok (.iconst 1, 1) := by decide +kernel
theorem dJ2_length_9d52b_3 : decode cJ2_length_9d52b 3 = .ok (.ishr, 1) := by decide +kernel
theorem dJ2_length_9d52b_4 : decode cJ2_length_9d52b 4 = .ok (.ireturn, 1) := by decide +kernel
set_option maxRecDepth 20000 in
theorem ggJ2_indexOf_4cfef_J2_indexOfChar_4cfef : GoodIn wsJ2_indexOf_4cfef wsJ2_indexOfChar_4cfef := goodIn_r _ [12, 13, 14, 11, 15, 16, 17, 18, 19, 20, 21, 22, 23, 24, 25, 26, 27, 28, 29, 30, 31, 32, 33, 34, 35, 36] (by decide +kernel) (by decide +kernel)
set_option maxRecDepth 20000 in
theorem gJ2_indexOf_4cfef_J2_indexOfChar_4cfef : GoodIn wsJ2_indexOf_4cfef (va_wsS RJ2 228 yJ2_indexOfChar_4cfef wsJ2_indexOfChar_4cfef) := goodIn_app (goodIn_of _ (by decide +kernel)) ggJ2_indexOf_4cfef_J2_indexOfChar_4cfef
set_option maxRecDepth 20000 in
theorem ggJ2_indexOf_4cfef_J2_indexOfSupplementary_4cfef : GoodIn wsJ2_indexOf_4cfef wsJ2_indexOfSupplementary_4cfef := goodIn_r _ [39, 40, 41, 42, 43, 44, 45, 46, 47, 48, 49, 50, 51, 13, 14, 11, 15, 16, 17, 18, 19, 20, 21, 22, 23, 24, 25, 26, 27, 31, 32, 33, 34, 35, 36] (by decide +kernel) (by decide +kernel)
set_option maxRecDepth 20000 in
theorem gJ2_indexOf_4cfef_J2_indexOfSupplementary_4cfef : GoodIn wsJ2_indexOf_4cfef (va_wsS RJ2 232 yJ2_indexOfSupplementary_4cfef wsJ2_indexOfSupplementary_4cfef) := goodIn_app (goodIn_of _ (by decide +kernel)) ggJ2_indexOf_4cfef_J2_indexOfSupplementary_4cfef
theorem dJ2_indexOf_4cfef_0 : decode cJ2_indexOf_4cfef 0 = .ok (.iload_n 2, 1) := by decide +kernel
theorem dJ2_indexOf_4cfef_1 : decode cJ2_indexOf_4cfef 1 = .ok (.iconst 0, 1) := by decide +kernel
theorem dJ2_indexOf_4cfef_2 : decode cJ2_indexOf_4cfef 2 = .ok (.invokestatic 224, 3) := by decide +kernel
theorem dJ2_indexOf_4cfef_5 : decode cJ2_indexOf_4cfef 5 = .ok (.istore_n 2, 1) := by decide +kernel
theorem dJ2_indexOf_4cfef_6 : decode cJ2_indexOf_4cfef 6 = .ok (.iload_n 3, 1) := by decide +kernel
theorem dJ2_indexOf_4cfef_7 : decode cJ2_indexOf_4cfef 7 = .ok (.aload_n 0, 1) := by decide +kernel
theorem dJ2_indexOf_4cfef_8 : decode cJ2_indexOf_4cfef 8 = .ok (.arraylength, 1) := by decide +kernel
theorem dJ2_indexOf_4cfef_9 : decode cJ2_indexOf_4cfef 9 = .ok (.iconst 1, 1) := by decide +kernel
theorem dJ2_indexOf_4cfef_10 : decode cJ2_indexOf_4cfef 10 = .ok (.ishr, 1) := by decide +kernel
theorem dJ2_indexOf_4cfef_11 : decode cJ2_indexOf_4cfef 11 = .ok (.invokestatic 183, 3) := by decide +kernel
theorem dJ2_indexOf_4cfef_14 : decode cJ2_indexOf_4cfef 14 = .ok (.istore_n 3, 1) := by decide +kernel
theorem dJ2_indexOf_4cfef_15 : decode cJ2_indexOf_4cfef 15 = .ok (.iload_n 2, 1) := by decide +kernel
theorem dJ2_indexOf_4cfef_16 : decode cJ2_indexOf_4cfef 16 = .ok (.iload_n 3, 1) := by decide +kernel
theorem dJ2_indexOf_4cfef_17 : decode cJ2_indexOf_4cfef 17 = .ok (.if_icmp .lt 5, 3) := by decide +kernel
theorem dJ2_indexOf_4cfef_20 : decode cJ2_indexOf_4cfef 20 = .ok (.iconst (-1), 1) := by decide +kernel
theorem dJ2_indexOf_4cfef_21 : decode cJ2_indexOf_4cfef 21 = .ok (.ireturn, 1) := by decide +kernel
theorem dJ2_indexOf_4cfef_22 : decode cJ2_indexOf_4cfef 22 = .ok (.iload_n 1, 1) := by decide +kernel
theorem dJ2_indexOf_4cfef_23 : decode cJ2_indexOf_4cfef 23 = .ok (.ldc 227, 2) := by decide +kernel
theorem dJ2_indexOf_4cfef_25 : decode cJ2_indexOf_4cfef 25 = .ok (.if_icmp .ge 11, 3) := by decide +kernel
theorem dJ2_indexOf_4cfef_28 : decode cJ2_indexOf_4cfef 28 = .ok (.aload_n 0, 1) := by decide +kernel
theorem dJ2_indexOf_4cfef_29 : decode cJ2_indexOf_4cfef 29 = .ok (.iload_n 1, 1) := by decide +kernel
theorem dJ2_indexOf_4cfef_30 : decode cJ2_indexOf_4cfef 30 = .ok (.iload_n 2, 1) := by decide +kernel
theorem dJ2_indexOf_4cfef_31 : decode cJ2_indexOf_4cfef 31 = .ok (.iload_n 3, 1) := by decide +kernel
theorem dJ2_indexOf_4cfef_32 : decode cJ2_indexOf_4cfef 32 = .ok (.invokestatic 228, 3) := by decide +kernel
theorem dJ2_indexOf_4cfef_35 : decode cJ2_indexOf_4cfef 35 = .ok (.ireturn, 1) := by decide +kernel
theorem dJ2_indexOf_4cfef_36 : decode cJ2_indexOf_4cfef 36 = .ok (.aload_n 0, 1) := by decide +kernel
theorem dJ2_indexOf_4cfef_37 : decode cJ2_indexOf_4cfef 37 = .ok (.iload_n 1, 1) := by decide +kernel
theorem dJ2_indexOf_4cfef_38 : decode cJ2_indexOf_4cfef 38 = .ok (.iload_n 2, 1) := by decide +kernel
theorem dJ2_indexOf_4cfef_39 : decode cJ2_indexOf_4cfef 39 = .ok (.iload_n 3, 1) := by decide +kernel
theorem dJ2_indexOf_4cfef_40 : decode cJ2_indexOf_4cfef 40 = .ok (.invokestatic 232, 3) := by decide +kernel
theorem dJ2_indexOf_4cfef_43 : decode cJ2_indexOf_4cfef 43 = .ok (.ireturn, 1) := by decide +kernel
set_option maxRecDepth 20000 in
theorem ggJ2_indexOfChar_4cfef_J2_checkBoundsBeginEnd_d044e : GoodIn wsJ2_indexOfChar_4cfef wsJ2_checkBoundsBeginEnd_d044e := goodIn_r _ [4, 5, 6, 3, 7, 8, 9, 10, 11, 12, 13, 14, 15, 16] (by decide +kernel) (by decide +kernel)
set_option maxRecDepth 20000 in
theorem gJ2_indexOfChar_4cfef_J2_checkBoundsBeginEnd_d044e : GoodIn wsJ2_indexOfChar_4cfef (va_wsS RJ2 96 yJ2_checkBoundsBeginEnd_d044e wsJ2_checkBoundsBeginEnd_d044e) := goodIn_app (goodIn_of _ (by decide +kernel)) ggJ2_indexOfChar_4cfef_J2_checkBoundsBeginEnd_d044e
set_option maxRecDepth 20000 in
theorem ggJ2_indexOfChar_4cfef_J2_indexOfCharUnsafe_4cfef : GoodIn wsJ2_indexOfChar_4cfef wsJ2_indexOfCharUnsafe_4cfef := goodIn_r _ [19, 20, 21, 3, 22, 23, 24, 25, 5, 6, 7] (by decide +kernel) (by decide +kernel)
set_option maxRecDepth 20000 in
theorem gJ2_indexOfChar_4cfef_J2_indexOfCharUnsafe_4cfef : GoodIn wsJ2_indexOfChar_4cfef (va_wsS RJ2 244 yJ2_indexOfCharUnsafe_4cfef wsJ2_indexOfCharUnsafe_4cfef) := goodIn_app (goodIn_of _ (by decide +kernel)) ggJ2_indexOfChar_4cfef_J2_indexOfCharUnsafe_4cfef
theorem dJ2_indexOfChar_4cfef_0 : decode cJ2_indexOfChar_4cfef 0 = .ok (.iload_n 2, 1) := by decide +kernel
theorem dJ2_indexOfChar_4cfef_1 : decode cJ2_indexOfChar_4cfef 1 = .ok (.iload_n 3, 1) := by decide +kernel
theorem dJ2_indexOfChar_4cfef_2 : decode cJ2_indexOfChar_4cfef 2 = .ok (.aload_n 0, 1) := by decide +kernel
theorem dJ2_indexOfChar_4cfef_3 : decode cJ2_indexOfChar_4cfef 3 = .ok (.invokestatic 96, 3) := by decide +kernel
theorem dJ2_indexOfChar_4cfef_6 : decode cJ2_indexOfChar_4cfef 6 = .ok (.aload_n 0, 1) := by decide +kernel
theorem dJ2_indexOfChar_4cfef_7 : decode cJ2_indexOfChar_4cfef 7 = .ok (.iload_n 1, 1) := by decide +kernel
theorem dJ2_indexOfChar_4cfef_8 : decode cJ2_indexOfChar_4cfef 8 = .ok (.iload_n 2, 1) := by decide +kernel
theorem dJ2_indexOfChar_4cfef_9 : decode cJ2_indexOfChar_4cfef 9 = .ok (.iload_n 3, 1) := by decide +kernel
theorem dJ2_indexOfChar_4cfef_10 : decode cJ2_indexOfChar_4cfef 10 = .ok (.invokestatic 244, 3) := by decide +kernel
theorem dJ2_indexOfChar_4cfef_13 : decode cJ2_indexOfChar_4cfef 13 = .ok (.ireturn, 1) := by decide +kernel
set_option maxRecDepth 20000 in
theorem ggJ2_indexOfCharUnsafe_4cfef_J2_getChar_3b067 : GoodIn wsJ2_indexOfCharUnsafe_4cfef wsJ2_getChar_3b067 := goodIn_r _ [4, 5, 6, 7, 8, 9, 3, 10] (by decide +kernel) (by decide +kernel)
set_option maxRecDepth 20000 in
theorem gJ2_indexOfCharUnsafe_4cfef_J2_getChar_3b067 : GoodIn wsJ2_indexOfCharUnsafe_4cfef (va_wsS RJ2 71 yJ2_getChar_3b067 wsJ2_getChar_3b067) := goodIn_app (goodIn_of _ (by decide +kernel)) ggJ2_indexOfCharUnsafe_4cfef_J2_getChar_3b067
theorem dJ2_indexOfCharUnsafe_4cfef_0 : decode cJ2_indexOfCharUnsafe_4cfef 0 = .ok (.iload_n 2, 1) := by decide +kernel
theorem dJ2_indexOfCharUnsafe_4cfef_1 : decode cJ2_indexOfCharUnsafe_4cfef 1 = .ok (.istore 4, 2) := by decide +kernel
theorem dJ2_indexOfCharUnsafe_4cfef_3 : decode cJ2_indexOfCharUnsafe_4cfef 3 = .ok (.iload 4, 2) := by decide +kernel
theorem dJ2_indexOfCharUnsafe_4cfef_5 : decode cJ2_indexOfCharUnsafe_4cfef 5 = .ok (.iload_n 3, 1) := by decide +kernel
theorem dJ2_indexOfCharUnsafe_4cfef_6 : decode cJ2_indexOfCharUnsafe_4cfef 6 = .ok (.if_icmp .ge 22, 3) := by decide +kernel
theorem dJ2_indexOfCharUnsafe_4cfef_9 : decode cJ2_indexOfCharUnsafe_4cfef 9 = .ok (.aload_n 0, 1) := by decide +kernel
theorem dJ2_indexOfCharUnsafe_4cfef_10 : decode cJ2_indexOfCharUnsafe_4cfef 10 = .ok (.iload 4, 2) := by decide +kernel
theorem dJ2_indexOfCharUnsafe_4cfef_12 : decode cJ2_indexOfCharUnsafe_4cfef 12 = .ok (.invokestatic 71, 3) := by decide +kernel
theorem dJ2_indexOfCharUnsafe_4cfef_15 : decode cJ2_indexOfCharUnsafe_4cfef 15 = .ok (.iload_n 1, 1) := by decide +kernel
theorem dJ2_indexOfCharUnsafe_4cfef_16 : decode cJ2_indexOfCharUnsafe_4cfef 16 = .ok (.if_icmp .ne 6, 3) := by decide +kernel
theorem dJ2_indexOfCharUnsafe_4cfef_19 : decode cJ2_indexOfCharUnsafe_4cfef 19 = .ok (.iload 4, 2) := by decide +kernel
theorem dJ2_indexOfCharUnsafe_4cfef_21 : decode cJ2_indexOfCharUnsafe_4cfef 21 = .ok (.ireturn, 1) := by decide +kernel
theorem dJ2_indexOfCharUnsafe_4cfef_22 : decode cJ2_indexOfCharUnsafe_4cfef 22 = .ok (.iinc 4 1, 3) := by decide +kernel
theorem dJ2_indexOfCharUnsafe_4cfef_25 : decode cJ2_indexOfCharUnsafe_4cfef 25 = .ok (.goto (-22), 3) := by decide +kernel
theorem dJ2_indexOfCharUnsafe_4cfef_28 : decode cJ2_indexOfCharUnsafe_4cfef 28 = .ok (.iconst (-1), 1) := by decide +kernel
theorem dJ2_indexOfCharUnsafe_4cfef_29 : decode cJ2_indexOfCharUnsafe_4cfef 29 = .ok (.ireturn, 1) := by decide +kernel
set_option maxRecDepth 20000 in
theorem ggJ2_indexOfSupplementary_4cfef_J11_isValidCodePoint_9a6ad : GoodIn wsJ2_indexOfSupplementary_4cfef wsJ11_isValidCodePoint_9a6ad := goodIn_r _ [4] (by decide +kernel) (by decide +kernel)
set_option maxRecDepth 20000 in
theorem gJ2_indexOfSupplementary_4cfef_J11_isValidCodePoint_9a6ad : GoodIn wsJ2_indexOfSupplementary_4cfef (va_wsS RJ2 164 yJ11_isValidCodePoint_9a6ad wsJ11_isValidCodePoint_9a6ad) := goodIn_app (goodIn_of _ (by decide +kernel)) ggJ2_indexOfSupplementary_4cfef_J11_isValidCodePoint_9a6ad
set_option maxRecDepth 20000 in
theorem ggJ2_indexOfSupplementary_4cfef_J11_highSurrogate_5068e : GoodIn wsJ2_indexOfSupplementary_4cfef wsJ11_highSurrogate_5068e := goodIn_r _ [7, 8] (by decide +kernel) (by decide +kernel)
set_option maxRecDepth 20000 in
theorem gJ2_indexOfSupplementary_4cfef_J11_highSurrogate_5068e : GoodIn wsJ2_indexOfSupplementary_4cfef (va_wsS RJ2 157 yJ11_highSurrogate_5068e wsJ11_highSurrogate_5068e) := goodIn_app (goodIn_of _ (by decide +kernel)) ggJ2_indexOfSupplementary_4cfef_J11_highSurrogate_5068e
set_option maxRecDepth 20000 in
theorem ggJ2_indexOfSupplementary_4cfef_J11_lowSurrogate_5068e : GoodIn wsJ2_indexOfSupplementary_4cfef wsJ11_lowSurrogate_5068e := goodIn_r _ [11, 12] (by decide +kernel) (by decide +kernel)
set_option maxRecDepth 20000 in
theorem gJ2_indexOfSupplementary_4cfef_J11_lowSurrogate_5068e : GoodIn wsJ2_indexOfSupplementary_4cfef (va_wsS RJ2 161 yJ11_lowSurrogate_5068e wsJ11_lowSurrogate_5068e) := goodIn_app (goodIn_of _ (by decide +kernel)) ggJ2_indexOfSupplementary_4cfef_J11_lowSurrogate_5068e
set_option maxRecDepth 20000 in
theorem ggJ2_indexOfSupplementary_4cfef_J2_checkBoundsBeginEnd_d044e : GoodIn wsJ2_indexOfSupplementary_4cfef wsJ2_checkBoundsBeginEnd_d044e := goodIn_r _ [16, 17, 18, 15, 19, 20, 21, 22, 23, 24, 25, 26, 27, 28] (by decide +kernel) (by decide +kernel)
set_option maxRecDepth 20000 in
theorem gJ2_indexOfSupplementary_4cfef_J2_checkBoundsBeginEnd_d044e : GoodIn wsJ2_indexOfSupplementary_4cfef (va_wsS RJ2 96 yJ2_checkBoundsBeginEnd_d044e wsJ2_checkBoundsBeginEnd_d044e) := goodIn_app (goodIn_of _ (by decide +kernel)) ggJ2_indexOfSupplementary_4cfef_J2_checkBoundsBeginEnd_d044e
set_option maxRecDepth 20000 in
theorem ggJ2_indexOfSupplementary_4cfef_J2_getChar_3b067 : GoodIn wsJ2_indexOfSupplementary_4cfef wsJ2_getChar_3b067 := goodIn_r _ [31, 32, 33, 34, 17, 18, 15, 19] (by decide +kernel) (by decide +kernel)
set_option maxRecDepth 20000 in
theorem gJ2_indexOfSupplementary_4cfef_J2_getChar_3b067 : GoodIn wsJ2_indexOfSupplementary_4cfef (va_wsS RJ2 71 yJ2_getChar_3b067 wsJ2_getChar_3b067) := goodIn_app (goodIn_of _ (by decide +kernel)) ggJ2_indexOfSupplementary_4cfef_J2_getChar_3b067
theorem dJ2_indexOfSupplementary_4cfef_0 : decode cJ2_indexOfSupplementary_4cfef 0 = .ok (.iload_n 1, 1) := by decide +kernel
theorem dJ2_indexOfSupplementary_4cfef_1 : decode cJ2_indexOfSupplementary_4cfef 1 = .ok (.invokestatic 164, 3) := by decide +kernel
theorem dJ2_indexOfSupplementary_4cfef_4 : decode cJ2_indexOfSupplementary_4cfef 4 = .ok (.ifCond .eq 65, 3) := by decide +kernel
theorem dJ2_indexOfSupplementary_4cfef_7 : decode cJ2_indexOfSupplementary_4cfef 7 = .ok (.iload_n 1, 1) := by decide +kernel
theorem dJ2_indexOfSupplementary_4cfef_8 : decode cJ2_indexOfSupplementary_4cfef 8 = .ok (.invokestatic 157, 3) := by decide +kernel
theorem dJ2_indexOfSupplementary_4cfef_11 : decode cJ2_indexOfSupplementary_4cfef 11 = .ok (.istore 4, 2) := by decide +kernel
theorem dJ2_indexOfSupplementary_4cfef_13 : decode cJ2_indexOfSupplementary_4cfef 13 = .ok (.iload_n 1, 1) := by decide +kernel
theorem dJ2_indexOfSupplementary_4cfef_14 : decode cJ2_indexOfSupplementary_4cfef 14 = .ok (.invokestatic 161, 3) := by decide +kernel
theorem dJ2_indexOfSupplementary_4cfef_17 : decode cJ2_indexOfSupplementary_4cfef 17 = .ok (.istore 5, 2) := by decide +kernel
theorem dJ2_indexOfSupplementary_4cfef_19 : decode cJ2_indexOfSupplementary_4cfef 19 = .ok (.iload_n 2, 1) := by decide +kernel
theorem dJ2_indexOfSupplementary_4cfef_20 : decode cJ2_indexOfSupplementary_4cfef 20 = .ok (.iload_n 3, 1) := by decide +kernel
theorem dJ2_indexOfSupplementary_4cfef_21 : decode cJ2_indexOfSupplementary_4cfef 21 = .ok (.aload_n 0, 1) := by decide +kernel
theorem dJ2_indexOfSupplementary_4cfef_22 : decode cJ2_indexOfSupplementary_4cfef 22 = .ok (.invokestatic 96, 3) := by decide +kernel
theorem dJ2_indexOfSupplementary_4cfef_25 : decode cJ2_indexOfSupplementary_4cfef 25 = .ok (.iload_n 2, 1) := by decide +kernel
theorem dJ2_indexOfSupplementary_4cfef_26 : decode cJ2_indexOfSupplementary_4cfef 26 = .ok (.istore 6, 2) := by decide +kernel
theorem dJ2_indexOfSupplementary_4cfef_28 : decode cJ2_indexOfSupplementary_4cfef 28 = .ok (.iload 6, 2) := by decide +kernel
theorem dJ2_indexOfSupplementary_4cfef_30 : decode cJ2_indexOfSupplementary_4cfef 30 = .ok (.iload_n 3, 1) := by decide +kernel
theorem dJ2_indexOfSupplementary_4cfef_31 : decode cJ2_indexOfSupplementary_4cfef 31 = .ok (.iconst 1, 1) := by decide +kernel
theorem dJ2_indexOfSupplementary_4cfef_32 : decode cJ2_indexOfSupplementary_4cfef 32 = .ok (.isub, 1) := by decide +kernel
theorem dJ2_indexOfSupplementary_4cfef_33 : decode cJ2_indexOfSupplementary_4cfef 33 = .ok (.if_icmp .ge 36, 3) := by decide +kernel
theorem dJ2_indexOfSupplementary_4cfef_36 : decode cJ2_indexOfSupplementary_4cfef 36 = .ok (.aload_n 0, 1) := by decide +kernel
theorem dJ2_indexOfSupplementary_4cfef_37 : decode cJ2_indexOfSupplementary_4cfef 37 = .ok (.iload 6, 2) := by decide +kernel
theorem dJ2_indexOfSupplementary_4cfef_39 : decode cJ2_indexOfSupplementary_4cfef 39 = .ok (.invokestatic 71, 3) := by decide +kernel
theorem dJ2_indexOfSupplementary_4cfef_42 : decode cJ2_indexOfSupplementary_4cfef 42 = .ok (.iload 4, 2) := by decide +kernel
theorem dJ2_indexOfSupplementary_4cfef_44 : decode cJ2_indexOfSupplementary_4cfef 44 = .ok (.if_icmp .ne 19, 3) := by decide +kernel
theorem dJ2_indexOfSupplementary_4cfef_47 : decode cJ2_indexOfSupplementary_4cfef 47 = .ok (.aload_n 0, 1) := by decide +kernel
theorem dJ2_indexOfSupplementary_4cfef_48 : decode cJ2_indexOfSupplementary_4cfef 48 = .ok (.iload 6, 2) := by decide +kernel
theorem dJ2_indexOfSupplementary_4cfef_50 : decode cJ2_indexOfSupplementary_4cfef 50 = .ok (.iconst 1, 1) := by decide +kernel
theorem dJ2_indexOfSupplementary_4cfef_51 : decode cJ2_indexOfSupplementary_4cfef 51 = .ok (.iadd, 1) := by decide +kernel
theorem dJ2_indexOfSupplementary_4cfef_52 : decode cJ2_indexOfSupplementary_4cfef 52 = .ok (.invokestatic 71, 3) := by decide +kernel
theorem dJ2_indexOfSupplementary_4cfef_55 : decode cJ2_indexOfSupplementary_4cfef 55 = .ok (.iload 5, 2) := by decide +kernel
theorem dJ2_indexOfSupplementary_4cfef_57 : decode cJ2_indexOfSupplementary_4cfef 57 = .ok (.if_icmp .ne 6, 3) := by decide +kernel
theorem dJ2_indexOfSupplementary_4cfef_60 : decode cJ2_indexOfSupplementary_4cfef 60 = .ok (.iload 6, 2) := by decide +kernel
theorem dJ2_indexOfSupplementary_4cfef_62 : decode cJ2_indexOfSupplementary_4cfef 62 = .ok (.ireturn, 1) := by decide +kernel
theorem dJ2_indexOfSupplementary_4cfef_63 : decode cJ2_indexOfSupplementary_4cfef 63 = .ok (.iinc 6 1, 3) := by decide +kernel
theorem dJ2_indexOfSupplementary_4cfef_66 : decode cJ2_indexOfSupplementary_4cfef 66 = .ok (.goto (-38), 3) := by decide +kernel
theorem dJ2_indexOfSupplementary_4cfef_69 : decode cJ2_indexOfSupplementary_4cfef 69 = .ok (.iconst (-1), 1) := by decide +kernel
theorem dJ2_indexOfSupplementary_4cfef_70 : decode cJ2_indexOfSupplementary_4cfef 70 = .ok (.ireturn, 1) := by decide +kernel
set_option maxRecDepth 20000 in
theorem ggJ2_checkBoundsBeginEnd_d044e_J2_length_9d52b : GoodIn wsJ2_checkBoundsBeginEnd_d044e wsJ2_length_9d52b := goodIn_r _ [4] (by decide +kernel) (by decide +kernel)
set_option maxRecDepth 20000 in
theorem gJ2_checkBoundsBeginEnd_d044e_J2_length_9d52b : GoodIn wsJ2_checkBoundsBeginEnd_d044e (va_wsS RJ2 48 yJ2_length_9d52b wsJ2_length_9d52b) := goodIn_app (goodIn_of _ (by decide +kernel)) ggJ2_checkBoundsBeginEnd_d044e_J2_length_9d52b
set_option maxRecDepth 20000 in
theorem ggJ2_checkBoundsBeginEnd_d044e_J0_checkBoundsBeginEnd_23922 : GoodIn wsJ2_checkBoundsBeginEnd_d044e wsJ0_checkBoundsBeginEnd_23922 := goodIn_r _ [8, 9, 10, 11, 12, 13] (by decide +kernel) (by decide +kernel)
set_option maxRecDepth 20000 in
theorem gJ2_checkBoundsBeginEnd_d044e_J0_checkBoundsBeginEnd_23922 : GoodIn wsJ2_checkBoundsBeginEnd_d044e (va_wsS RJ2 241 yJ0_checkBoundsBeginEnd_23922 wsJ0_checkBoundsBeginEnd_23922) := goodIn_app (goodIn_of _ (by decide +kernel)) ggJ2_checkBoundsBeginEnd_d044e_J0_checkBoundsBeginEnd_23922
theorem dJ2_checkBoundsBeginEnd_d044e_0 : decode cJ2_checkBoundsBeginEnd_d044e 0 = .ok (.iload_n 0, 1) := by decide +kernel
theorem dJ2_checkBoundsBeginEnd_d044e_1 : decode cJ2_checkBoundsBeginEnd_d044e 1 = .ok (.iload_n 1, 1) := by decide +kernel
theorem dJ2_checkBoundsBeginEnd_d044e_2 : decode cJ2_checkBoundsBeginEnd_d044e 2 = .ok (.aload_n 2, 1) := by decide +kernel
theorem dJ2_checkBoundsBeginEnd_d044e_3 : decode cJ2_checkBoundsBeginEnd_d044e 3 = .ok (.invokestatic 48, 3) := by decide +kernel
theorem dJ2_checkBoundsBeginEnd_d044e_6 : decode cJ2_checkBoundsBeginEnd_d044e 6 = .ok (.invokestatic 241, 3) := by decide +kernel
theorem dJ2_checkBoundsBeginEnd_d044e_9 : decode cJ2_checkBoundsBeginEnd_d044e 9 = .ok (.return_, 1) := by decide +kernel
theorem dJ7_fill_53178_0 : decode cJ7_fill_53178 0 = .ok (.iconst 0, 1) := by decide +kernel
theorem dJ7_fill_53178_1 : decode cJ7_fill_53178 1 = .ok (.istore_n 2, 1) := by decide +kernel
theorem dJ7_fill_53178_2 : decode cJ7_fill_53178 2 = .ok (.aload_n 0, 1) := by decide +kernel
theorem dJ7_fill_53178_3 : decode cJ7_fill_53178 3 = .ok (.arraylength, 1) := by decide +kernel
theorem dJ7_fill_53178_4 : decode cJ7_fill_53178 4 = .ok (.istore_n 3, 1) := by decide +kernel
theorem dJ7_fill_53178_5 : decode cJ7_fill_53178 5 = .ok (.iload_n 2, 1) := by decide +kernel
theorem dJ7_fill_53178_6 : decode cJ7_fill_53178 6 = .ok (.iload_n 3, 1) := by decide +kernel
theorem dJ7_fill_53178_7 : decode cJ7_fill_53178 7 = .ok (.if_icmp .ge 13, 3) := by decide +kernel
theorem dJ7_fill_53178_10 : decode cJ7_fill_53178 10 = .ok (.aload_n 0, 1) := by decide +kernel
theorem dJ7_fill_53178_11 : decode cJ7_fill_53178 11 = .ok (.iload_n 2, 1) := by decide +kernel
theorem dJ7_fill_53178_12 : decode cJ7_fill_53178 12 = .ok (.iload_n 1, 1) := by decide +kernel
theorem dJ7_fill_53178_13 : decode cJ7_fill_53178 13 = .ok (.iastore, 1) := by decide +kernel
theorem dJ7_fill_53178_14 : decode cJ7_fill_53178 14 = .ok (.iinc 2 1, 3) := by decide +kernel
theorem dJ7_fill_53178_17 : decode cJ7_fill_53178 17 = .ok (.goto (-12), 3) := by decide +kernel
theorem dJ7_fill_53178_20 : decode cJ7_fill_53178 20 = .ok (.return_, 1) := by decide +kernel
theorem dJ3_checkFromToIndex_8c36e_0 : decode cJ3_checkFromToIndex_8c36e 0 = .ok (.iload_n 0, 1) := by decide +kernel
theorem dJ3_checkFromToIndex_8c36e_1 : decode cJ3_checkFromToIndex_8c36e 1 = .ok (.ifCond .lt 13, 3) := by decide +kernel
theorem dJ3_checkFromToIndex_8c36e_4 : decode cJ3_checkFromToIndex_8c36e 4 = .ok (.iload_n 0, 1) := by decide +kernel
theorem dJ3_checkFromToIndex_8c36e_5 : decode cJ3_checkFromToIndex_8c36e 5 = .ok (.iload_n 1, 1) := by decide +kernel
theorem dJ3_checkFromToIndex_8c36e_6 : decode cJ3_checkFromToIndex_8c36e 6 = .ok (.if_icmp .gt 8, 3) := by decide +kernel
theorem dJ3_checkFromToIndex_8c36e_9 : decode cJ3_checkFromToIndex_8c36e 9 = .ok (.iload_n 1, 1) := by decide +kernel
theorem dJ3_checkFromToIndex_8c36e_10 : decode cJ3_checkFromToIndex_8c36e 10 = .ok (.iload_n 2, 1) := by decide +kernel
theorem dJ3_checkFromToIndex_8c36e_11 : decode cJ3_checkFromToIndex_8c36e 11 = .ok (.if_icmp .le 11, 3) := by decide +kernel
theorem dJ3_checkFromToIndex_8c36e_14 : decode cJ3_checkFromToIndex_8c36e 14 = .ok (.aload_n 3, 1) := by decide +kernel
theorem dJ3_checkFromToIndex_8c36e_15 : decode cJ3_checkFromToIndex_8c36e 15 = .ok (.iload_n 0, 1) := by decide +kernel
theorem dJ3_checkFromToIndex_8c36e_16 : decode cJ3_checkFromToIndex_8c36e 16 = .ok (.iload_n 1, 1) := by decide +kernel
theorem dJ3_checkFromToIndex_8c36e_17 : decode cJ3_checkFromToIndex_8c36e 17 = .ok (.iload_n 2, 1) := by decide +kernel
theorem dJ3_checkFromToIndex_8c36e_18 : decode cJ3_checkFromToIndex_8c36e 18 = .ok (.invokestatic 99, 3) := by decide +kernel
theorem dJ3_checkFromToIndex_8c36e_21 : decode cJ3_checkFromToIndex_8c36e 21 = .ok (.athrow, 1) := by decide +kernel
theorem dJ3_checkFromToIndex_8c36e_22 : decode cJ3_checkFromToIndex_8c36e 22 = .ok (.iload_n 0, 1) := by decide +kernel
theorem dJ3_checkFromToIndex_8c36e_23 : decode cJ3_checkFromToIndex_8c36e 23 = .ok (.ireturn, 1) := by decide +kernel
set_option maxRecDepth 20000 in
theorem ggL_addWord_X4_addWord : GoodIn wsL_addWord wsX4_addWord := goodIn_ca (goodIn_ca (goodIn_r _ [7, 8, 9, 10, 11, 12, 13, 14, 6, 15, 16, 17, 18, 19, 20, 21, 22, 23, 24, 25, 26, 27, 28, 29, 30, 31, 32, 33, 34, 35, 36, 37, 38, 39, 40, 41, 42, 43, 44, 45] (by decide +kernel) (by decide +kernel)) (goodIn_sub (fun _ h => List.mem_cons_of_mem _ (List.mem_append_left _ (List.mem_append_right _ h))) (by decide +kernel))) (goodIn_sub (fun _ h => List.mem_cons_of_mem _ (List.mem_append_right _ h)) (by decide +kernel))
set_option maxRecDepth 20000 in
theorem gL_addWord_X4_addWord : GoodIn wsL_addWord (wsV RL 7 RX4 yX4_addWord wsX4_addWord) := goodIn_app (goodIn_of _ (by decide +kernel)) ggL_addWord_X4_addWord
theorem dL_addWord_0 : decode cL_addWord 0 = .ok (.aload_n 3, 1) := by decide +kernel
theorem dL_addWord_1 : decode cL_addWord 1 = .ok (.iconst 0, 1) := by decide +kernel
theorem dL_addWord_2 : decode cL_addWord 2 = .ok (.aload_n 0, 1) := by decide +kernel
theorem dL_addWord_3 : decode cL_addWord 3 = .ok (.lload_n 1, 1) := by decide +kernel
theorem dL_addWord_4 : decode cL_addWord 4 = .ok (.invokevirtual 7, 3) := by decide +kernel
theorem dL_addWord_7 : decode cL_addWord 7 = .ok (.i2l, 1) := by decide +kernel
theorem dL_addWord_8 : decode cL_addWord 8 = .ok (.lastore, 1) := by decide +kernel
theorem dL_addWord_9 : decode cL_addWord 9 = .ok (.goto 11, 3) := by decide +kernel
theorem dL_addWord_12 : decode cL_addWord 12 = .ok (.astore 4, 2) := by decide +kernel
theorem dL_addWord_14 : decode cL_addWord 14 = .ok (.iconst 1, 1) := by decide +kernel
theorem dL_addWord_15 : decode cL_addWord 15 = .ok (.ireturn, 1) := by decide +kernel
theorem dL_addWord_16 : decode cL_addWord 16 = .ok (.astore 4, 2) := by decide +kernel
theorem dL_addWord_18 : decode cL_addWord 18 = .ok (.iconst 2, 1) := by decide +kernel
theorem dL_addWord_19 : decode cL_addWord 19 = .ok (.ireturn, 1) := by decide +kernel
theorem dL_addWord_20 : decode cL_addWord 20 = .ok (.iconst 0, 1) := by decide +kernel
theorem dL_addWord_21 : decode cL_addWord 21 = .ok (.ireturn, 1) := by decide +kernel
set_option maxRecDepth 20000 in
theorem ggL_word_X4_word : GoodIn wsL_word wsX4_word := goodIn_ca (goodIn_r _ [6, 7, 8, 9, 10, 11, 12, 13, 14, 15, 16, 17, 18, 19, 20, 21, 22, 23, 24, 25, 26, 27, 28] (by decide +kernel) (by decide +kernel)) (goodIn_sub (fun _ h => List.mem_cons_of_mem _ (List.mem_append_right _ h)) (by decide +kernel))
set_option maxRecDepth 20000 in
theorem gL_word_X4_word : GoodIn wsL_word (wsV RL 17 RX4 yX4_word wsX4_word) := goodIn_app (goodIn_of _ (by decide +kernel)) ggL_word_X4_word
theorem dL_word_0 : decode cL_word 0 = .ok (.aload_n 2, 1) := by decide +kernel
theorem dL_word_1 : decode cL_word 1 = .ok (.iconst 0, 1) := by decide +kernel
theorem dL_word_2 : decode cL_word 2 = .ok (.aload_n 0, 1) := by decide +kernel
theorem dL_word_3 : decode cL_word 3 = .ok (.iload_n 1, 1) := by decide +kernel
theorem dL_word_4 : decode cL_word 4 = .ok (.invokevirtual 17, 3) := by decide +kernel
theorem dL_word_7 : decode cL_word 7 = .ok (.lastore, 1) := by decide +kernel
theorem dL_word_8 : decode cL_word 8 = .ok (.goto 6, 3) := by decide +kernel
theorem dL_word_11 : decode cL_word 11 = .ok (.astore_n 3, 1) := by decide +kernel
theorem dL_word_12 : decode cL_word 12 = .ok (.iconst 1, 1) := by decide +kernel
theorem dL_word_13 : decode cL_word 13 = .ok (.ireturn, 1) := by decide +kernel
theorem dL_word_14 : decode cL_word 14 = .ok (.iconst 0, 1) := by decide +kernel
theorem dL_word_15 : decode cL_word 15 = .ok (.ireturn, 1) := by decide +kernel
set_option maxRecDepth 20000 in
theorem ggL_weight_X4_weight : GoodIn wsL_weight wsX4_weight := goodIn_ca (goodIn_r _ [6, 7, 8, 9, 10, 11, 12, 13, 14, 15, 16, 17, 18, 19, 20, 21, 22, 23, 5, 24, 25, 26, 27, 28, 29, 30, 31, 32, 33, 34, 35, 36, 37, 38, 39, 40, 41, 42, 43, 44, 45, 46, 47, 48, 49, 50, 51, 52, 53, 54, 55, 56, 57, 58, 59, 60, 61, 62, 63, 64, 65, 66, 67] (by decide +kernel) (by decide +kernel)) (goodIn_sub (fun _ h => List.mem_cons_of_mem _ (List.mem_append_right _ h)) (by decide +kernel))
set_option maxRecDepth 20000 in
theorem gL_weight_X4_weight : GoodIn wsL_weight (wsV RL 23 RX4 yX4_weight wsX4_weight) := goodIn_app (goodIn_of _ (by decide +kernel)) ggL_weight_X4_weight
theorem dL_weight_0 : decode cL_weight 0 = .ok (.aload_n 2, 1) := by decide +kernel
theorem dL_weight_1 : decode cL_weight 1 = .ok (.iconst 0, 1) := by decide +kernel
theorem dL_weight_2 : decode cL_weight 2 = .ok (.aload_n 0, 1) := by decide +kernel
theorem dL_weight_3 : decode cL_weight 3 = .ok (.iload_n 1, 1) := by decide +kernel
theorem dL_weight_4 : decode cL_weight 4 = .ok (.invokevirtual 23, 3) := by decide +kernel
theorem dL_weight_7 : decode cL_weight 7 = .ok (.i2l, 1) := by decide +kernel
theorem dL_weight_8 : decode cL_weight 8 = .ok (.lastore, 1) := by decide +kernel
theorem dL_weight_9 : decode cL_weight 9 = .ok (.goto 6, 3) := by decide +kernel
theorem dL_weight_12 : decode cL_weight 12 = .ok (.astore_n 3, 1) := by decide +kernel
theorem dL_weight_13 : decode cL_weight 13 = .ok (.iconst 1, 1) := by decide +kernel
theorem dL_weight_14 : decode cL_weight 14 = .ok (.ireturn, 1) := by decide +kernel
theorem dL_weight_15 : decode cL_weight 15 = .ok (.iconst 0, 1) := by decide +kernel
theorem dL_weight_16 : decode cL_weight 16 = .ok (.ireturn, 1) := by decide +kernel
set_option maxRecDepth 20000 in
theorem ggL_areNeighbours_X4_areNeighbours : GoodIn wsL_areNeighbours wsX4_areNeighbours := goodIn_ca (goodIn_r _ [6, 7, 8, 9, 10, 5, 11, 12, 13, 14, 15, 16, 17, 18, 19, 20, 21, 22, 23] (by decide +kernel) (by decide +kernel)) (goodIn_sub (fun _ h => List.mem_cons_of_mem _ (List.mem_append_right _ h)) (by decide +kernel))
set_option maxRecDepth 20000 in
theorem gL_areNeighbours_X4_areNeighbours : GoodIn wsL_areNeighbours (wsV RL 27 RX4 yX4_areNeighbours wsX4_areNeighbours) := goodIn_app (goodIn_of _ (by decide +kernel)) ggL_areNeighbours_X4_areNeighbours
theorem dL_areNeighbours_0 : decode cL_areNeighbours 0 = .ok (.aload_n 3, 1) := by decide +kernel
theorem dL_areNeighbours_1 : decode cL_areNeighbours 1 = .ok (.iconst 0, 1) := by decide +kernel
theorem dL_areNeighbours_2 : decode cL_areNeighbours 2 = .ok (.aload_n 0, 1) := by decide +kernel
theorem dL_areNeighbours_3 : decode cL_areNeighbours 3 = .ok (.iload_n 1, 1) := by decide +kernel
theorem dL_areNeighbours_4 : decode cL_areNeighbours 4 = .ok (.iload_n 2, 1) := by decide +kernel
theorem dL_areNeighbours_5 : decode cL_areNeighbours 5 = .ok (.invokevirtual 27, 3) := by decide +kernel
theorem dL_areNeighbours_8 : decode cL_areNeighbours 8 = .ok (.ifCond .eq 7, 3) := by decide +kernel
theorem dL_areNeighbours_11 : decode cL_areNeighbours 11 = .ok (.lconst 1, 1) := by decide +kernel
theorem dL_areNeighbours_12 : decode cL_areNeighbours 12 = .ok (.goto 4, 3) := by decide +kernel
theorem dL_areNeighbours_15 : decode cL_areNeighbours 15 = .ok (.lconst 0, 1) := by decide +kernel
theorem dL_areNeighbours_16 : decode cL_areNeighbours 16 = .ok (.lastore, 1) := by decide +kernel
theorem dL_areNeighbours_17 : decode cL_areNeighbours 17 = .ok (.goto 7, 3) := by decide +kernel
theorem dL_areNeighbours_20 : decode cL_areNeighbours 20 = .ok (.astore 4, 2) := by decide +kernel
theorem dL_areNeighbours_22 : decode cL_areNeighbours 22 = .ok (.iconst 1, 1) := by decide +kernel
theorem dL_areNeighbours_23 : decode cL_areNeighbours 23 = .ok (.ireturn, 1) := by decide +kernel
theorem dL_areNeighbours_24 : decode cL_areNeighbours 24 = .ok (.iconst 0, 1) := by decide +kernel
theorem dL_areNeighbours_25 : decode cL_areNeighbours 25 = .ok (.ireturn, 1) := by decide +kernel
set_option maxRecDepth 20000 in
theorem ggL_open_X4_open : GoodIn wsL_open wsX4_open := goodIn_ca (goodIn_ca (goodIn_r _ [7, 8, 9, 10, 11, 12, 13, 14, 15, 16, 17, 18, 19, 20, 21, 22, 23, 24, 25, 26, 27, 28, 29, 30, 31, 32, 33, 34, 35, 36, 37, 38, 39, 40, 41, 42, 43, 6, 44, 45, 46, 47, 48, 49, 50, 51, 52, 53, 54, 55, 56, 57, 58, 59, 60, 61, 62, 63, 64, 65, 66, 67, 68, 69, 70, 71, 72, 73, 74, 75, 76, 77, 78, 79, 80, 81, 82, 83, 84, 85, 86, 87, 88, 89, 90, 91, 92, 93, 94, 95, 96, 97, 98, 99, 100, 101, 102, 103, 104, 105, 106, 107, 108, 109, 110, 111, 112, 113, 114, 115, 116, 117, 118, 119, 120, 121, 122, 123, 124, 125, 126, 127, 128, 129, 130, 131, 132] (by decide +kernel) (by decide +kernel)) (goodIn_sub (fun _ h => List.mem_cons_of_mem _ (List.mem_append_left _ (List.mem_append_right _ h))) (by decide +kernel))) (goodIn_sub (fun _ h => List.mem_cons_of_mem _ (List.mem_append_right _ h)) (by decide +kernel))
set_option maxRecDepth 20000 in
theorem gL_open_X4_open : GoodIn wsL_open (wsV RL 31 RX4 yX4_open wsX4_open) := goodIn_app (goodIn_of _ (by decide +kernel)) ggL_open_X4_open
theorem dL_open_0 : decode cL_open 0 = .ok (.aload_n 2, 1) := by decide +kernel
theorem dL_open_1 : decode cL_open 1 = .ok (.iconst 0, 1) := by decide +kernel
theorem dL_open_2 : decode cL_open 2 = .ok (.aload_n 0, 1) := by decide +kernel
theorem dL_open_3 : decode cL_open 3 = .ok (.iload_n 1, 1) := by decide +kernel
theorem dL_open_4 : decode cL_open 4 = .ok (.invokevirtual 31, 3) := by decide +kernel
theorem dL_open_7 : decode cL_open 7 = .ok (.i2l, 1) := by decide +kernel
theorem dL_open_8 : decode cL_open 8 = .ok (.lastore, 1) := by decide +kernel
theorem dL_open_9 : decode cL_open 9 = .ok (.goto 9, 3) := by decide +kernel
theorem dL_open_12 : decode cL_open 12 = .ok (.astore_n 3, 1) := by decide +kernel
theorem dL_open_13 : decode cL_open 13 = .ok (.iconst 1, 1) := by decide +kernel
theorem dL_open_14 : decode cL_open 14 = .ok (.ireturn, 1) := by decide +kernel
theorem dL_open_15 : decode cL_open 15 = .ok (.astore_n 3, 1) := by decide +kernel
theorem dL_open_16 : decode cL_open 16 = .ok (.iconst 2, 1) := by decide +kernel
theorem dL_open_17 : decode cL_open 17 = .ok (.ireturn, 1) := by decide +kernel
theorem dL_open_18 : decode cL_open 18 = .ok (.iconst 0, 1) := by decide +kernel
theorem dL_open_19 : decode cL_open 19 = .ok (.ireturn, 1) := by decide +kernel
set_option maxRecDepth 20000 in
theorem ggL_openWord_X4_openWord : GoodIn wsL_openWord wsX4_openWord := goodIn_ca (goodIn_ca (goodIn_r _ [7, 8, 9, 10, 11, 12, 13, 14, 15, 16, 17, 18, 19, 20, 21, 22, 23, 24, 25, 26, 27, 28, 29, 30, 31, 32, 33, 34, 35, 36, 37, 38, 39, 40, 41, 42, 43, 44, 45, 46, 47, 48, 49, 50, 51, 52, 53, 6, 54, 55, 56, 57, 58, 59, 60, 61, 62, 63, 64, 65, 66, 67, 68, 69, 70, 71, 72, 73, 74, 75, 76, 77, 78, 79, 80, 81, 82, 83, 84] (by decide +kernel) (by decide +kernel)) (goodIn_sub (fun _ h => List.mem_cons_of_mem _ (List.mem_append_left _ (List.mem_append_right _ h))) (by decide +kernel))) (goodIn_sub (fun _ h => List.mem_cons_of_mem _ (List.mem_append_right _ h)) (by decide +kernel))
set_option maxRecDepth 20000 in
theorem gL_openWord_X4_openWord : GoodIn wsL_openWord (wsV RL 34 RX4 yX4_openWord wsX4_openWord) := goodIn_app (goodIn_of _ (by decide +kernel)) ggL_openWord_X4_openWord
theorem dL_openWord_0 : decode cL_openWord 0 = .ok (.aload_n 2, 1) := by decide +kernel
theorem dL_openWord_1 : decode cL_openWord 1 = .ok (.iconst 0, 1) := by decide +kernel
theorem dL_openWord_2 : decode cL_openWord 2 = .ok (.aload_n 0, 1) := by decide +kernel
theorem dL_openWord_3 : decode cL_openWord 3 = .ok (.iload_n 1, 1) := by decide +kernel
theorem dL_openWord_4 : decode cL_openWord 4 = .ok (.invokevirtual 34, 3) := by decide +kernel
theorem dL_openWord_7 : decode cL_openWord 7 = .ok (.i2l, 1) := by decide +kernel
theorem dL_openWord_8 : decode cL_openWord 8 = .ok (.lastore, 1) := by decide +kernel
theorem dL_openWord_9 : decode cL_openWord 9 = .ok (.goto 9, 3) := by decide +kernel
theorem dL_openWord_12 : decode cL_openWord 12 = .ok (.astore_n 3, 1) := by decide +kernel
theorem dL_openWord_13 : decode cL_openWord 13 = .ok (.iconst 1, 1) := by decide +kernel
theorem dL_openWord_14 : decode cL_openWord 14 = .ok (.ireturn, 1) := by decide +kernel
theorem dL_openWord_15 : decode cL_openWord 15 = .ok (.astore_n 3, 1) := by decide +kernel
theorem dL_openWord_16 : decode cL_openWord 16 = .ok (.iconst 2, 1) := by decide +kernel
theorem dL_openWord_17 : decode cL_openWord 17 = .ok (.ireturn, 1) := by decide +kernel
theorem dL_openWord_18 : decode cL_openWord 18 = .ok (.iconst 0, 1) := by decide +kernel
theorem dL_openWord_19 : decode cL_openWord 19 = .ok (.ireturn, 1) := by decide +kernel
set_option maxRecDepth 20000 in
theorem ggL_giveUp_X4_giveUp : GoodIn wsL_giveUp wsX4_giveUp := goodIn_ca (goodIn_r _ [6, 7, 8, 9, 10, 11, 12, 13, 14, 15, 16, 17, 18, 19, 20, 21, 22, 23, 24, 25, 26, 27, 28, 29, 30, 31, 32, 33, 34, 35, 36, 37, 38, 39, 40, 41, 42, 43, 44, 45, 46] (by decide +kernel) (by decide +kernel)) (goodIn_sub (fun _ h => List.mem_cons_of_mem _ (List.mem_append_right _ h)) (by decide +kernel))
set_option maxRecDepth 20000 in
theorem gL_giveUp_X4_giveUp : GoodIn wsL_giveUp (wsV RL 37 RX4 yX4_giveUp wsX4_giveUp) := goodIn_app (goodIn_of _ (by decide +kernel)) ggL_giveUp_X4_giveUp
theorem dL_giveUp_0 : decode cL_giveUp 0 = .ok (.aload_n 1, 1) := by decide +kernel
theorem dL_giveUp_1 : decode cL_giveUp 1 = .ok (.iconst 0, 1) := by decide +kernel
theorem dL_giveUp_2 : decode cL_giveUp 2 = .ok (.aload_n 0, 1) := by decide +kernel
theorem dL_giveUp_3 : decode cL_giveUp 3 = .ok (.invokevirtual 37, 3) := by decide +kernel
theorem dL_giveUp_6 : decode cL_giveUp 6 = .ok (.i2l, 1) := by decide +kernel
theorem dL_giveUp_7 : decode cL_giveUp 7 = .ok (.lastore, 1) := by decide +kernel
theorem dL_giveUp_8 : decode cL_giveUp 8 = .ok (.goto 6, 3) := by decide +kernel
theorem dL_giveUp_11 : decode cL_giveUp 11 = .ok (.astore_n 2, 1) := by decide +kernel
theorem dL_giveUp_12 : decode cL_giveUp 12 = .ok (.iconst 1, 1) := by decide +kernel
theorem dL_giveUp_13 : decode cL_giveUp 13 = .ok (.ireturn, 1) := by decide +kernel
theorem dL_giveUp_14 : decode cL_giveUp 14 = .ok (.iconst 0, 1) := by decide +kernel
theorem dL_giveUp_15 : decode cL_giveUp 15 = .ok (.ireturn, 1) := by decide +kernel
set_option maxRecDepth 20000 in
theorem ggL_lessonWord_X4_lessonWord : GoodIn wsL_lessonWord wsX4_lessonWord := goodIn_ca (goodIn_ca (goodIn_r _ [7, 8, 9, 10, 11, 12, 13, 14, 15, 16, 17, 18, 19, 20, 21, 22, 23, 24, 25, 26, 27, 28, 29, 6, 30, 31, 32, 33, 34, 35, 36, 37, 38, 39, 40, 41, 42, 43, 44, 45, 46, 47] (by decide +kernel) (by decide +kernel)) (goodIn_sub (fun _ h => List.mem_cons_of_mem _ (List.mem_append_left _ (List.mem_append_right _ h))) (by decide +kernel))) (goodIn_sub (fun _ h => List.mem_cons_of_mem _ (List.mem_append_right _ h)) (by decide +kernel))
set_option maxRecDepth 20000 in
theorem gL_lessonWord_X4_lessonWord : GoodIn wsL_lessonWord (wsV RL 41 RX4 yX4_lessonWord wsX4_lessonWord) := goodIn_app (goodIn_of _ (by decide +kernel)) ggL_lessonWord_X4_lessonWord
theorem dL_lessonWord_0 : decode cL_lessonWord 0 = .ok (.aload_n 2, 1) := by decide +kernel
theorem dL_lessonWord_1 : decode cL_lessonWord 1 = .ok (.iconst 0, 1) := by decide +kernel
theorem dL_lessonWord_2 : decode cL_lessonWord 2 = .ok (.aload_n 0, 1) := by decide +kernel
theorem dL_lessonWord_3 : decode cL_lessonWord 3 = .ok (.iload_n 1, 1) := by decide +kernel
theorem dL_lessonWord_4 : decode cL_lessonWord 4 = .ok (.invokevirtual 41, 3) := by decide +kernel
theorem dL_lessonWord_7 : decode cL_lessonWord 7 = .ok (.i2l, 1) := by decide +kernel
theorem dL_lessonWord_8 : decode cL_lessonWord 8 = .ok (.lastore, 1) := by decide +kernel
theorem dL_lessonWord_9 : decode cL_lessonWord 9 = .ok (.goto 9, 3) := by decide +kernel
theorem dL_lessonWord_12 : decode cL_lessonWord 12 = .ok (.astore_n 3, 1) := by decide +kernel
theorem dL_lessonWord_13 : decode cL_lessonWord 13 = .ok (.iconst 1, 1) := by decide +kernel
theorem dL_lessonWord_14 : decode cL_lessonWord 14 = .ok (.ireturn, 1) := by decide +kernel
theorem dL_lessonWord_15 : decode cL_lessonWord 15 = .ok (.astore_n 3, 1) := by decide +kernel
theorem dL_lessonWord_16 : decode cL_lessonWord 16 = .ok (.iconst 2, 1) := by decide +kernel
theorem dL_lessonWord_17 : decode cL_lessonWord 17 = .ok (.ireturn, 1) := by decide +kernel
theorem dL_lessonWord_18 : decode cL_lessonWord 18 = .ok (.iconst 0, 1) := by decide +kernel
theorem dL_lessonWord_19 : decode cL_lessonWord 19 = .ok (.ireturn, 1) := by decide +kernel
set_option maxRecDepth 20000 in
theorem ggL_wanted_X4_wanted : GoodIn wsL_wanted wsX4_wanted := goodIn_ca (goodIn_r _ [6, 7, 8, 9, 10, 11, 12, 13, 14, 15, 16, 17, 18, 19, 20, 21, 22, 5, 23, 24, 25, 26, 27, 28, 29, 30, 31, 32, 33, 34, 35, 36, 37, 38, 39, 40] (by decide +kernel) (by decide +kernel)) (goodIn_sub (fun _ h => List.mem_cons_of_mem _ (List.mem_append_right _ h)) (by decide +kernel))
set_option maxRecDepth 20000 in
theorem gL_wanted_X4_wanted : GoodIn wsL_wanted (wsV RL 44 RX4 yX4_wanted wsX4_wanted) := goodIn_app (goodIn_of _ (by decide +kernel)) ggL_wanted_X4_wanted
theorem dL_wanted_0 : decode cL_wanted 0 = .ok (.aload_n 1, 1) := by decide +kernel
theorem dL_wanted_1 : decode cL_wanted 1 = .ok (.iconst 0, 1) := by decide +kernel
theorem dL_wanted_2 : decode cL_wanted 2 = .ok (.aload_n 0, 1) := by decide +kernel
theorem dL_wanted_3 : decode cL_wanted 3 = .ok (.invokevirtual 44, 3) := by decide +kernel
theorem dL_wanted_6 : decode cL_wanted 6 = .ok (.i2l, 1) := by decide +kernel
theorem dL_wanted_7 : decode cL_wanted 7 = .ok (.lastore, 1) := by decide +kernel
theorem dL_wanted_8 : decode cL_wanted 8 = .ok (.goto 6, 3) := by decide +kernel
theorem dL_wanted_11 : decode cL_wanted 11 = .ok (.astore_n 2, 1) := by decide +kernel
theorem dL_wanted_12 : decode cL_wanted 12 = .ok (.iconst 1, 1) := by decide +kernel
theorem dL_wanted_13 : decode cL_wanted 13 = .ok (.ireturn, 1) := by decide +kernel
theorem dL_wanted_14 : decode cL_wanted 14 = .ok (.iconst 0, 1) := by decide +kernel
theorem dL_wanted_15 : decode cL_wanted 15 = .ok (.ireturn, 1) := by decide +kernel
set_option maxRecDepth 20000 in
theorem ggL_done_X4_done : GoodIn wsL_done wsX4_done := goodIn_ca (goodIn_r _ [6, 7, 8, 9, 10, 11, 12, 13, 14, 15, 16, 17, 18, 19, 20, 21, 22, 23, 24, 25, 26, 27, 28, 29, 30, 31, 32, 33, 34, 35, 36, 37] (by decide +kernel) (by decide +kernel)) (goodIn_sub (fun _ h => List.mem_cons_of_mem _ (List.mem_append_right _ h)) (by decide +kernel))
set_option maxRecDepth 20000 in
theorem gL_done_X4_done : GoodIn wsL_done (wsV RL 47 RX4 yX4_done wsX4_done) := goodIn_app (goodIn_of _ (by decide +kernel)) ggL_done_X4_done
theorem dL_done_0 : decode cL_done 0 = .ok (.aload_n 1, 1) := by decide +kernel
theorem dL_done_1 : decode cL_done 1 = .ok (.iconst 0, 1) := by decide +kernel
theorem dL_done_2 : decode cL_done 2 = .ok (.aload_n 0, 1) := by decide +kernel
theorem dL_done_3 : decode cL_done 3 = .ok (.invokevirtual 47, 3) := by decide +kernel
theorem dL_done_6 : decode cL_done 6 = .ok (.i2l, 1) := by decide +kernel
theorem dL_done_7 : decode cL_done 7 = .ok (.lastore, 1) := by decide +kernel
theorem dL_done_8 : decode cL_done 8 = .ok (.goto 6, 3) := by decide +kernel
theorem dL_done_11 : decode cL_done 11 = .ok (.astore_n 2, 1) := by decide +kernel
theorem dL_done_12 : decode cL_done 12 = .ok (.iconst 1, 1) := by decide +kernel
theorem dL_done_13 : decode cL_done 13 = .ok (.ireturn, 1) := by decide +kernel
theorem dL_done_14 : decode cL_done 14 = .ok (.iconst 0, 1) := by decide +kernel
theorem dL_done_15 : decode cL_done 15 = .ok (.ireturn, 1) := by decide +kernel
set_option maxRecDepth 20000 in
theorem ggL_strike_X4_strike : GoodIn wsL_strike wsX4_strike := goodIn_ca (goodIn_ca (goodIn_ca (goodIn_r _ [8, 9, 10, 11, 12, 13, 14, 15, 16, 17, 18, 7, 19, 20, 21, 22, 23, 24, 25, 26, 27, 28, 29, 30, 31, 32, 33, 34, 35, 36, 37, 38, 39, 40, 41, 42, 43, 44, 45, 46, 47, 48, 49, 50, 51, 52, 53, 54, 55, 56, 57, 58, 59, 60, 61, 62, 63, 64, 65, 66, 67, 68, 69, 70, 71, 72, 73, 74, 75, 76, 77, 78, 79, 80, 81, 82, 83, 84, 85, 86, 87, 88, 89, 90, 91, 92, 93, 94, 95, 96, 97, 98, 99, 100, 101, 102, 103, 104, 105, 106, 107, 108, 109, 110, 111, 112, 113, 114, 115, 116, 117, 118, 119, 120, 121, 122, 123, 124, 125, 126, 127, 128, 129, 130, 131, 132, 133, 134, 135, 136, 137, 138, 139, 140, 141, 142, 143, 144, 145, 146, 147, 148, 149, 150, 151, 152, 153, 154, 155, 156, 157, 158, 159, 160, 161, 162, 163, 164, 165, 166, 167] (by decide +kernel) (by decide +kernel)) (goodIn_sub (fun _ h => List.mem_cons_of_mem _ (List.mem_append_left _ (List.mem_append_left _ (List.mem_append_right _ h)))) (by decide +kernel))) (goodIn_sub (fun _ h => List.mem_cons_of_mem _ (List.mem_append_left _ (List.mem_append_right _ h))) (by decide +kernel))) (goodIn_sub (fun _ h => List.mem_cons_of_mem _ (List.mem_append_right _ h)) (by decide +kernel))
set_option maxRecDepth 20000 in
theorem gL_strike_X4_strike : GoodIn wsL_strike (wsV RL 50 RX4 yX4_strike wsX4_strike) := goodIn_app (goodIn_of _ (by decide +kernel)) ggL_strike_X4_strike
theorem dL_strike_0 : decode cL_strike 0 = .ok (.aload_n 3, 1) := by decide +kernel
theorem dL_strike_1 : decode cL_strike 1 = .ok (.iconst 0, 1) := by decide +kernel
theorem dL_strike_2 : decode cL_strike 2 = .ok (.aload_n 0, 1) := by decide +kernel
theorem dL_strike_3 : decode cL_strike 3 = .ok (.iload_n 1, 1) := by decide +kernel
theorem dL_strike_4 : decode cL_strike 4 = .ok (.iload_n 2, 1) := by decide +kernel
theorem dL_strike_5 : decode cL_strike 5 = .ok (.invokevirtual 50, 3) := by decide +kernel
theorem dL_strike_8 : decode cL_strike 8 = .ok (.i2l, 1) := by decide +kernel
theorem dL_strike_9 : decode cL_strike 9 = .ok (.lastore, 1) := by decide +kernel
theorem dL_strike_10 : decode cL_strike 10 = .ok (.goto 15, 3) := by decide +kernel
theorem dL_strike_13 : decode cL_strike 13 = .ok (.astore 4, 2) := by decide +kernel
theorem dL_strike_15 : decode cL_strike 15 = .ok (.iconst 1, 1) := by decide +kernel
theorem dL_strike_16 : decode cL_strike 16 = .ok (.ireturn, 1) := by decide +kernel
theorem dL_strike_17 : decode cL_strike 17 = .ok (.astore 4, 2) := by decide +kernel
theorem dL_strike_19 : decode cL_strike 19 = .ok (.iconst 2, 1) := by decide +kernel
theorem dL_strike_20 : decode cL_strike 20 = .ok (.ireturn, 1) := by decide +kernel
theorem dL_strike_21 : decode cL_strike 21 = .ok (.astore 4, 2) := by decide +kernel
theorem dL_strike_23 : decode cL_strike 23 = .ok (.iconst 3, 1) := by decide +kernel
theorem dL_strike_24 : decode cL_strike 24 = .ok (.ireturn, 1) := by decide +kernel
theorem dL_strike_25 : decode cL_strike 25 = .ok (.iconst 0, 1) := by decide +kernel
theorem dL_strike_26 : decode cL_strike 26 = .ok (.ireturn, 1) := by decide +kernel
set_option maxRecDepth 20000 in
theorem ggL_key_X4_key : GoodIn wsL_key wsX4_key := goodIn_ca (goodIn_r _ [6, 7, 8, 9, 10, 11, 5, 12, 13, 14, 15, 16, 17, 18, 19, 20, 21, 22, 23, 24, 25, 26, 27, 28, 29, 30, 31] (by decide +kernel) (by decide +kernel)) (goodIn_sub (fun _ h => List.mem_cons_of_mem _ (List.mem_append_right _ h)) (by decide +kernel))
set_option maxRecDepth 20000 in
theorem gL_key_X4_key : GoodIn wsL_key (wsV RL 54 RX4 yX4_key wsX4_key) := goodIn_app (goodIn_of _ (by decide +kernel)) ggL_key_X4_key
theorem dL_key_0 : decode cL_key 0 = .ok (.aload_n 3, 1) := by decide +kernel
theorem dL_key_1 : decode cL_key 1 = .ok (.iconst 0, 1) := by decide +kernel
theorem dL_key_2 : decode cL_key 2 = .ok (.aload_n 0, 1) := by decide +kernel
theorem dL_key_3 : decode cL_key 3 = .ok (.iload_n 1, 1) := by decide +kernel
theorem dL_key_4 : decode cL_key 4 = .ok (.iload_n 2, 1) := by decide +kernel
theorem dL_key_5 : decode cL_key 5 = .ok (.invokevirtual 54, 3) := by decide +kernel
theorem dL_key_8 : decode cL_key 8 = .ok (.i2l, 1) := by decide +kernel
theorem dL_key_9 : decode cL_key 9 = .ok (.lastore, 1) := by decide +kernel
theorem dL_key_10 : decode cL_key 10 = .ok (.goto 7, 3) := by decide +kernel
theorem dL_key_13 : decode cL_key 13 = .ok (.astore 4, 2) := by decide +kernel
theorem dL_key_15 : decode cL_key 15 = .ok (.iconst 1, 1) := by decide +kernel
theorem dL_key_16 : decode cL_key 16 = .ok (.ireturn, 1) := by decide +kernel
theorem dL_key_17 : decode cL_key 17 = .ok (.iconst 0, 1) := by decide +kernel
theorem dL_key_18 : decode cL_key 18 = .ok (.ireturn, 1) := by decide +kernel
set_option maxRecDepth 20000 in
theorem ggL_pair_X4_pair : GoodIn wsL_pair wsX4_pair := goodIn_ca (goodIn_r _ [6, 7, 8, 9, 10, 11, 5, 12, 13, 14, 15, 16, 17, 18, 19, 20, 21, 22, 23, 24, 25, 26, 27, 28, 29, 30, 31, 32, 33, 34, 35, 36, 37, 38, 39, 40, 41, 42, 43, 44, 45, 46] (by decide +kernel) (by decide +kernel)) (goodIn_sub (fun _ h => List.mem_cons_of_mem _ (List.mem_append_right _ h)) (by decide +kernel))
set_option maxRecDepth 20000 in
theorem gL_pair_X4_pair : GoodIn wsL_pair (wsV RL 57 RX4 yX4_pair wsX4_pair) := goodIn_app (goodIn_of _ (by decide +kernel)) ggL_pair_X4_pair
theorem dL_pair_0 : decode cL_pair 0 = .ok (.aload 4, 2) := by decide +kernel
theorem dL_pair_2 : decode cL_pair 2 = .ok (.iconst 0, 1) := by decide +kernel
theorem dL_pair_3 : decode cL_pair 3 = .ok (.aload_n 0, 1) := by decide +kernel
theorem dL_pair_4 : decode cL_pair 4 = .ok (.iload_n 1, 1) := by decide +kernel
theorem dL_pair_5 : decode cL_pair 5 = .ok (.iload_n 2, 1) := by decide +kernel
theorem dL_pair_6 : decode cL_pair 6 = .ok (.iload_n 3, 1) := by decide +kernel
theorem dL_pair_7 : decode cL_pair 7 = .ok (.invokevirtual 57, 3) := by decide +kernel
theorem dL_pair_10 : decode cL_pair 10 = .ok (.i2l, 1) := by decide +kernel
theorem dL_pair_11 : decode cL_pair 11 = .ok (.lastore, 1) := by decide +kernel
theorem dL_pair_12 : decode cL_pair 12 = .ok (.goto 7, 3) := by decide +kernel
theorem dL_pair_15 : decode cL_pair 15 = .ok (.astore 5, 2) := by decide +kernel
theorem dL_pair_17 : decode cL_pair 17 = .ok (.iconst 1, 1) := by decide +kernel
theorem dL_pair_18 : decode cL_pair 18 = .ok (.ireturn, 1) := by decide +kernel
theorem dL_pair_19 : decode cL_pair 19 = .ok (.iconst 0, 1) := by decide +kernel
theorem dL_pair_20 : decode cL_pair 20 = .ok (.ireturn, 1) := by decide +kernel
set_option maxRecDepth 20000 in
theorem ggL_mistakes_X4_mistakes : GoodIn wsL_mistakes wsX4_mistakes := goodIn_ca (goodIn_r _ [6, 7, 8, 9, 10, 11, 5, 12, 13, 14, 15, 16, 17, 18] (by decide +kernel) (by decide +kernel)) (goodIn_sub (fun _ h => List.mem_cons_of_mem _ (List.mem_append_right _ h)) (by decide +kernel))
set_option maxRecDepth 20000 in
theorem gL_mistakes_X4_mistakes : GoodIn wsL_mistakes (wsV RL 61 RX4 yX4_mistakes wsX4_mistakes) := goodIn_app (goodIn_of _ (by decide +kernel)) ggL_mistakes_X4_mistakes
theorem dL_mistakes_0 : decode cL_mistakes 0 = .ok (.aload_n 2, 1) := by decide +kernel
theorem dL_mistakes_1 : decode cL_mistakes 1 = .ok (.iconst 0, 1) := by decide +kernel
theorem dL_mistakes_2 : decode cL_mistakes 2 = .ok (.aload_n 0, 1) := by decide +kernel
theorem dL_mistakes_3 : decode cL_mistakes 3 = .ok (.iload_n 1, 1) := by decide +kernel
theorem dL_mistakes_4 : decode cL_mistakes 4 = .ok (.invokevirtual 61, 3) := by decide +kernel
theorem dL_mistakes_7 : decode cL_mistakes 7 = .ok (.i2l, 1) := by decide +kernel
theorem dL_mistakes_8 : decode cL_mistakes 8 = .ok (.lastore, 1) := by decide +kernel
theorem dL_mistakes_9 : decode cL_mistakes 9 = .ok (.goto 6, 3) := by decide +kernel
theorem dL_mistakes_12 : decode cL_mistakes 12 = .ok (.astore_n 3, 1) := by decide +kernel
theorem dL_mistakes_13 : decode cL_mistakes 13 = .ok (.iconst 1, 1) := by decide +kernel
theorem dL_mistakes_14 : decode cL_mistakes 14 = .ok (.ireturn, 1) := by decide +kernel
theorem dL_mistakes_15 : decode cL_mistakes 15 = .ok (.iconst 0, 1) := by decide +kernel
theorem dL_mistakes_16 : decode cL_mistakes 16 = .ok (.ireturn, 1) := by decide +kernel
set_option maxRecDepth 20000 in
theorem ggL_lesson_X4_lesson : GoodIn wsL_lesson wsX4_lesson := goodIn_ca (goodIn_r _ [6, 7, 8, 9, 10, 11, 12, 13, 14, 15, 16, 17, 18, 19, 20, 21, 22, 23, 5, 24, 25, 26, 27, 28, 29, 30, 31, 32, 33, 34, 35, 36, 37, 38, 39, 40, 41, 42] (by decide +kernel) (by decide +kernel)) (goodIn_sub (fun _ h => List.mem_cons_of_mem _ (List.mem_append_right _ h)) (by decide +kernel))
set_option maxRecDepth 20000 in
theorem gL_lesson_X4_lesson : GoodIn wsL_lesson (wsV RL 64 RX4 yX4_lesson wsX4_lesson) := goodIn_app (goodIn_of _ (by decide +kernel)) ggL_lesson_X4_lesson
theorem dL_lesson_0 : decode cL_lesson 0 = .ok (.aload_n 3, 1) := by decide +kernel
theorem dL_lesson_1 : decode cL_lesson 1 = .ok (.iconst 0, 1) := by decide +kernel
theorem dL_lesson_2 : decode cL_lesson 2 = .ok (.aload_n 0, 1) := by decide +kernel
theorem dL_lesson_3 : decode cL_lesson 3 = .ok (.iload_n 1, 1) := by decide +kernel
theorem dL_lesson_4 : decode cL_lesson 4 = .ok (.iload_n 2, 1) := by decide +kernel
theorem dL_lesson_5 : decode cL_lesson 5 = .ok (.invokevirtual 64, 3) := by decide +kernel
theorem dL_lesson_8 : decode cL_lesson 8 = .ok (.i2l, 1) := by decide +kernel
theorem dL_lesson_9 : decode cL_lesson 9 = .ok (.lastore, 1) := by decide +kernel
theorem dL_lesson_10 : decode cL_lesson 10 = .ok (.goto 7, 3) := by decide +kernel
theorem dL_lesson_13 : decode cL_lesson 13 = .ok (.astore 4, 2) := by decide +kernel
theorem dL_lesson_15 : decode cL_lesson 15 = .ok (.iconst 1, 1) := by decide +kernel
theorem dL_lesson_16 : decode cL_lesson 16 = .ok (.ireturn, 1) := by decide +kernel
theorem dL_lesson_17 : decode cL_lesson 17 = .ok (.iconst 0, 1) := by decide +kernel
theorem dL_lesson_18 : decode cL_lesson 18 = .ok (.ireturn, 1) := by decide +kernel
set_option maxRecDepth 20000 in
theorem ggL_law_X4_init : GoodIn wsL_law wsX4_init := goodIn_r _ [10, 11, 12, 13, 14, 15, 16, 17, 18, 19, 20, 21, 22, 23, 24, 25, 26, 27, 28, 29, 30, 31, 32, 33, 34, 35, 6, 36, 37, 38, 39, 40, 41, 42, 43, 44, 45, 46, 47, 48, 49, 50, 51, 52, 53, 54, 55, 56, 57, 58, 59, 60, 61, 62, 63, 64, 65, 66, 67, 68, 69, 70, 71, 72, 73, 74, 75, 76, 786, 787, 760, 761, 762, 763, 764, 765, 788, 789, 790, 791, 792, 793, 794, 795, 796, 797, 798, 799, 800, 801, 802, 803, 804, 805, 806, 807, 808] (by decide +kernel) (by decide +kernel)
set_option maxRecDepth 20000 in
theorem gL_law_X4_init : GoodIn wsL_law (wsX4_init) := ggL_law_X4_init
set_option maxRecDepth 20000 in
theorem ggL_law_X5_init : GoodIn wsL_law wsX5_init := goodIn_r _ [79, 80, 12, 13, 6, 81, 31, 82, 83, 84, 85, 86, 87, 88, 89, 90, 91, 766, 767, 768, 769, 770, 771, 772, 773, 774, 775, 776, 777, 778, 779, 780, 781, 782, 783, 784, 785] (by decide +kernel) (by decide +kernel)
set_option maxRecDepth 20000 in
theorem gL_law_X5_init : GoodIn wsL_law (wsX5_init) := ggL_law_X5_init
set_option maxRecDepth 20000 in
theorem ggL_law_L_addWord : GoodIn wsL_law wsL_addWord := goodIn_ca (goodIn_ca (goodIn_r _ [95, 96, 97, 98, 99, 100, 2, 101, 102, 103, 104, 105, 17, 106, 107, 108, 109, 110, 111, 112, 113, 114, 16, 115, 37, 36, 116, 117, 118, 119, 120, 121, 122, 123, 124, 125, 126, 127, 760, 761, 762, 763, 764, 765, 786, 787] (by decide +kernel) (by decide +kernel)) (goodIn_sub (fun _ h => List.mem_append_left _ (List.mem_append_left _ (List.mem_append_right _ h))) (by decide +kernel))) (goodIn_sub (fun _ h => List.mem_append_left _ (List.mem_append_right _ h)) (by decide +kernel))
set_option maxRecDepth 20000 in
theorem gL_law_L_addWord : GoodIn wsL_law (va_wsS RL 73 yL_addWord wsL_addWord) := goodIn_app (goodIn_of _ (by decide +kernel)) ggL_law_L_addWord
set_option maxRecDepth 20000 in
theorem ggL_law_X5_addWord : GoodIn wsL_law wsX5_addWord := goodIn_r _ [131, 132, 133, 81, 134, 135, 5, 136, 137, 138, 139, 140, 141, 142, 143, 144, 145, 146, 147, 148, 149, 150, 766, 767, 768, 769, 770, 771, 772, 773, 774, 775, 776, 777, 778, 779, 780, 781, 782, 783, 784, 785] (by decide +kernel) (by decide +kernel)
set_option maxRecDepth 20000 in
theorem gL_law_X5_addWord : GoodIn wsL_law (wsV RL 78 RX5 yX5_addWord wsX5_addWord) := goodIn_app (goodIn_of _ (by decide +kernel)) ggL_law_X5_addWord
set_option maxRecDepth 20000 in
theorem ggL_law_X5_thrown : GoodIn wsL_law wsX5_thrown := goodIn_r _ [154, 132, 766, 767, 768, 769, 770, 771, 772, 773, 774, 775, 776, 777, 778, 779, 780, 781, 782, 783, 784, 785] (by decide +kernel) (by decide +kernel)
set_option maxRecDepth 20000 in
theorem gL_law_X5_thrown : GoodIn wsL_law (wsV RL 79 RX5 yX5_thrown wsX5_thrown) := goodIn_app (goodIn_of _ (by decide +kernel)) ggL_law_X5_thrown
set_option maxRecDepth 20000 in
theorem ggL_law_X4_wordCount : GoodIn wsL_law wsX4_wordCount := goodIn_r _ [158, 17, 159, 160, 161, 16, 162, 37, 760, 761, 762, 763, 764, 765, 786, 787] (by decide +kernel) (by decide +kernel)
set_option maxRecDepth 20000 in
theorem gL_law_X4_wordCount : GoodIn wsL_law (wsV RL 82 RX4 yX4_wordCount wsX4_wordCount) := goodIn_app (goodIn_of _ (by decide +kernel)) ggL_law_X4_wordCount
set_option maxRecDepth 20000 in
theorem ggL_law_X5_wordCount : GoodIn wsL_law wsX5_wordCount := goodIn_r _ [166, 132, 133, 766, 767, 768, 769, 770, 771, 772, 773, 774, 775, 776, 777, 778, 779, 780, 781, 782, 783, 784, 785] (by decide +kernel) (by decide +kernel)
set_option maxRecDepth 20000 in
theorem gL_law_X5_wordCount : GoodIn wsL_law (wsV RL 85 RX5 yX5_wordCount wsX5_wordCount) := goodIn_app (goodIn_of _ (by decide +kernel)) ggL_law_X5_wordCount
set_option maxRecDepth 20000 in
theorem ggL_law_L_word : GoodIn wsL_law wsL_word := goodIn_ca (goodIn_r _ [169, 170, 171, 172, 173, 2, 174, 175, 176, 17, 177, 178, 179, 16, 180, 37, 181, 121, 122, 123, 36, 760, 761, 762, 763, 764, 765, 786, 787] (by decide +kernel) (by decide +kernel)) (goodIn_sub (fun _ h => List.mem_append_right _ h) (by decide +kernel))
set_option maxRecDepth 20000 in
theorem gL_law_L_word : GoodIn wsL_law (va_wsS RL 86 yL_word wsL_word) := goodIn_app (goodIn_of _ (by decide +kernel)) ggL_law_L_word
set_option maxRecDepth 20000 in
theorem ggL_law_X5_word : GoodIn wsL_law wsX5_word := goodIn_r _ [185, 132, 81, 186, 187, 188, 5, 189, 133, 766, 767, 768, 769, 770, 771, 772, 773, 774, 775, 776, 777, 778, 779, 780, 781, 782, 783, 784, 785] (by decide +kernel) (by decide +kernel)
set_option maxRecDepth 20000 in
theorem gL_law_X5_word : GoodIn wsL_law (wsV RL 89 RX5 yX5_word wsX5_word) := goodIn_app (goodIn_of _ (by decide +kernel)) ggL_law_X5_word
set_option maxRecDepth 20000 in
theorem ggL_law_L_weight : GoodIn wsL_law wsL_weight := goodIn_ca (goodIn_r _ [192, 170, 193, 194, 195, 2, 196, 175, 176, 17, 177, 178, 179, 16, 180, 37, 181, 121, 122, 123, 36, 197, 198, 199, 200, 21, 201, 202, 203, 204, 205, 206, 109, 207, 208, 209, 20, 210, 48, 211, 212, 213, 214, 215, 216, 217, 218, 219, 220, 221, 222, 22, 223, 224, 225, 226, 46, 760, 761, 762, 763, 764, 765, 786, 787, 788, 789, 790] (by decide +kernel) (by decide +kernel)) (goodIn_sub (fun _ h => List.mem_append_right _ h) (by decide +kernel))
set_option maxRecDepth 20000 in
theorem gL_law_L_weight : GoodIn wsL_law (va_wsS RL 90 yL_weight wsL_weight) := goodIn_app (goodIn_of _ (by decide +kernel)) ggL_law_L_weight
set_option maxRecDepth 20000 in
theorem ggL_law_X5_weight : GoodIn wsL_law wsX5_weight := goodIn_r _ [230, 132, 81, 186, 187, 188, 5, 189, 133, 231, 232, 233, 234, 84, 137, 138, 139, 140, 141, 142, 143, 235, 236, 237, 238, 82, 239, 240, 241, 147, 148, 149, 150, 766, 767, 768, 769, 770, 771, 772, 773, 774, 775, 776, 777, 778, 779, 780, 781, 782, 783, 784, 785] (by decide +kernel) (by decide +kernel)
set_option maxRecDepth 20000 in
theorem gL_law_X5_weight : GoodIn wsL_law (wsV RL 92 RX5 yX5_weight wsX5_weight) := goodIn_app (goodIn_of _ (by decide +kernel)) ggL_law_X5_weight
set_option maxRecDepth 20000 in
theorem ggL_law_L_areNeighbours : GoodIn wsL_law wsL_areNeighbours := goodIn_ca (goodIn_r _ [244, 170, 245, 246, 247, 2, 248, 175, 176, 249, 250, 251, 252, 253, 254, 255, 256, 257, 44, 258, 259, 260, 211, 212] (by decide +kernel) (by decide +kernel)) (goodIn_sub (fun _ h => List.mem_append_right _ h) (by decide +kernel))
set_option maxRecDepth 20000 in
theorem gL_law_L_areNeighbours : GoodIn wsL_law (va_wsS RL 93 yL_areNeighbours wsL_areNeighbours) := goodIn_app (goodIn_of _ (by decide +kernel)) ggL_law_L_areNeighbours
set_option maxRecDepth 20000 in
theorem ggL_law_X5_areNeighbours : GoodIn wsL_law wsX5_areNeighbours := goodIn_r _ [264, 132, 144, 145, 5, 146, 265, 266, 267, 268, 257, 44, 258, 269, 270, 271, 272, 273, 274, 275, 276, 277, 278, 279, 280, 281, 282, 283, 284, 285, 286, 287, 288, 289, 290, 291, 292, 293, 294, 295, 296, 297, 43, 45, 298, 299, 300, 301, 302, 303, 304, 305, 306, 307, 308, 309, 310, 311, 312, 313, 314, 315, 316, 317, 318, 319, 320, 321, 322, 323, 324, 325, 326, 327, 328, 329, 330, 331, 332, 333, 334, 335, 336, 337, 338, 339, 340, 341, 342, 343, 344, 345, 346, 347, 348, 349, 350, 351, 352, 353, 354, 766, 767, 768, 769, 770, 771, 772, 773, 774, 775, 776, 777, 778, 779, 780, 781, 782, 783, 784, 785] (by decide +kernel) (by decide +kernel)
set_option maxRecDepth 20000 in
theorem gL_law_X5_areNeighbours : GoodIn wsL_law (wsV RL 96 RX5 yX5_areNeighbours wsX5_areNeighbours) := goodIn_app (goodIn_of _ (by decide +kernel)) ggL_law_X5_areNeighbours
set_option maxRecDepth 20000 in
theorem ggL_law_L_open : GoodIn wsL_law wsL_open := goodIn_ca (goodIn_ca (goodIn_r _ [357, 96, 97, 358, 359, 360, 2, 361, 102, 103, 104, 105, 26, 17, 362, 363, 364, 25, 365, 60, 159, 160, 161, 16, 162, 37, 366, 367, 368, 369, 59, 61, 62, 63, 64, 65, 66, 370, 50, 51, 52, 371, 372, 373, 374, 375, 376, 377, 378, 56, 211, 212, 181, 121, 122, 123, 36, 379, 380, 381, 382, 201, 202, 203, 197, 198, 199, 200, 21, 204, 205, 206, 109, 207, 208, 209, 20, 210, 48, 213, 214, 215, 216, 217, 218, 219, 220, 221, 222, 22, 223, 224, 225, 226, 46, 383, 384, 385, 386, 387, 388, 389, 390, 57, 58, 391, 392, 393, 394, 395, 396, 760, 761, 762, 763, 764, 765, 791, 792, 793, 794, 795, 796, 797, 798, 799, 800, 801, 786, 787, 788, 789, 790] (by decide +kernel) (by decide +kernel)) (goodIn_sub (fun _ h => List.mem_append_left _ (List.mem_append_left _ (List.mem_append_right _ h))) (by decide +kernel))) (goodIn_sub (fun _ h => List.mem_append_left _ (List.mem_append_right _ h)) (by decide +kernel))
set_option maxRecDepth 20000 in
theorem gL_law_L_open : GoodIn wsL_law (va_wsS RL 97 yL_open wsL_open) := goodIn_app (goodIn_of _ (by decide +kernel)) ggL_law_L_open
set_option maxRecDepth 20000 in
theorem ggL_law_X5_open : GoodIn wsL_law wsX5_open := goodIn_r _ [400, 132, 401, 133, 402, 81, 147, 148, 149, 5, 150, 403, 404, 405, 406, 407, 408, 409, 410, 411, 412, 413, 414, 415, 86, 231, 232, 233, 234, 84, 137, 138, 139, 140, 141, 142, 143, 235, 236, 237, 238, 82, 239, 240, 241, 416, 417, 418, 419, 89, 87, 420, 421, 422, 423, 766, 767, 768, 769, 770, 771, 772, 773, 774, 775, 776, 777, 778, 779, 780, 781, 782, 783, 784, 785] (by decide +kernel) (by decide +kernel)
set_option maxRecDepth 20000 in
theorem gL_law_X5_open : GoodIn wsL_law (wsV RL 99 RX5 yX5_open wsX5_open) := goodIn_app (goodIn_of _ (by decide +kernel)) ggL_law_X5_open
set_option maxRecDepth 20000 in
theorem ggL_law_L_openWord : GoodIn wsL_law wsL_openWord := goodIn_ca (goodIn_ca (goodIn_r _ [426, 170, 97, 427, 428, 429, 2, 430, 175, 176, 104, 105, 17, 26, 177, 178, 179, 16, 180, 37, 362, 363, 364, 25, 365, 60, 366, 367, 368, 369, 59, 61, 62, 63, 64, 65, 66, 370, 50, 51, 52, 181, 121, 122, 123, 36, 387, 388, 389, 390, 57, 58, 56, 202, 203, 205, 206, 109, 211, 212, 391, 392, 431, 432, 433, 434, 760, 761, 762, 763, 764, 765, 786, 787, 791, 792, 793, 794, 795, 796, 797, 798, 799, 800, 801] (by decide +kernel) (by decide +kernel)) (goodIn_sub (fun _ h => List.mem_append_right _ h) (by decide +kernel))) (goodIn_sub (fun _ h => List.mem_append_left _ (List.mem_append_right _ h)) (by decide +kernel))
set_option maxRecDepth 20000 in
theorem gL_law_L_openWord : GoodIn wsL_law (va_wsS RL 100 yL_openWord wsL_openWord) := goodIn_app (goodIn_of _ (by decide +kernel)) ggL_law_L_openWord
set_option maxRecDepth 20000 in
theorem ggL_law_X5_openWord : GoodIn wsL_law wsX5_openWord := goodIn_r _ [438, 132, 401, 407, 186, 187, 188, 5, 189, 133, 147, 148, 149, 150, 403, 404, 405, 406, 402, 408, 409, 410, 411, 420, 421, 422, 423, 86, 81, 87, 89, 137, 138, 139, 140, 141, 142, 143, 766, 767, 768, 769, 770, 771, 772, 773, 774, 775, 776, 777, 778, 779, 780, 781, 782, 783, 784, 785] (by decide +kernel) (by decide +kernel)
set_option maxRecDepth 20000 in
theorem gL_law_X5_openWord : GoodIn wsL_law (wsV RL 102 RX5 yX5_openWord wsX5_openWord) := goodIn_app (goodIn_of _ (by decide +kernel)) ggL_law_X5_openWord
set_option maxRecDepth 20000 in
theorem ggL_law_L_giveUp : GoodIn wsL_law wsL_giveUp := goodIn_ca (goodIn_r _ [441, 97, 442, 443, 444, 2, 445, 104, 105, 26, 362, 363, 364, 25, 365, 60, 446, 447, 448, 449, 431, 432, 433, 434, 62, 450, 451, 452, 453, 63, 760, 761, 762, 763, 764, 765, 791, 792, 793, 794, 795, 796, 797, 798, 799, 800, 801] (by decide +kernel) (by decide +kernel)) (goodIn_sub (fun _ h => List.mem_append_left _ (List.mem_append_right _ h)) (by decide +kernel))
set_option maxRecDepth 20000 in
theorem gL_law_L_giveUp : GoodIn wsL_law (va_wsS RL 103 yL_giveUp wsL_giveUp) := goodIn_app (goodIn_of _ (by decide +kernel)) ggL_law_L_giveUp
set_option maxRecDepth 20000 in
theorem ggL_law_X5_giveUp : GoodIn wsL_law wsX5_giveUp := goodIn_r _ [457, 132, 401, 407, 408, 147, 148, 149, 5, 150, 766, 767, 768, 769, 770, 771, 772, 773, 774, 775, 776, 777, 778, 779, 780, 781, 782, 783, 784, 785] (by decide +kernel) (by decide +kernel)
set_option maxRecDepth 20000 in
theorem gL_law_X5_giveUp : GoodIn wsL_law (wsV RL 106 RX5 yX5_giveUp wsX5_giveUp) := goodIn_app (goodIn_of _ (by decide +kernel)) ggL_law_X5_giveUp
set_option maxRecDepth 20000 in
theorem ggL_law_X4_isOpen : GoodIn wsL_law wsX4_isOpen := goodIn_r _ [461, 26, 362, 363, 364, 25, 365, 60, 760, 761, 762, 763, 764, 765, 791, 792, 793, 794, 795, 796, 797, 798, 799, 800, 801] (by decide +kernel) (by decide +kernel)
set_option maxRecDepth 20000 in
theorem gL_law_X4_isOpen : GoodIn wsL_law (wsV RL 107 RX4 yX4_isOpen wsX4_isOpen) := goodIn_app (goodIn_of _ (by decide +kernel)) ggL_law_X4_isOpen
set_option maxRecDepth 20000 in
theorem ggL_law_X5_isOpen : GoodIn wsL_law wsX5_isOpen := goodIn_r _ [465, 132, 401, 766, 767, 768, 769, 770, 771, 772, 773, 774, 775, 776, 777, 778, 779, 780, 781, 782, 783, 784, 785] (by decide +kernel) (by decide +kernel)
set_option maxRecDepth 20000 in
theorem gL_law_X5_isOpen : GoodIn wsL_law (wsV RL 111 RX5 yX5_isOpen wsX5_isOpen) := goodIn_app (goodIn_of _ (by decide +kernel)) ggL_law_X5_isOpen
set_option maxRecDepth 20000 in
theorem ggL_law_L_lessonWord : GoodIn wsL_law wsL_lessonWord := goodIn_ca (goodIn_ca (goodIn_r _ [468, 97, 170, 469, 470, 471, 2, 472, 104, 105, 175, 176, 26, 362, 363, 364, 25, 365, 60, 393, 394, 395, 396, 61, 473, 474, 475, 476, 56, 211, 212, 760, 761, 762, 763, 764, 765, 791, 792, 793, 794, 795, 796, 797, 798, 799, 800, 801] (by decide +kernel) (by decide +kernel)) (goodIn_sub (fun _ h => List.mem_append_left _ (List.mem_append_right _ h)) (by decide +kernel))) (goodIn_sub (fun _ h => List.mem_append_right _ h) (by decide +kernel))
set_option maxRecDepth 20000 in
theorem gL_law_L_lessonWord : GoodIn wsL_law (va_wsS RL 112 yL_lessonWord wsL_lessonWord) := goodIn_app (goodIn_of _ (by decide +kernel)) ggL_law_L_lessonWord
set_option maxRecDepth 20000 in
theorem ggL_law_X5_lessonWord : GoodIn wsL_law wsX5_lessonWord := goodIn_r _ [480, 132, 401, 402, 86, 147, 148, 149, 5, 150, 766, 767, 768, 769, 770, 771, 772, 773, 774, 775, 776, 777, 778, 779, 780, 781, 782, 783, 784, 785] (by decide +kernel) (by decide +kernel)
set_option maxRecDepth 20000 in
theorem gL_law_X5_lessonWord : GoodIn wsL_law (wsV RL 114 RX5 yX5_lessonWord wsX5_lessonWord) := goodIn_app (goodIn_of _ (by decide +kernel)) ggL_law_X5_lessonWord
set_option maxRecDepth 20000 in
theorem ggL_law_L_wanted : GoodIn wsL_law wsL_wanted := goodIn_ca (goodIn_r _ [483, 97, 484, 485, 486, 2, 487, 104, 105, 26, 362, 363, 364, 25, 365, 60, 488, 489, 490, 491, 57, 63, 211, 212, 760, 761, 762, 763, 764, 765, 791, 792, 793, 794, 795, 796, 797, 798, 799, 800, 801] (by decide +kernel) (by decide +kernel)) (goodIn_sub (fun _ h => List.mem_append_left _ (List.mem_append_right _ h)) (by decide +kernel))
set_option maxRecDepth 20000 in
theorem gL_law_L_wanted : GoodIn wsL_law (va_wsS RL 115 yL_wanted wsL_wanted) := goodIn_app (goodIn_of _ (by decide +kernel)) ggL_law_L_wanted
set_option maxRecDepth 20000 in
theorem ggL_law_X5_wanted : GoodIn wsL_law wsX5_wanted := goodIn_r _ [495, 132, 401, 87, 408, 147, 148, 149, 5, 150, 766, 767, 768, 769, 770, 771, 772, 773, 774, 775, 776, 777, 778, 779, 780, 781, 782, 783, 784, 785] (by decide +kernel) (by decide +kernel)
set_option maxRecDepth 20000 in
theorem gL_law_X5_wanted : GoodIn wsL_law (wsV RL 117 RX5 yX5_wanted wsX5_wanted) := goodIn_app (goodIn_of _ (by decide +kernel)) ggL_law_X5_wanted
set_option maxRecDepth 20000 in
theorem ggL_law_L_done : GoodIn wsL_law wsL_done := goodIn_ca (goodIn_r _ [498, 97, 499, 500, 501, 2, 502, 104, 105, 26, 362, 363, 364, 25, 365, 60, 450, 451, 452, 453, 63, 760, 761, 762, 763, 764, 765, 791, 792, 793, 794, 795, 796, 797, 798, 799, 800, 801] (by decide +kernel) (by decide +kernel)) (goodIn_sub (fun _ h => List.mem_append_left _ (List.mem_append_right _ h)) (by decide +kernel))
set_option maxRecDepth 20000 in
theorem gL_law_L_done : GoodIn wsL_law (va_wsS RL 118 yL_done wsL_done) := goodIn_app (goodIn_of _ (by decide +kernel)) ggL_law_L_done
set_option maxRecDepth 20000 in
theorem ggL_law_X5_done : GoodIn wsL_law wsX5_done := goodIn_r _ [506, 132, 401, 408, 147, 148, 149, 5, 150, 766, 767, 768, 769, 770, 771, 772, 773, 774, 775, 776, 777, 778, 779, 780, 781, 782, 783, 784, 785] (by decide +kernel) (by decide +kernel)
set_option maxRecDepth 20000 in
theorem gL_law_X5_done : GoodIn wsL_law (wsV RL 120 RX5 yX5_done wsX5_done) := goodIn_app (goodIn_of _ (by decide +kernel)) ggL_law_X5_done
set_option maxRecDepth 20000 in
theorem ggL_law_L_strike : GoodIn wsL_law wsL_strike := goodIn_ca (goodIn_ca (goodIn_ca (goodIn_r _ [509, 170, 96, 97, 510, 511, 512, 2, 513, 175, 176, 102, 103, 104, 105, 26, 32, 249, 250, 251, 362, 363, 364, 25, 365, 60, 514, 515, 516, 517, 488, 489, 490, 491, 57, 63, 211, 212, 518, 519, 520, 521, 522, 523, 524, 525, 62, 58, 526, 527, 528, 529, 252, 253, 254, 255, 256, 257, 44, 258, 259, 260, 530, 531, 532, 533, 65, 66, 534, 391, 392, 535, 536, 537, 538, 539, 540, 541, 542, 21, 22, 30, 543, 544, 545, 20, 546, 42, 43, 45, 48, 46, 47, 216, 217, 218, 547, 548, 549, 550, 64, 450, 451, 452, 453, 431, 432, 433, 434, 446, 447, 448, 449, 551, 552, 553, 554, 555, 556, 557, 558, 559, 560, 561, 29, 562, 73, 70, 71, 72, 75, 76, 74, 563, 564, 565, 566, 567, 568, 299, 300, 760, 761, 762, 763, 764, 765, 791, 792, 793, 794, 795, 796, 797, 798, 799, 800, 801, 788, 789, 790, 802, 803, 804, 805, 806, 807, 808] (by decide +kernel) (by decide +kernel)) (goodIn_sub (fun _ h => List.mem_append_right _ h) (by decide +kernel))) (goodIn_sub (fun _ h => List.mem_append_left _ (List.mem_append_left _ (List.mem_append_right _ h))) (by decide +kernel))) (goodIn_sub (fun _ h => List.mem_append_left _ (List.mem_append_right _ h)) (by decide +kernel))
set_option maxRecDepth 20000 in
theorem gL_law_L_strike : GoodIn wsL_law (va_wsS RL 121 yL_strike wsL_strike) := goodIn_app (goodIn_of _ (by decide +kernel)) ggL_law_L_strike
set_option maxRecDepth 20000 in
theorem ggL_law_X5_strike : GoodIn wsL_law wsX5_strike := goodIn_r _ [572, 132, 401, 411, 85, 409, 144, 145, 5, 146, 147, 148, 149, 150, 573, 574, 575, 576, 87, 408, 407, 89, 265, 266, 267, 268, 257, 44, 258, 269, 270, 271, 272, 273, 274, 275, 276, 277, 278, 279, 280, 281, 282, 283, 284, 285, 286, 287, 288, 289, 290, 291, 292, 293, 294, 295, 296, 297, 43, 45, 298, 299, 300, 301, 302, 303, 304, 305, 306, 307, 308, 309, 310, 311, 312, 313, 314, 315, 316, 317, 318, 319, 320, 321, 322, 323, 324, 325, 326, 327, 328, 329, 330, 331, 332, 333, 334, 335, 336, 337, 338, 339, 340, 341, 342, 343, 344, 345, 346, 347, 348, 349, 350, 351, 352, 353, 354, 577, 578, 579, 580, 581, 410, 582, 583, 584, 585, 82, 83, 84, 239, 240, 241, 586, 587, 588, 589, 590, 90, 31, 591, 592, 593, 594, 91, 595, 766, 767, 768, 769, 770, 771, 772, 773, 774, 775, 776, 777, 778, 779, 780, 781, 782, 783, 784, 785] (by decide +kernel) (by decide +kernel)
set_option maxRecDepth 20000 in
theorem gL_law_X5_strike : GoodIn wsL_law (wsV RL 123 RX5 yX5_strike wsX5_strike) := goodIn_app (goodIn_of _ (by decide +kernel)) ggL_law_X5_strike
set_option maxRecDepth 20000 in
theorem ggL_law_L_key : GoodIn wsL_law wsL_key := goodIn_ca (goodIn_r _ [598, 170, 599, 600, 601, 2, 602, 175, 176, 21, 249, 250, 251, 603, 604, 605, 20, 606, 46, 47, 48, 211, 212, 760, 761, 762, 763, 764, 765, 788, 789, 790] (by decide +kernel) (by decide +kernel)) (goodIn_sub (fun _ h => List.mem_append_right _ h) (by decide +kernel))
set_option maxRecDepth 20000 in
theorem gL_law_L_key : GoodIn wsL_law (va_wsS RL 124 yL_key wsL_key) := goodIn_app (goodIn_of _ (by decide +kernel)) ggL_law_L_key
set_option maxRecDepth 20000 in
theorem ggL_law_X5_key : GoodIn wsL_law wsX5_key := goodIn_r _ [610, 132, 144, 145, 5, 146, 611, 612, 613, 614, 82, 83, 84, 147, 148, 149, 150, 766, 767, 768, 769, 770, 771, 772, 773, 774, 775, 776, 777, 778, 779, 780, 781, 782, 783, 784, 785] (by decide +kernel) (by decide +kernel)
set_option maxRecDepth 20000 in
theorem gL_law_X5_key : GoodIn wsL_law (wsV RL 126 RX5 yX5_key wsX5_key) := goodIn_app (goodIn_of _ (by decide +kernel)) ggL_law_X5_key
set_option maxRecDepth 20000 in
theorem ggL_law_L_pair : GoodIn wsL_law wsL_pair := goodIn_ca (goodIn_r _ [617, 170, 618, 619, 620, 2, 621, 175, 176, 22, 249, 250, 251, 216, 217, 218, 219, 220, 221, 222, 207, 208, 209, 20, 210, 48, 211, 212, 223, 224, 225, 226, 46, 603, 604, 605, 606, 47, 760, 761, 762, 763, 764, 765, 788, 789, 790] (by decide +kernel) (by decide +kernel)) (goodIn_sub (fun _ h => List.mem_append_right _ h) (by decide +kernel))
set_option maxRecDepth 20000 in
theorem gL_law_L_pair : GoodIn wsL_law (va_wsS RL 127 yL_pair wsL_pair) := goodIn_app (goodIn_of _ (by decide +kernel)) ggL_law_L_pair
set_option maxRecDepth 20000 in
theorem ggL_law_X5_pair : GoodIn wsL_law wsX5_pair := goodIn_r _ [625, 132, 144, 145, 5, 146, 147, 148, 149, 150, 235, 236, 237, 238, 84, 82, 239, 240, 241, 611, 612, 613, 614, 83, 766, 767, 768, 769, 770, 771, 772, 773, 774, 775, 776, 777, 778, 779, 780, 781, 782, 783, 784, 785] (by decide +kernel) (by decide +kernel)
set_option maxRecDepth 20000 in
theorem gL_law_X5_pair : GoodIn wsL_law (wsV RL 130 RX5 yX5_pair wsX5_pair) := goodIn_app (goodIn_of _ (by decide +kernel)) ggL_law_X5_pair
set_option maxRecDepth 20000 in
theorem ggL_law_X4_weakest : GoodIn wsL_law wsX4_weakest := goodIn_r _ [629, 22, 223, 224, 225, 20, 226, 46, 211, 2, 212, 219, 220, 221, 222, 207, 208, 209, 210, 48, 760, 761, 762, 763, 764, 765, 788, 789, 790] (by decide +kernel) (by decide +kernel)
set_option maxRecDepth 20000 in
theorem gL_law_X4_weakest : GoodIn wsL_law (wsV RL 131 RX4 yX4_weakest wsX4_weakest) := goodIn_app (goodIn_of _ (by decide +kernel)) ggL_law_X4_weakest
set_option maxRecDepth 20000 in
theorem ggL_law_X5_weakest : GoodIn wsL_law wsX5_weakest := goodIn_r _ [633, 132, 82, 235, 236, 237, 5, 238, 84, 239, 240, 241, 766, 767, 768, 769, 770, 771, 772, 773, 774, 775, 776, 777, 778, 779, 780, 781, 782, 783, 784, 785] (by decide +kernel) (by decide +kernel)
set_option maxRecDepth 20000 in
theorem gL_law_X5_weakest : GoodIn wsL_law (wsV RL 134 RX5 yX5_weakest wsX5_weakest) := goodIn_app (goodIn_of _ (by decide +kernel)) ggL_law_X5_weakest
set_option maxRecDepth 20000 in
theorem ggL_law_L_mistakes : GoodIn wsL_law wsL_mistakes := goodIn_ca (goodIn_r _ [636, 170, 637, 638, 639, 2, 640, 175, 176, 32, 260, 211, 212, 760, 761, 762, 763, 764, 765] (by decide +kernel) (by decide +kernel)) (goodIn_sub (fun _ h => List.mem_append_right _ h) (by decide +kernel))
set_option maxRecDepth 20000 in
theorem gL_law_L_mistakes : GoodIn wsL_law (va_wsS RL 135 yL_mistakes wsL_mistakes) := goodIn_app (goodIn_of _ (by decide +kernel)) ggL_law_L_mistakes
set_option maxRecDepth 20000 in
theorem ggL_law_X5_mistakes : GoodIn wsL_law wsX5_mistakes := goodIn_r _ [644, 132, 85, 147, 148, 149, 5, 150, 766, 767, 768, 769, 770, 771, 772, 773, 774, 775, 776, 777, 778, 779, 780, 781, 782, 783, 784, 785] (by decide +kernel) (by decide +kernel)
set_option maxRecDepth 20000 in
theorem gL_law_X5_mistakes : GoodIn wsL_law (wsV RL 137 RX5 yX5_mistakes wsX5_mistakes) := goodIn_app (goodIn_of _ (by decide +kernel)) ggL_law_X5_mistakes
set_option maxRecDepth 20000 in
theorem ggL_law_X4_lessons : GoodIn wsL_law wsX4_lessons := goodIn_r _ [648, 30, 649, 650, 651, 29, 652, 73, 760, 761, 762, 763, 764, 765, 802, 803, 804, 805, 806, 807, 808] (by decide +kernel) (by decide +kernel)
set_option maxRecDepth 20000 in
theorem gL_law_X4_lessons : GoodIn wsL_law (wsV RL 138 RX4 yX4_lessons wsX4_lessons) := goodIn_app (goodIn_of _ (by decide +kernel)) ggL_law_X4_lessons
set_option maxRecDepth 20000 in
theorem ggL_law_X5_lessons : GoodIn wsL_law wsX5_lessons := goodIn_r _ [656, 132, 590, 766, 767, 768, 769, 770, 771, 772, 773, 774, 775, 776, 777, 778, 779, 780, 781, 782, 783, 784, 785] (by decide +kernel) (by decide +kernel)
set_option maxRecDepth 20000 in
theorem gL_law_X5_lessons : GoodIn wsL_law (wsV RL 141 RX5 yX5_lessons wsX5_lessons) := goodIn_app (goodIn_of _ (by decide +kernel)) ggL_law_X5_lessons
set_option maxRecDepth 20000 in
theorem ggL_law_L_lesson : GoodIn wsL_law wsL_lesson := goodIn_ca (goodIn_r _ [659, 170, 660, 661, 662, 2, 663, 175, 176, 30, 649, 650, 651, 29, 652, 73, 664, 665, 666, 667, 70, 71, 72, 211, 212, 668, 669, 670, 671, 672, 760, 761, 762, 763, 764, 765, 802, 803, 804, 805, 806, 807, 808] (by decide +kernel) (by decide +kernel)) (goodIn_sub (fun _ h => List.mem_append_right _ h) (by decide +kernel))
set_option maxRecDepth 20000 in
theorem gL_law_L_lesson : GoodIn wsL_law (va_wsS RL 142 yL_lesson wsL_lesson) := goodIn_app (goodIn_of _ (by decide +kernel)) ggL_law_L_lesson
set_option maxRecDepth 20000 in
theorem ggL_law_X5_lesson : GoodIn wsL_law wsX5_lesson := goodIn_r _ [676, 132, 590, 677, 678, 679, 5, 680, 90, 681, 147, 148, 149, 150, 766, 767, 768, 769, 770, 771, 772, 773, 774, 775, 776, 777, 778, 779, 780, 781, 782, 783, 784, 785] (by decide +kernel) (by decide +kernel)
set_option maxRecDepth 20000 in
theorem gL_law_X5_lesson : GoodIn wsL_law (wsV RL 144 RX5 yX5_lesson wsX5_lesson) := goodIn_app (goodIn_of _ (by decide +kernel)) ggL_law_X5_lesson
set_option maxRecDepth 20000 in
theorem ggL_law_X4_pace : GoodIn wsL_law wsX4_pace := goodIn_r _ [685, 30, 686, 687, 688, 29, 689, 74, 760, 761, 762, 763, 764, 765, 802, 803, 804, 805, 806, 807, 808] (by decide +kernel) (by decide +kernel)
set_option maxRecDepth 20000 in
theorem gL_law_X4_pace : GoodIn wsL_law (wsV RL 145 RX4 yX4_pace wsX4_pace) := goodIn_app (goodIn_of _ (by decide +kernel)) ggL_law_X4_pace
set_option maxRecDepth 20000 in
theorem ggL_law_X5_pace : GoodIn wsL_law wsX5_pace := goodIn_r _ [693, 132, 91, 766, 767, 768, 769, 770, 771, 772, 773, 774, 775, 776, 777, 778, 779, 780, 781, 782, 783, 784, 785] (by decide +kernel) (by decide +kernel)
set_option maxRecDepth 20000 in
theorem gL_law_X5_pace : GoodIn wsL_law (wsV RL 148 RX5 yX5_pace wsX5_pace) := goodIn_app (goodIn_of _ (by decide +kernel)) ggL_law_X5_pace
set_option maxRecDepth 20000 in
theorem ggL_law_X4_isPlateau : GoodIn wsL_law wsX4_isPlateau := goodIn_r _ [697, 30, 649, 650, 651, 29, 652, 73, 698, 699, 700, 701, 567, 43, 44, 45, 668, 669, 670, 671, 72, 70, 672, 211, 2, 212, 760, 761, 762, 763, 764, 765, 802, 803, 804, 805, 806, 807, 808] (by decide +kernel) (by decide +kernel)
set_option maxRecDepth 20000 in
theorem gL_law_X4_isPlateau : GoodIn wsL_law (wsV RL 149 RX4 yX4_isPlateau wsX4_isPlateau) := goodIn_app (goodIn_of _ (by decide +kernel)) ggL_law_X4_isPlateau
set_option maxRecDepth 20000 in
theorem ggL_law_X5_isPlateau : GoodIn wsL_law wsX5_isPlateau := goodIn_r _ [705, 132, 590, 706, 707, 708, 5, 709, 581, 43, 44, 45, 677, 678, 679, 680, 90, 681, 766, 767, 768, 769, 770, 771, 772, 773, 774, 775, 776, 777, 778, 779, 780, 781, 782, 783, 784, 785] (by decide +kernel) (by decide +kernel)
set_option maxRecDepth 20000 in
theorem gL_law_X5_isPlateau : GoodIn wsL_law (wsV RL 152 RX5 yX5_isPlateau wsX5_isPlateau) := goodIn_app (goodIn_of _ (by decide +kernel)) ggL_law_X5_isPlateau
set_option maxRecDepth 20000 in
theorem ggL_law_X4_accuracy : GoodIn wsL_law wsX4_accuracy := goodIn_r _ [713, 30, 714, 715, 716, 29, 717, 75, 718, 719, 720, 721, 76, 760, 761, 762, 763, 764, 765, 802, 803, 804, 805, 806, 807, 808] (by decide +kernel) (by decide +kernel)
set_option maxRecDepth 20000 in
theorem gL_law_X4_accuracy : GoodIn wsL_law (wsV RL 153 RX4 yX4_accuracy wsX4_accuracy) := goodIn_app (goodIn_of _ (by decide +kernel)) ggL_law_X4_accuracy
set_option maxRecDepth 20000 in
theorem ggL_law_X5_accuracy : GoodIn wsL_law wsX5_accuracy := goodIn_r _ [725, 132, 590, 90, 766, 767, 768, 769, 770, 771, 772, 773, 774, 775, 776, 777, 778, 779, 780, 781, 782, 783, 784, 785] (by decide +kernel) (by decide +kernel)
set_option maxRecDepth 20000 in
theorem gL_law_X5_accuracy : GoodIn wsL_law (wsV RL 157 RX5 yX5_accuracy wsX5_accuracy) := goodIn_app (goodIn_of _ (by decide +kernel)) ggL_law_X5_accuracy
set_option maxRecDepth 20000 in
theorem ggL_law_X4_digest : GoodIn wsL_law wsX4_digest := goodIn_r _ [729, 730, 731, 732, 733, 2, 734, 17, 159, 160, 161, 16, 162, 37, 735, 736, 737, 738, 181, 121, 122, 123, 36, 739, 740, 741, 742, 21, 22, 32, 743, 744, 745, 603, 604, 605, 20, 606, 46, 47, 48, 211, 212, 223, 224, 225, 226, 260, 746, 747, 748, 749, 26, 362, 363, 364, 25, 365, 60, 393, 394, 395, 396, 61, 473, 474, 475, 476, 56, 450, 451, 452, 453, 63, 750, 751, 752, 753, 30, 649, 650, 651, 29, 652, 73, 664, 665, 666, 667, 70, 71, 72, 668, 669, 670, 671, 672, 686, 687, 688, 689, 74, 760, 761, 762, 763, 764, 765, 786, 787, 788, 789, 790, 791, 792, 793, 794, 795, 796, 797, 798, 799, 800, 801, 802, 803, 804, 805, 806, 807, 808] (by decide +kernel) (by decide +kernel)
set_option maxRecDepth 20000 in
theorem gL_law_X4_digest : GoodIn wsL_law (wsV RL 158 RX4 yX4_digest wsX4_digest) := goodIn_app (goodIn_of _ (by decide +kernel)) ggL_law_X4_digest
set_option maxRecDepth 20000 in
theorem ggL_law_X5_digest : GoodIn wsL_law wsX5_digest := goodIn_r _ [757, 132, 758, 133, 759, 81, 82, 85, 401, 402, 86, 408, 590, 91, 611, 612, 613, 5, 614, 83, 84, 677, 678, 679, 680, 90, 681, 766, 767, 768, 769, 770, 771, 772, 773, 774, 775, 776, 777, 778, 779, 780, 781, 782, 783, 784, 785] (by decide +kernel) (by decide +kernel)
set_option maxRecDepth 20000 in
theorem gL_law_X5_digest : GoodIn wsL_law (wsV RL 162 RX5 yX5_digest wsX5_digest) := goodIn_app (goodIn_of _ (by decide +kernel)) ggL_law_X5_digest
theorem dL_law_0 : decode cL_law 0 = .ok (.new 8, 3) := by decide +kernel
theorem dL_law_3 : decode cL_law 3 = .ok (.dup, 1) := by decide +kernel
theorem dL_law_4 : decode cL_law 4 = .ok (.invokespecial 67, 3) := by decide +kernel
theorem dL_law_7 : decode cL_law 7 = .ok (.astore_n 1, 1) := by decide +kernel
theorem dL_law_8 : decode cL_law 8 = .ok (.new 68, 3) := by decide +kernel
theorem dL_law_11 : decode cL_law 11 = .ok (.dup, 1) := by decide +kernel
theorem dL_law_12 : decode cL_law 12 = .ok (.invokespecial 70, 3) := by decide +kernel
theorem dL_law_15 : decode cL_law 15 = .ok (.astore_n 2, 1) := by decide +kernel
theorem dL_law_16 : decode cL_law 16 = .ok (.iconst 1, 1) := by decide +kernel
theorem dL_law_17 : decode cL_law 17 = .ok (.newarray .long, 2) := by decide +kernel
theorem dL_law_19 : decode cL_law 19 = .ok (.astore_n 3, 1) := by decide +kernel
theorem dL_law_20 : decode cL_law 20 = .ok (.iconst 0, 1) := by decide +kernel
theorem dL_law_21 : decode cL_law 21 = .ok (.istore 4, 2) := by decide +kernel
theorem dL_law_23 : decode cL_law 23 = .ok (.iload 4, 2) := by decide +kernel
theorem dL_law_25 : decode cL_law 25 = .ok (.aload_n 0, 1) := by decide +kernel
theorem dL_law_26 : decode cL_law 26 = .ok (.arraylength, 1) := by decide +kernel
theorem dL_law_27 : decode cL_law 27 = .ok (.iconst 4, 1) := by decide +kernel
theorem dL_law_28 : decode cL_law 28 = .ok (.isub, 1) := by decide +kernel
theorem dL_law_29 : decode cL_law 29 = .ok (.if_icmp .gt 1168, 3) := by decide +kernel
theorem dL_law_32 : decode cL_law 32 = .ok (.aload_n 0, 1) := by decide +kernel
theorem dL_law_33 : decode cL_law 33 = .ok (.iload 4, 2) := by decide +kernel
theorem dL_law_35 : decode cL_law 35 = .ok (.iaload, 1) := by decide +kernel
theorem dL_law_36 : decode cL_law 36 = .ok (.bipush 31, 2) := by decide +kernel
theorem dL_law_38 : decode cL_law 38 = .ok (.iand, 1) := by decide +kernel
theorem dL_law_39 : decode cL_law 39 = .ok (.tableswitch 1152 0 22 #[105, 193, 206, 261, 317, 392, 448, 504, 548, 561, 617, 661, 705, 773, 841, 921, 934, 990, 1003, 1071, 1084, 1097, 1138], 105) := by decide +kernel
theorem dL_law_144 : decode cL_law 144 = .ok (.aload_n 1, 1) := by decide +kernel
theorem dL_law_145 : decode cL_law 145 = .ok (.aload_n 0, 1) := by decide +kernel
theorem dL_law_146 : decode cL_law 146 = .ok (.iload 4, 2) := by decide +kernel
theorem dL_law_148 : decode cL_law 148 = .ok (.iconst 1, 1) := by decide +kernel
theorem dL_law_149 : decode cL_law 149 = .ok (.iadd, 1) := by decide +kernel
theorem dL_law_150 : decode cL_law 150 = .ok (.iaload, 1) := by decide +kernel
theorem dL_law_151 : decode cL_law 151 = .ok (.i2l, 1) := by decide +kernel
theorem dL_law_152 : decode cL_law 152 = .ok (.bipush 32, 2) := by decide +kernel
theorem dL_law_154 : decode cL_law 154 = .ok (.lshl, 1) := by decide +kernel
theorem dL_law_155 : decode cL_law 155 = .ok (.aload_n 0, 1) := by decide +kernel
theorem dL_law_156 : decode cL_law 156 = .ok (.iload 4, 2) := by decide +kernel
theorem dL_law_158 : decode cL_law 158 = .ok (.iconst 2, 1) := by decide +kernel
theorem dL_law_159 : decode cL_law 159 = .ok (.iadd, 1) := by decide +kernel
theorem dL_law_160 : decode cL_law 160 = .ok (.iaload, 1) := by decide +kernel
theorem dL_law_161 : decode cL_law 161 = .ok (.i2l, 1) := by decide +kernel
theorem dL_law_162 : decode cL_law 162 = .ok (.ldc2_w 71, 3) := by decide +kernel
theorem dL_law_165 : decode cL_law 165 = .ok (.land, 1) := by decide +kernel
theorem dL_law_166 : decode cL_law 166 = .ok (.lor, 1) := by decide +kernel
theorem dL_law_167 : decode cL_law 167 = .ok (.aload_n 3, 1) := by decide +kernel
theorem dL_law_168 : decode cL_law 168 = .ok (.invokestatic 73, 3) := by decide +kernel
theorem dL_law_171 : decode cL_law 171 = .ok (.istore 5, 2) := by decide +kernel
theorem dL_law_173 : decode cL_law 173 = .ok (.aload_n 2, 1) := by decide +kernel
theorem dL_law_174 : decode cL_law 174 = .ok (.aload_n 0, 1) := by decide +kernel
theorem dL_law_175 : decode cL_law 175 = .ok (.iload 4, 2) := by decide +kernel
theorem dL_law_177 : decode cL_law 177 = .ok (.iconst 1, 1) := by decide +kernel
theorem dL_law_178 : decode cL_law 178 = .ok (.iadd, 1) := by decide +kernel
theorem dL_law_179 : decode cL_law 179 = .ok (.iaload, 1) := by decide +kernel
theorem dL_law_180 : decode cL_law 180 = .ok (.i2l, 1) := by decide +kernel
theorem dL_law_181 : decode cL_law 181 = .ok (.bipush 32, 2) := by decide +kernel
theorem dL_law_183 : decode cL_law 183 = .ok (.lshl, 1) := by decide +kernel
theorem dL_law_184 : decode cL_law 184 = .ok (.aload_n 0, 1) := by decide +kernel
theorem dL_law_185 : decode cL_law 185 = .ok (.iload 4, 2) := by decide +kernel
theorem dL_law_187 : decode cL_law 187 = .ok (.iconst 2, 1) := by decide +kernel
theorem dL_law_188 : decode cL_law 188 = .ok (.iadd, 1) := by decide +kernel
theorem dL_law_189 : decode cL_law 189 = .ok (.iaload, 1) := by decide +kernel
theorem dL_law_190 : decode cL_law 190 = .ok (.i2l, 1) := by decide +kernel
theorem dL_law_191 : decode cL_law 191 = .ok (.ldc2_w 71, 3) := by decide +kernel
theorem dL_law_194 : decode cL_law 194 = .ok (.land, 1) := by decide +kernel
theorem dL_law_195 : decode cL_law 195 = .ok (.lor, 1) := by decide +kernel
theorem dL_law_196 : decode cL_law 196 = .ok (.invokevirtual 78, 3) := by decide +kernel
theorem dL_law_199 : decode cL_law 199 = .ok (.istore 6, 2) := by decide +kernel
theorem dL_law_201 : decode cL_law 201 = .ok (.aload_n 2, 1) := by decide +kernel
theorem dL_law_202 : decode cL_law 202 = .ok (.invokevirtual 79, 3) := by decide +kernel
theorem dL_law_205 : decode cL_law 205 = .ok (.iload 5, 2) := by decide +kernel
theorem dL_law_207 : decode cL_law 207 = .ok (.if_icmp .eq 5, 3) := by decide +kernel
theorem dL_law_210 : decode cL_law 210 = .ok (.iconst 0, 1) := by decide +kernel
theorem dL_law_211 : decode cL_law 211 = .ok (.ireturn, 1) := by decide +kernel
theorem dL_law_212 : decode cL_law 212 = .ok (.iload 5, 2) := by decide +kernel
theorem dL_law_214 : decode cL_law 214 = .ok (.ifCond .ne 15, 3) := by decide +kernel
theorem dL_law_217 : decode cL_law 217 = .ok (.aload_n 3, 1) := by decide +kernel
theorem dL_law_218 : decode cL_law 218 = .ok (.iconst 0, 1) := by decide +kernel
theorem dL_law_219 : decode cL_law 219 = .ok (.laload, 1) := by decide +kernel
theorem dL_law_220 : decode cL_law 220 = .ok (.iload 6, 2) := by decide +kernel
theorem dL_law_222 : decode cL_law 222 = .ok (.i2l, 1) := by decide +kernel
theorem dL_law_223 : decode cL_law 223 = .ok (.lcmp, 1) := by decide +kernel
theorem dL_law_224 : decode cL_law 224 = .ok (.ifCond .eq 5, 3) := by decide +kernel
theorem dL_law_227 : decode cL_law 227 = .ok (.iconst 0, 1) := by decide +kernel
theorem dL_law_228 : decode cL_law 228 = .ok (.ireturn, 1) := by decide +kernel
theorem dL_law_229 : decode cL_law 229 = .ok (.goto 962, 3) := by decide +kernel
theorem dL_law_232 : decode cL_law 232 = .ok (.aload_n 1, 1) := by decide +kernel
theorem dL_law_233 : decode cL_law 233 = .ok (.invokevirtual 82, 3) := by decide +kernel
theorem dL_law_236 : decode cL_law 236 = .ok (.aload_n 2, 1) := by decide +kernel
theorem dL_law_237 : decode cL_law 237 = .ok (.invokevirtual 85, 3) := by decide +kernel
theorem dL_law_240 : decode cL_law 240 = .ok (.if_icmp .eq 951, 3) := by decide +kernel
theorem dL_law_243 : decode cL_law 243 = .ok (.iconst 0, 1) := by decide +kernel
theorem dL_law_244 : decode cL_law 244 = .ok (.ireturn, 1) := by decide +kernel
theorem dL_law_245 : decode cL_law 245 = .ok (.aload_n 1, 1) := by decide +kernel
theorem dL_law_246 : decode cL_law 246 = .ok (.aload_n 0, 1) := by decide +kernel
theorem dL_law_247 : decode cL_law 247 = .ok (.iload 4, 2) := by decide +kernel
theorem dL_law_249 : decode cL_law 249 = .ok (.iconst 1, 1) := by decide +kernel
theorem dL_law_250 : decode cL_law 250 = .ok (.iadd, 1) := by decide +kernel
theorem dL_law_251 : decode cL_law 251 = .ok (.iaload, 1) := by decide +kernel
theorem dL_law_252 : decode cL_law 252 = .ok (.aload_n 3, 1) := by decide +kernel
theorem dL_law_253 : decode cL_law 253 = .ok (.invokestatic 86, 3) := by decide +kernel
theorem dL_law_256 : decode cL_law 256 = .ok (.istore 5, 2) := by decide +kernel
theorem dL_law_258 : decode cL_law 258 = .ok (.aload_n 2, 1) := by decide +kernel
theorem dL_law_259 : decode cL_law 259 = .ok (.aload_n 0, 1) := by decide +kernel
theorem dL_law_260 : decode cL_law 260 = .ok (.iload 4, 2) := by decide +kernel
theorem dL_law_262 : decode cL_law 262 = .ok (.iconst 1, 1) := by decide +kernel
theorem dL_law_263 : decode cL_law 263 = .ok (.iadd, 1) := by decide +kernel
theorem dL_law_264 : decode cL_law 264 = .ok (.iaload, 1) := by decide +kernel
theorem dL_law_265 : decode cL_law 265 = .ok (.invokevirtual 89, 3) := by decide +kernel
theorem dL_law_268 : decode cL_law 268 = .ok (.lstore 6, 2) := by decide +kernel
theorem dL_law_270 : decode cL_law 270 = .ok (.aload_n 2, 1) := by decide +kernel
theorem dL_law_271 : decode cL_law 271 = .ok (.invokevirtual 79, 3) := by decide +kernel
theorem dL_law_274 : decode cL_law 274 = .ok (.iload 5, 2) := by decide +kernel
theorem dL_law_276 : decode cL_law 276 = .ok (.if_icmp .eq 5, 3) := by decide +kernel
theorem dL_law_279 : decode cL_law 279 = .ok (.iconst 0, 1) := by decide +kernel
theorem dL_law_280 : decode cL_law 280 = .ok (.ireturn, 1) := by decide +kernel
theorem dL_law_281 : decode cL_law 281 = .ok (.iload 5, 2) := by decide +kernel
theorem dL_law_283 : decode cL_law 283 = .ok (.ifCond .ne 14, 3) := by decide +kernel
theorem dL_law_286 : decode cL_law 286 = .ok (.aload_n 3, 1) := by decide +kernel
theorem dL_law_287 : decode cL_law 287 = .ok (.iconst 0, 1) := by decide +kernel
theorem dL_law_288 : decode cL_law 288 = .ok (.laload, 1) := by decide +kernel
theorem dL_law_289 : decode cL_law 289 = .ok (.lload 6, 2) := by decide +kernel
theorem dL_law_291 : decode cL_law 291 = .ok (.lcmp, 1) := by decide +kernel
theorem dL_law_292 : decode cL_law 292 = .ok (.ifCond .eq 5, 3) := by decide +kernel
theorem dL_law_295 : decode cL_law 295 = .ok (.iconst 0, 1) := by decide +kernel
theorem dL_law_296 : decode cL_law 296 = .ok (.ireturn, 1) := by decide +kernel
theorem dL_law_297 : decode cL_law 297 = .ok (.goto 894, 3) := by decide +kernel
theorem dL_law_300 : decode cL_law 300 = .ok (.aload_n 1, 1) := by decide +kernel
theorem dL_law_301 : decode cL_law 301 = .ok (.aload_n 0, 1) := by decide +kernel
theorem dL_law_302 : decode cL_law 302 = .ok (.iload 4, 2) := by decide +kernel
theorem dL_law_304 : decode cL_law 304 = .ok (.iconst 1, 1) := by decide +kernel
theorem dL_law_305 : decode cL_law 305 = .ok (.iadd, 1) := by decide +kernel
theorem dL_law_306 : decode cL_law 306 = .ok (.iaload, 1) := by decide +kernel
theorem dL_law_307 : decode cL_law 307 = .ok (.aload_n 3, 1) := by decide +kernel
theorem dL_law_308 : decode cL_law 308 = .ok (.invokestatic 90, 3) := by decide +kernel
theorem dL_law_311 : decode cL_law 311 = .ok (.istore 5, 2) := by decide +kernel
theorem dL_law_313 : decode cL_law 313 = .ok (.aload_n 2, 1) := by decide +kernel
theorem dL_law_314 : decode cL_law 314 = .ok (.aload_n 0, 1) := by decide +kernel
theorem dL_law_315 : decode cL_law 315 = .ok (.iload 4, 2) := by decide +kernel
theorem dL_law_317 : decode cL_law 317 = .ok (.iconst 1, 1) := by decide +kernel
theorem dL_law_318 : decode cL_law 318 = .ok (.iadd, 1) := by decide +kernel
theorem dL_law_319 : decode cL_law 319 = .ok (.iaload, 1) := by decide +kernel
theorem dL_law_320 : decode cL_law 320 = .ok (.invokevirtual 92, 3) := by decide +kernel
theorem dL_law_323 : decode cL_law 323 = .ok (.istore 6, 2) := by decide +kernel
theorem dL_law_325 : decode cL_law 325 = .ok (.aload_n 2, 1) := by decide +kernel
theorem dL_law_326 : decode cL_law 326 = .ok (.invokevirtual 79, 3) := by decide +kernel
theorem dL_law_329 : decode cL_law 329 = .ok (.iload 5, 2) := by decide +kernel
theorem dL_law_331 : decode cL_law 331 = .ok (.if_icmp .eq 5, 3) := by decide +kernel
theorem dL_law_334 : decode cL_law 334 = .ok (.iconst 0, 1) := by decide +kernel
theorem dL_law_335 : decode cL_law 335 = .ok (.ireturn, 1) := by decide +kernel
theorem dL_law_336 : decode cL_law 336 = .ok (.iload 5, 2) := by decide +kernel
theorem dL_law_338 : decode cL_law 338 = .ok (.ifCond .ne 15, 3) := by decide +kernel
theorem dL_law_341 : decode cL_law 341 = .ok (.aload_n 3, 1) := by decide +kernel
theorem dL_law_342 : decode cL_law 342 = .ok (.iconst 0, 1) := by decide +kernel
theorem dL_law_343 : decode cL_law 343 = .ok (.laload, 1) := by decide +kernel
theorem dL_law_344 : decode cL_law 344 = .ok (.iload 6, 2) := by decide +kernel
theorem dL_law_346 : decode cL_law 346 = .ok (.i2l, 1) := by decide +kernel
theorem dL_law_347 : decode cL_law 347 = .ok (.lcmp, 1) := by decide +kernel
theorem dL_law_348 : decode cL_law 348 = .ok (.ifCond .eq 5, 3) := by decide +kernel
theorem dL_law_351 : decode cL_law 351 = .ok (.iconst 0, 1) := by decide +kernel
theorem dL_law_352 : decode cL_law 352 = .ok (.ireturn, 1) := by decide +kernel
theorem dL_law_353 : decode cL_law 353 = .ok (.goto 838, 3) := by decide +kernel
theorem dL_law_356 : decode cL_law 356 = .ok (.aload_n 1, 1) := by decide +kernel
theorem dL_law_357 : decode cL_law 357 = .ok (.aload_n 0, 1) := by decide +kernel
theorem dL_law_358 : decode cL_law 358 = .ok (.iload 4, 2) := by decide +kernel
theorem dL_law_360 : decode cL_law 360 = .ok (.iconst 1, 1) := by decide +kernel
theorem dL_law_361 : decode cL_law 361 = .ok (.iadd, 1) := by decide +kernel
theorem dL_law_362 : decode cL_law 362 = .ok (.iaload, 1) := by decide +kernel
theorem dL_law_363 : decode cL_law 363 = .ok (.aload_n 0, 1) := by decide +kernel
theorem dL_law_364 : decode cL_law 364 = .ok (.iload 4, 2) := by decide +kernel
theorem dL_law_366 : decode cL_law 366 = .ok (.iconst 2, 1) := by decide +kernel
theorem dL_law_367 : decode cL_law 367 = .ok (.iadd, 1) := by decide +kernel
theorem dL_law_368 : decode cL_law 368 = .ok (.iaload, 1) := by decide +kernel
theorem dL_law_369 : decode cL_law 369 = .ok (.aload_n 3, 1) := by decide +kernel
theorem dL_law_370 : decode cL_law 370 = .ok (.invokestatic 93, 3) := by decide +kernel
theorem dL_law_373 : decode cL_law 373 = .ok (.istore 5, 2) := by decide +kernel
theorem dL_law_375 : decode cL_law 375 = .ok (.aload_n 2, 1) := by decide +kernel
theorem dL_law_376 : decode cL_law 376 = .ok (.aload_n 0, 1) := by decide +kernel
theorem dL_law_377 : decode cL_law 377 = .ok (.iload 4, 2) := by decide +kernel
theorem dL_law_379 : decode cL_law 379 = .ok (.iconst 1, 1) := by decide +kernel
theorem dL_law_380 : decode cL_law 380 = .ok (.iadd, 1) := by decide +kernel
theorem dL_law_381 : decode cL_law 381 = .ok (.iaload, 1) := by decide +kernel
theorem dL_law_382 : decode cL_law 382 = .ok (.aload_n 0, 1) := by decide +kernel
theorem dL_law_383 : decode cL_law 383 = .ok (.iload 4, 2) := by decide +kernel
theorem dL_law_385 : decode cL_law 385 = .ok (.iconst 2, 1) := by decide +kernel
theorem dL_law_386 : decode cL_law 386 = .ok (.iadd, 1) := by decide +kernel
theorem dL_law_387 : decode cL_law 387 = .ok (.iaload, 1) := by decide +kernel
theorem dL_law_388 : decode cL_law 388 = .ok (.invokevirtual 96, 3) := by decide +kernel
theorem dL_law_391 : decode cL_law 391 = .ok (.istore 6, 2) := by decide +kernel
theorem dL_law_393 : decode cL_law 393 = .ok (.aload_n 2, 1) := by decide +kernel
theorem dL_law_394 : decode cL_law 394 = .ok (.invokevirtual 79, 3) := by decide +kernel
theorem dL_law_397 : decode cL_law 397 = .ok (.iload 5, 2) := by decide +kernel
theorem dL_law_399 : decode cL_law 399 = .ok (.if_icmp .eq 5, 3) := by decide +kernel
theorem dL_law_402 : decode cL_law 402 = .ok (.iconst 0, 1) := by decide +kernel
theorem dL_law_403 : decode cL_law 403 = .ok (.ireturn, 1) := by decide +kernel
theorem dL_law_404 : decode cL_law 404 = .ok (.iload 5, 2) := by decide +kernel
theorem dL_law_406 : decode cL_law 406 = .ok (.ifCond .ne 22, 3) := by decide +kernel
theorem dL_law_409 : decode cL_law 409 = .ok (.aload_n 3, 1) := by decide +kernel
theorem dL_law_410 : decode cL_law 410 = .ok (.iconst 0, 1) := by decide +kernel
theorem dL_law_411 : decode cL_law 411 = .ok (.laload, 1) := by decide +kernel
theorem dL_law_412 : decode cL_law 412 = .ok (.iload 6, 2) := by decide +kernel
theorem dL_law_414 : decode cL_law 414 = .ok (.ifCond .eq 7, 3) := by decide +kernel
theorem dL_law_417 : decode cL_law 417 = .ok (.lconst 1, 1) := by decide +kernel
theorem dL_law_418 : decode cL_law 418 = .ok (.goto 4, 3) := by decide +kernel
theorem dL_law_421 : decode cL_law 421 = .ok (.lconst 0, 1) := by decide +kernel
theorem dL_law_422 : decode cL_law 422 = .ok (.lcmp, 1) := by decide +kernel
theorem dL_law_423 : decode cL_law 423 = .ok (.ifCond .eq 5, 3) := by decide +kernel
theorem dL_law_426 : decode cL_law 426 = .ok (.iconst 0, 1) := by decide +kernel
theorem dL_law_427 : decode cL_law 427 = .ok (.ireturn, 1) := by decide +kernel
theorem dL_law_428 : decode cL_law 428 = .ok (.goto 763, 3) := by decide +kernel
theorem dL_law_431 : decode cL_law 431 = .ok (.aload_n 1, 1) := by decide +kernel
theorem dL_law_432 : decode cL_law 432 = .ok (.aload_n 0, 1) := by decide +kernel
theorem dL_law_433 : decode cL_law 433 = .ok (.iload 4, 2) := by decide +kernel
theorem dL_law_435 : decode cL_law 435 = .ok (.iconst 1, 1) := by decide +kernel
theorem dL_law_436 : decode cL_law 436 = .ok (.iadd, 1) := by decide +kernel
theorem dL_law_437 : decode cL_law 437 = .ok (.iaload, 1) := by decide +kernel
theorem dL_law_438 : decode cL_law 438 = .ok (.aload_n 3, 1) := by decide +kernel
theorem dL_law_439 : decode cL_law 439 = .ok (.invokestatic 97, 3) := by decide +kernel
theorem dL_law_442 : decode cL_law 442 = .ok (.istore 5, 2) := by decide +kernel
theorem dL_law_444 : decode cL_law 444 = .ok (.aload_n 2, 1) := by decide +kernel
theorem dL_law_445 : decode cL_law 445 = .ok (.aload_n 0, 1) := by decide +kernel
theorem dL_law_446 : decode cL_law 446 = .ok (.iload 4, 2) := by decide +kernel
theorem dL_law_448 : decode cL_law 448 = .ok (.iconst 1, 1) := by decide +kernel
theorem dL_law_449 : decode cL_law 449 = .ok (.iadd, 1) := by decide +kernel
theorem dL_law_450 : decode cL_law 450 = .ok (.iaload, 1) := by decide +kernel
theorem dL_law_451 : decode cL_law 451 = .ok (.invokevirtual 99, 3) := by decide +kernel
theorem dL_law_454 : decode cL_law 454 = .ok (.istore 6, 2) := by decide +kernel
theorem dL_law_456 : decode cL_law 456 = .ok (.aload_n 2, 1) := by decide +kernel
theorem dL_law_457 : decode cL_law 457 = .ok (.invokevirtual 79, 3) := by decide +kernel
theorem dL_law_460 : decode cL_law 460 = .ok (.iload 5, 2) := by decide +kernel
theorem dL_law_462 : decode cL_law 462 = .ok (.if_icmp .eq 5, 3) := by decide +kernel
theorem dL_law_465 : decode cL_law 465 = .ok (.iconst 0, 1) := by decide +kernel
theorem dL_law_466 : decode cL_law 466 = .ok (.ireturn, 1) := by decide +kernel
theorem dL_law_467 : decode cL_law 467 = .ok (.iload 5, 2) := by decide +kernel
theorem dL_law_469 : decode cL_law 469 = .ok (.ifCond .ne 15, 3) := by decide +kernel
theorem dL_law_472 : decode cL_law 472 = .ok (.aload_n 3, 1) := by decide +kernel
theorem dL_law_473 : decode cL_law 473 = .ok (.iconst 0, 1) := by decide +kernel
theorem dL_law_474 : decode cL_law 474 = .ok (.laload, 1) := by decide +kernel
theorem dL_law_475 : decode cL_law 475 = .ok (.iload 6, 2) := by decide +kernel
theorem dL_law_477 : decode cL_law 477 = .ok (.i2l, 1) := by decide +kernel
theorem dL_law_478 : decode cL_law 478 = .ok (.lcmp, 1) := by decide +kernel
theorem dL_law_479 : decode cL_law 479 = .ok (.ifCond .eq 5, 3) := by decide +kernel
theorem dL_law_482 : decode cL_law 482 = .ok (.iconst 0, 1) := by decide +kernel
theorem dL_law_483 : decode cL_law 483 = .ok (.ireturn, 1) := by decide +kernel
theorem dL_law_484 : decode cL_law 484 = .ok (.goto 707, 3) := by decide +kernel
theorem dL_law_487 : decode cL_law 487 = .ok (.aload_n 1, 1) := by decide +kernel
theorem dL_law_488 : decode cL_law 488 = .ok (.aload_n 0, 1) := by decide +kernel
theorem dL_law_489 : decode cL_law 489 = .ok (.iload 4, 2) := by decide +kernel
theorem dL_law_491 : decode cL_law 491 = .ok (.iconst 1, 1) := by decide +kernel
theorem dL_law_492 : decode cL_law 492 = .ok (.iadd, 1) := by decide +kernel
theorem dL_law_493 : decode cL_law 493 = .ok (.iaload, 1) := by decide +kernel
theorem dL_law_494 : decode cL_law 494 = .ok (.aload_n 3, 1) := by decide +kernel
theorem dL_law_495 : decode cL_law 495 = .ok (.invokestatic 100, 3) := by decide +kernel
theorem dL_law_498 : decode cL_law 498 = .ok (.istore 5, 2) := by decide +kernel
theorem dL_law_500 : decode cL_law 500 = .ok (.aload_n 2, 1) := by decide +kernel
theorem dL_law_501 : decode cL_law 501 = .ok (.aload_n 0, 1) := by decide +kernel
theorem dL_law_502 : decode cL_law 502 = .ok (.iload 4, 2) := by decide +kernel
theorem dL_law_504 : decode cL_law 504 = .ok (.iconst 1, 1) := by decide +kernel
theorem dL_law_505 : decode cL_law 505 = .ok (.iadd, 1) := by decide +kernel
theorem dL_law_506 : decode cL_law 506 = .ok (.iaload, 1) := by decide +kernel
theorem dL_law_507 : decode cL_law 507 = .ok (.invokevirtual 102, 3) := by decide +kernel
theorem dL_law_510 : decode cL_law 510 = .ok (.istore 6, 2) := by decide +kernel
theorem dL_law_512 : decode cL_law 512 = .ok (.aload_n 2, 1) := by decide +kernel
theorem dL_law_513 : decode cL_law 513 = .ok (.invokevirtual 79, 3) := by decide +kernel
theorem dL_law_516 : decode cL_law 516 = .ok (.iload 5, 2) := by decide +kernel
theorem dL_law_518 : decode cL_law 518 = .ok (.if_icmp .eq 5, 3) := by decide +kernel
theorem dL_law_521 : decode cL_law 521 = .ok (.iconst 0, 1) := by decide +kernel
theorem dL_law_522 : decode cL_law 522 = .ok (.ireturn, 1) := by decide +kernel
theorem dL_law_523 : decode cL_law 523 = .ok (.iload 5, 2) := by decide +kernel
theorem dL_law_525 : decode cL_law 525 = .ok (.ifCond .ne 15, 3) := by decide +kernel
theorem dL_law_528 : decode cL_law 528 = .ok (.aload_n 3, 1) := by decide +kernel
theorem dL_law_529 : decode cL_law 529 = .ok (.iconst 0, 1) := by decide +kernel
theorem dL_law_530 : decode cL_law 530 = .ok (.laload, 1) := by decide +kernel
theorem dL_law_531 : decode cL_law 531 = .ok (.iload 6, 2) := by decide +kernel
theorem dL_law_533 : decode cL_law 533 = .ok (.i2l, 1) := by decide +kernel
theorem dL_law_534 : decode cL_law 534 = .ok (.lcmp, 1) := by decide +kernel
theorem dL_law_535 : decode cL_law 535 = .ok (.ifCond .eq 5, 3) := by decide +kernel
theorem dL_law_538 : decode cL_law 538 = .ok (.iconst 0, 1) := by decide +kernel
theorem dL_law_539 : decode cL_law 539 = .ok (.ireturn, 1) := by decide +kernel
theorem dL_law_540 : decode cL_law 540 = .ok (.goto 651, 3) := by decide +kernel
theorem dL_law_543 : decode cL_law 543 = .ok (.aload_n 1, 1) := by decide +kernel
theorem dL_law_544 : decode cL_law 544 = .ok (.aload_n 3, 1) := by decide +kernel
theorem dL_law_545 : decode cL_law 545 = .ok (.invokestatic 103, 3) := by decide +kernel
theorem dL_law_548 : decode cL_law 548 = .ok (.istore 5, 2) := by decide +kernel
theorem dL_law_550 : decode cL_law 550 = .ok (.aload_n 2, 1) := by decide +kernel
theorem dL_law_551 : decode cL_law 551 = .ok (.invokevirtual 106, 3) := by decide +kernel
theorem dL_law_554 : decode cL_law 554 = .ok (.istore 6, 2) := by decide +kernel
theorem dL_law_556 : decode cL_law 556 = .ok (.aload_n 2, 1) := by decide +kernel
theorem dL_law_557 : decode cL_law 557 = .ok (.invokevirtual 79, 3) := by decide +kernel
theorem dL_law_560 : decode cL_law 560 = .ok (.iload 5, 2) := by decide +kernel
theorem dL_law_562 : decode cL_law 562 = .ok (.if_icmp .eq 5, 3) := by decide +kernel
theorem dL_law_565 : decode cL_law 565 = .ok (.iconst 0, 1) := by decide +kernel
theorem dL_law_566 : decode cL_law 566 = .ok (.ireturn, 1) := by decide +kernel
theorem dL_law_567 : decode cL_law 567 = .ok (.iload 5, 2) := by decide +kernel
theorem dL_law_569 : decode cL_law 569 = .ok (.ifCond .ne 15, 3) := by decide +kernel
theorem dL_law_572 : decode cL_law 572 = .ok (.aload_n 3, 1) := by decide +kernel
theorem dL_law_573 : decode cL_law 573 = .ok (.iconst 0, 1) := by decide +kernel
theorem dL_law_574 : decode cL_law 574 = .ok (.laload, 1) := by decide +kernel
theorem dL_law_575 : decode cL_law 575 = .ok (.iload 6, 2) := by decide +kernel
theorem dL_law_577 : decode cL_law 577 = .ok (.i2l, 1) := by decide +kernel
theorem dL_law_578 : decode cL_law 578 = .ok (.lcmp, 1) := by decide +kernel
theorem dL_law_579 : decode cL_law 579 = .ok (.ifCond .eq 5, 3) := by decide +kernel
theorem dL_law_582 : decode cL_law 582 = .ok (.iconst 0, 1) := by decide +kernel
theorem dL_law_583 : decode cL_law 583 = .ok (.ireturn, 1) := by decide +kernel
theorem dL_law_584 : decode cL_law 584 = .ok (.goto 607, 3) := by decide +kernel
theorem dL_law_587 : decode cL_law 587 = .ok (.aload_n 1, 1) := by decide +kernel
theorem dL_law_588 : decode cL_law 588 = .ok (.invokevirtual 107, 3) := by decide +kernel
theorem dL_law_591 : decode cL_law 591 = .ok (.aload_n 2, 1) := by decide +kernel
theorem dL_law_592 : decode cL_law 592 = .ok (.invokevirtual 111, 3) := by decide +kernel
theorem dL_law_595 : decode cL_law 595 = .ok (.if_icmp .eq 596, 3) := by decide +kernel
theorem dL_law_598 : decode cL_law 598 = .ok (.iconst 0, 1) := by decide +kernel
theorem dL_law_599 : decode cL_law 599 = .ok (.ireturn, 1) := by decide +kernel
theorem dL_law_600 : decode cL_law 600 = .ok (.aload_n 1, 1) := by decide +kernel
theorem dL_law_601 : decode cL_law 601 = .ok (.aload_n 0, 1) := by decide +kernel
theorem dL_law_602 : decode cL_law 602 = .ok (.iload 4, 2) := by decide +kernel
theorem dL_law_604 : decode cL_law 604 = .ok (.iconst 1, 1) := by decide +kernel
theorem dL_law_605 : decode cL_law 605 = .ok (.iadd, 1) := by decide +kernel
theorem dL_law_606 : decode cL_law 606 = .ok (.iaload, 1) := by decide +kernel
theorem dL_law_607 : decode cL_law 607 = .ok (.aload_n 3, 1) := by decide +kernel
theorem dL_law_608 : decode cL_law 608 = .ok (.invokestatic 112, 3) := by decide +kernel
theorem dL_law_611 : decode cL_law 611 = .ok (.istore 5, 2) := by decide +kernel
theorem dL_law_613 : decode cL_law 613 = .ok (.aload_n 2, 1) := by decide +kernel
theorem dL_law_614 : decode cL_law 614 = .ok (.aload_n 0, 1) := by decide +kernel
theorem dL_law_615 : decode cL_law 615 = .ok (.iload 4, 2) := by decide +kernel
theorem dL_law_617 : decode cL_law 617 = .ok (.iconst 1, 1) := by decide +kernel
theorem dL_law_618 : decode cL_law 618 = .ok (.iadd, 1) := by decide +kernel
theorem dL_law_619 : decode cL_law 619 = .ok (.iaload, 1) := by decide +kernel
theorem dL_law_620 : decode cL_law 620 = .ok (.invokevirtual 114, 3) := by decide +kernel
theorem dL_law_623 : decode cL_law 623 = .ok (.istore 6, 2) := by decide +kernel
theorem dL_law_625 : decode cL_law 625 = .ok (.aload_n 2, 1) := by decide +kernel
theorem dL_law_626 : decode cL_law 626 = .ok (.invokevirtual 79, 3) := by decide +kernel
theorem dL_law_629 : decode cL_law 629 = .ok (.iload 5, 2) := by decide +kernel
theorem dL_law_631 : decode cL_law 631 = .ok (.if_icmp .eq 5, 3) := by decide +kernel
theorem dL_law_634 : decode cL_law 634 = .ok (.iconst 0, 1) := by decide +kernel
theorem dL_law_635 : decode cL_law 635 = .ok (.ireturn, 1) := by decide +kernel
theorem dL_law_636 : decode cL_law 636 = .ok (.iload 5, 2) := by decide +kernel
theorem dL_law_638 : decode cL_law 638 = .ok (.ifCond .ne 15, 3) := by decide +kernel
theorem dL_law_641 : decode cL_law 641 = .ok (.aload_n 3, 1) := by decide +kernel
theorem dL_law_642 : decode cL_law 642 = .ok (.iconst 0, 1) := by decide +kernel
theorem dL_law_643 : decode cL_law 643 = .ok (.laload, 1) := by decide +kernel
theorem dL_law_644 : decode cL_law 644 = .ok (.iload 6, 2) := by decide +kernel
theorem dL_law_646 : decode cL_law 646 = .ok (.i2l, 1) := by decide +kernel
theorem dL_law_647 : decode cL_law 647 = .ok (.lcmp, 1) := by decide +kernel
theorem dL_law_648 : decode cL_law 648 = .ok (.ifCond .eq 5, 3) := by decide +kernel
theorem dL_law_651 : decode cL_law 651 = .ok (.iconst 0, 1) := by decide +kernel
theorem dL_law_652 : decode cL_law 652 = .ok (.ireturn, 1) := by decide +kernel
theorem dL_law_653 : decode cL_law 653 = .ok (.goto 538, 3) := by decide +kernel
theorem dL_law_656 : decode cL_law 656 = .ok (.aload_n 1, 1) := by decide +kernel
theorem dL_law_657 : decode cL_law 657 = .ok (.aload_n 3, 1) := by decide +kernel
theorem dL_law_658 : decode cL_law 658 = .ok (.invokestatic 115, 3) := by decide +kernel
theorem dL_law_661 : decode cL_law 661 = .ok (.istore 5, 2) := by decide +kernel
theorem dL_law_663 : decode cL_law 663 = .ok (.aload_n 2, 1) := by decide +kernel
theorem dL_law_664 : decode cL_law 664 = .ok (.invokevirtual 117, 3) := by decide +kernel
theorem dL_law_667 : decode cL_law 667 = .ok (.istore 6, 2) := by decide +kernel
theorem dL_law_669 : decode cL_law 669 = .ok (.aload_n 2, 1) := by decide +kernel
theorem dL_law_670 : decode cL_law 670 = .ok (.invokevirtual 79, 3) := by decide +kernel
theorem dL_law_673 : decode cL_law 673 = .ok (.iload 5, 2) := by decide +kernel
theorem dL_law_675 : decode cL_law 675 = .ok (.if_icmp .eq 5, 3) := by decide +kernel
theorem dL_law_678 : decode cL_law 678 = .ok (.iconst 0, 1) := by decide +kernel
theorem dL_law_679 : decode cL_law 679 = .ok (.ireturn, 1) := by decide +kernel
theorem dL_law_680 : decode cL_law 680 = .ok (.iload 5, 2) := by decide +kernel
theorem dL_law_682 : decode cL_law 682 = .ok (.ifCond .ne 15, 3) := by decide +kernel
theorem dL_law_685 : decode cL_law 685 = .ok (.aload_n 3, 1) := by decide +kernel
theorem dL_law_686 : decode cL_law 686 = .ok (.iconst 0, 1) := by decide +kernel
theorem dL_law_687 : decode cL_law 687 = .ok (.laload, 1) := by decide +kernel
theorem dL_law_688 : decode cL_law 688 = .ok (.iload 6, 2) := by decide +kernel
theorem dL_law_690 : decode cL_law 690 = .ok (.i2l, 1) := by decide +kernel
theorem dL_law_691 : decode cL_law 691 = .ok (.lcmp, 1) := by decide +kernel
theorem dL_law_692 : decode cL_law 692 = .ok (.ifCond .eq 5, 3) := by decide +kernel
theorem dL_law_695 : decode cL_law 695 = .ok (.iconst 0, 1) := by decide +kernel
theorem dL_law_696 : decode cL_law 696 = .ok (.ireturn, 1) := by decide +kernel
theorem dL_law_697 : decode cL_law 697 = .ok (.goto 494, 3) := by decide +kernel
theorem dL_law_700 : decode cL_law 700 = .ok (.aload_n 1, 1) := by decide +kernel
theorem dL_law_701 : decode cL_law 701 = .ok (.aload_n 3, 1) := by decide +kernel
theorem dL_law_702 : decode cL_law 702 = .ok (.invokestatic 118, 3) := by decide +kernel
theorem dL_law_705 : decode cL_law 705 = .ok (.istore 5, 2) := by decide +kernel
theorem dL_law_707 : decode cL_law 707 = .ok (.aload_n 2, 1) := by decide +kernel
theorem dL_law_708 : decode cL_law 708 = .ok (.invokevirtual 120, 3) := by decide +kernel
theorem dL_law_711 : decode cL_law 711 = .ok (.istore 6, 2) := by decide +kernel
theorem dL_law_713 : decode cL_law 713 = .ok (.aload_n 2, 1) := by decide +kernel
theorem dL_law_714 : decode cL_law 714 = .ok (.invokevirtual 79, 3) := by decide +kernel
theorem dL_law_717 : decode cL_law 717 = .ok (.iload 5, 2) := by decide +kernel
theorem dL_law_719 : decode cL_law 719 = .ok (.if_icmp .eq 5, 3) := by decide +kernel
theorem dL_law_722 : decode cL_law 722 = .ok (.iconst 0, 1) := by decide +kernel
theorem dL_law_723 : decode cL_law 723 = .ok (.ireturn, 1) := by decide +kernel
theorem dL_law_724 : decode cL_law 724 = .ok (.iload 5, 2) := by decide +kernel
theorem dL_law_726 : decode cL_law 726 = .ok (.ifCond .ne 15, 3) := by decide +kernel
theorem dL_law_729 : decode cL_law 729 = .ok (.aload_n 3, 1) := by decide +kernel
theorem dL_law_730 : decode cL_law 730 = .ok (.iconst 0, 1) := by decide +kernel
theorem dL_law_731 : decode cL_law 731 = .ok (.laload, 1) := by decide +kernel
theorem dL_law_732 : decode cL_law 732 = .ok (.iload 6, 2) := by decide +kernel
theorem dL_law_734 : decode cL_law 734 = .ok (.i2l, 1) := by decide +kernel
theorem dL_law_735 : decode cL_law 735 = .ok (.lcmp, 1) := by decide +kernel
theorem dL_law_736 : decode cL_law 736 = .ok (.ifCond .eq 5, 3) := by decide +kernel
theorem dL_law_739 : decode cL_law 739 = .ok (.iconst 0, 1) := by decide +kernel
theorem dL_law_740 : decode cL_law 740 = .ok (.ireturn, 1) := by decide +kernel
theorem dL_law_741 : decode cL_law 741 = .ok (.goto 450, 3) := by decide +kernel
theorem dL_law_744 : decode cL_law 744 = .ok (.aload_n 1, 1) := by decide +kernel
theorem dL_law_745 : decode cL_law 745 = .ok (.aload_n 0, 1) := by decide +kernel
theorem dL_law_746 : decode cL_law 746 = .ok (.iload 4, 2) := by decide +kernel
theorem dL_law_748 : decode cL_law 748 = .ok (.iconst 1, 1) := by decide +kernel
theorem dL_law_749 : decode cL_law 749 = .ok (.iadd, 1) := by decide +kernel
theorem dL_law_750 : decode cL_law 750 = .ok (.iaload, 1) := by decide +kernel
theorem dL_law_751 : decode cL_law 751 = .ok (.aload_n 0, 1) := by decide +kernel
theorem dL_law_752 : decode cL_law 752 = .ok (.iload 4, 2) := by decide +kernel
theorem dL_law_754 : decode cL_law 754 = .ok (.iconst 2, 1) := by decide +kernel
theorem dL_law_755 : decode cL_law 755 = .ok (.iadd, 1) := by decide +kernel
theorem dL_law_756 : decode cL_law 756 = .ok (.iaload, 1) := by decide +kernel
theorem dL_law_757 : decode cL_law 757 = .ok (.aload_n 3, 1) := by decide +kernel
theorem dL_law_758 : decode cL_law 758 = .ok (.invokestatic 121, 3) := by decide +kernel
theorem dL_law_761 : decode cL_law 761 = .ok (.istore 5, 2) := by decide +kernel
theorem dL_law_763 : decode cL_law 763 = .ok (.aload_n 2, 1) := by decide +kernel
theorem dL_law_764 : decode cL_law 764 = .ok (.aload_n 0, 1) := by decide +kernel
theorem dL_law_765 : decode cL_law 765 = .ok (.iload 4, 2) := by decide +kernel
theorem dL_law_767 : decode cL_law 767 = .ok (.iconst 1, 1) := by decide +kernel
theorem dL_law_768 : decode cL_law 768 = .ok (.iadd, 1) := by decide +kernel
theorem dL_law_769 : decode cL_law 769 = .ok (.iaload, 1) := by decide +kernel
theorem dL_law_770 : decode cL_law 770 = .ok (.aload_n 0, 1) := by decide +kernel
theorem dL_law_771 : decode cL_law 771 = .ok (.iload 4, 2) := by decide +kernel
theorem dL_law_773 : decode cL_law 773 = .ok (.iconst 2, 1) := by decide +kernel
theorem dL_law_774 : decode cL_law 774 = .ok (.iadd, 1) := by decide +kernel
theorem dL_law_775 : decode cL_law 775 = .ok (.iaload, 1) := by decide +kernel
theorem dL_law_776 : decode cL_law 776 = .ok (.invokevirtual 123, 3) := by decide +kernel
theorem dL_law_779 : decode cL_law 779 = .ok (.istore 6, 2) := by decide +kernel
theorem dL_law_781 : decode cL_law 781 = .ok (.aload_n 2, 1) := by decide +kernel
theorem dL_law_782 : decode cL_law 782 = .ok (.invokevirtual 79, 3) := by decide +kernel
theorem dL_law_785 : decode cL_law 785 = .ok (.iload 5, 2) := by decide +kernel
theorem dL_law_787 : decode cL_law 787 = .ok (.if_icmp .eq 5, 3) := by decide +kernel
theorem dL_law_790 : decode cL_law 790 = .ok (.iconst 0, 1) := by decide +kernel
theorem dL_law_791 : decode cL_law 791 = .ok (.ireturn, 1) := by decide +kernel
theorem dL_law_792 : decode cL_law 792 = .ok (.iload 5, 2) := by decide +kernel
theorem dL_law_794 : decode cL_law 794 = .ok (.ifCond .ne 15, 3) := by decide +kernel
theorem dL_law_797 : decode cL_law 797 = .ok (.aload_n 3, 1) := by decide +kernel
theorem dL_law_798 : decode cL_law 798 = .ok (.iconst 0, 1) := by decide +kernel
theorem dL_law_799 : decode cL_law 799 = .ok (.laload, 1) := by decide +kernel
theorem dL_law_800 : decode cL_law 800 = .ok (.iload 6, 2) := by decide +kernel
theorem dL_law_802 : decode cL_law 802 = .ok (.i2l, 1) := by decide +kernel
theorem dL_law_803 : decode cL_law 803 = .ok (.lcmp, 1) := by decide +kernel
theorem dL_law_804 : decode cL_law 804 = .ok (.ifCond .eq 5, 3) := by decide +kernel
theorem dL_law_807 : decode cL_law 807 = .ok (.iconst 0, 1) := by decide +kernel
theorem dL_law_808 : decode cL_law 808 = .ok (.ireturn, 1) := by decide +kernel
theorem dL_law_809 : decode cL_law 809 = .ok (.goto 382, 3) := by decide +kernel
theorem dL_law_812 : decode cL_law 812 = .ok (.aload_n 1, 1) := by decide +kernel
theorem dL_law_813 : decode cL_law 813 = .ok (.aload_n 0, 1) := by decide +kernel
theorem dL_law_814 : decode cL_law 814 = .ok (.iload 4, 2) := by decide +kernel
theorem dL_law_816 : decode cL_law 816 = .ok (.iconst 1, 1) := by decide +kernel
theorem dL_law_817 : decode cL_law 817 = .ok (.iadd, 1) := by decide +kernel
theorem dL_law_818 : decode cL_law 818 = .ok (.iaload, 1) := by decide +kernel
theorem dL_law_819 : decode cL_law 819 = .ok (.aload_n 0, 1) := by decide +kernel
theorem dL_law_820 : decode cL_law 820 = .ok (.iload 4, 2) := by decide +kernel
theorem dL_law_822 : decode cL_law 822 = .ok (.iconst 2, 1) := by decide +kernel
theorem dL_law_823 : decode cL_law 823 = .ok (.iadd, 1) := by decide +kernel
theorem dL_law_824 : decode cL_law 824 = .ok (.iaload, 1) := by decide +kernel
theorem dL_law_825 : decode cL_law 825 = .ok (.aload_n 3, 1) := by decide +kernel
theorem dL_law_826 : decode cL_law 826 = .ok (.invokestatic 124, 3) := by decide +kernel
theorem dL_law_829 : decode cL_law 829 = .ok (.istore 5, 2) := by decide +kernel
theorem dL_law_831 : decode cL_law 831 = .ok (.aload_n 2, 1) := by decide +kernel
theorem dL_law_832 : decode cL_law 832 = .ok (.aload_n 0, 1) := by decide +kernel
theorem dL_law_833 : decode cL_law 833 = .ok (.iload 4, 2) := by decide +kernel
theorem dL_law_835 : decode cL_law 835 = .ok (.iconst 1, 1) := by decide +kernel
theorem dL_law_836 : decode cL_law 836 = .ok (.iadd, 1) := by decide +kernel
theorem dL_law_837 : decode cL_law 837 = .ok (.iaload, 1) := by decide +kernel
theorem dL_law_838 : decode cL_law 838 = .ok (.aload_n 0, 1) := by decide +kernel
theorem dL_law_839 : decode cL_law 839 = .ok (.iload 4, 2) := by decide +kernel
theorem dL_law_841 : decode cL_law 841 = .ok (.iconst 2, 1) := by decide +kernel
theorem dL_law_842 : decode cL_law 842 = .ok (.iadd, 1) := by decide +kernel
theorem dL_law_843 : decode cL_law 843 = .ok (.iaload, 1) := by decide +kernel
theorem dL_law_844 : decode cL_law 844 = .ok (.invokevirtual 126, 3) := by decide +kernel
theorem dL_law_847 : decode cL_law 847 = .ok (.istore 6, 2) := by decide +kernel
theorem dL_law_849 : decode cL_law 849 = .ok (.aload_n 2, 1) := by decide +kernel
theorem dL_law_850 : decode cL_law 850 = .ok (.invokevirtual 79, 3) := by decide +kernel
theorem dL_law_853 : decode cL_law 853 = .ok (.iload 5, 2) := by decide +kernel
theorem dL_law_855 : decode cL_law 855 = .ok (.if_icmp .eq 5, 3) := by decide +kernel
theorem dL_law_858 : decode cL_law 858 = .ok (.iconst 0, 1) := by decide +kernel
theorem dL_law_859 : decode cL_law 859 = .ok (.ireturn, 1) := by decide +kernel
theorem dL_law_860 : decode cL_law 860 = .ok (.iload 5, 2) := by decide +kernel
theorem dL_law_862 : decode cL_law 862 = .ok (.ifCond .ne 15, 3) := by decide +kernel
theorem dL_law_865 : decode cL_law 865 = .ok (.aload_n 3, 1) := by decide +kernel
theorem dL_law_866 : decode cL_law 866 = .ok (.iconst 0, 1) := by decide +kernel
theorem dL_law_867 : decode cL_law 867 = .ok (.laload, 1) := by decide +kernel
theorem dL_law_868 : decode cL_law 868 = .ok (.iload 6, 2) := by decide +kernel
theorem dL_law_870 : decode cL_law 870 = .ok (.i2l, 1) := by decide +kernel
theorem dL_law_871 : decode cL_law 871 = .ok (.lcmp, 1) := by decide +kernel
theorem dL_law_872 : decode cL_law 872 = .ok (.ifCond .eq 5, 3) := by decide +kernel
theorem dL_law_875 : decode cL_law 875 = .ok (.iconst 0, 1) := by decide +kernel
theorem dL_law_876 : decode cL_law 876 = .ok (.ireturn, 1) := by decide +kernel
theorem dL_law_877 : decode cL_law 877 = .ok (.goto 314, 3) := by decide +kernel
theorem dL_law_880 : decode cL_law 880 = .ok (.aload_n 1, 1) := by decide +kernel
theorem dL_law_881 : decode cL_law 881 = .ok (.aload_n 0, 1) := by decide +kernel
theorem dL_law_882 : decode cL_law 882 = .ok (.iload 4, 2) := by decide +kernel
theorem dL_law_884 : decode cL_law 884 = .ok (.iconst 1, 1) := by decide +kernel
theorem dL_law_885 : decode cL_law 885 = .ok (.iadd, 1) := by decide +kernel
theorem dL_law_886 : decode cL_law 886 = .ok (.iaload, 1) := by decide +kernel
theorem dL_law_887 : decode cL_law 887 = .ok (.aload_n 0, 1) := by decide +kernel
theorem dL_law_888 : decode cL_law 888 = .ok (.iload 4, 2) := by decide +kernel
theorem dL_law_890 : decode cL_law 890 = .ok (.iconst 2, 1) := by decide +kernel
theorem dL_law_891 : decode cL_law 891 = .ok (.iadd, 1) := by decide +kernel
theorem dL_law_892 : decode cL_law 892 = .ok (.iaload, 1) := by decide +kernel
theorem dL_law_893 : decode cL_law 893 = .ok (.aload_n 0, 1) := by decide +kernel
theorem dL_law_894 : decode cL_law 894 = .ok (.iload 4, 2) := by decide +kernel
theorem dL_law_896 : decode cL_law 896 = .ok (.iconst 3, 1) := by decide +kernel
theorem dL_law_897 : decode cL_law 897 = .ok (.iadd, 1) := by decide +kernel
theorem dL_law_898 : decode cL_law 898 = .ok (.iaload, 1) := by decide +kernel
theorem dL_law_899 : decode cL_law 899 = .ok (.aload_n 3, 1) := by decide +kernel
theorem dL_law_900 : decode cL_law 900 = .ok (.invokestatic 127, 3) := by decide +kernel
theorem dL_law_903 : decode cL_law 903 = .ok (.istore 5, 2) := by decide +kernel
theorem dL_law_905 : decode cL_law 905 = .ok (.aload_n 2, 1) := by decide +kernel
theorem dL_law_906 : decode cL_law 906 = .ok (.aload_n 0, 1) := by decide +kernel
theorem dL_law_907 : decode cL_law 907 = .ok (.iload 4, 2) := by decide +kernel
theorem dL_law_909 : decode cL_law 909 = .ok (.iconst 1, 1) := by decide +kernel
theorem dL_law_910 : decode cL_law 910 = .ok (.iadd, 1) := by decide +kernel
theorem dL_law_911 : decode cL_law 911 = .ok (.iaload, 1) := by decide +kernel
theorem dL_law_912 : decode cL_law 912 = .ok (.aload_n 0, 1) := by decide +kernel
theorem dL_law_913 : decode cL_law 913 = .ok (.iload 4, 2) := by decide +kernel
theorem dL_law_915 : decode cL_law 915 = .ok (.iconst 2, 1) := by decide +kernel
theorem dL_law_916 : decode cL_law 916 = .ok (.iadd, 1) := by decide +kernel
theorem dL_law_917 : decode cL_law 917 = .ok (.iaload, 1) := by decide +kernel
theorem dL_law_918 : decode cL_law 918 = .ok (.aload_n 0, 1) := by decide +kernel
theorem dL_law_919 : decode cL_law 919 = .ok (.iload 4, 2) := by decide +kernel
theorem dL_law_921 : decode cL_law 921 = .ok (.iconst 3, 1) := by decide +kernel
theorem dL_law_922 : decode cL_law 922 = .ok (.iadd, 1) := by decide +kernel
theorem dL_law_923 : decode cL_law 923 = .ok (.iaload, 1) := by decide +kernel
theorem dL_law_924 : decode cL_law 924 = .ok (.invokevirtual 130, 3) := by decide +kernel
theorem dL_law_927 : decode cL_law 927 = .ok (.istore 6, 2) := by decide +kernel
theorem dL_law_929 : decode cL_law 929 = .ok (.aload_n 2, 1) := by decide +kernel
theorem dL_law_930 : decode cL_law 930 = .ok (.invokevirtual 79, 3) := by decide +kernel
theorem dL_law_933 : decode cL_law 933 = .ok (.iload 5, 2) := by decide +kernel
theorem dL_law_935 : decode cL_law 935 = .ok (.if_icmp .eq 5, 3) := by decide +kernel
theorem dL_law_938 : decode cL_law 938 = .ok (.iconst 0, 1) := by decide +kernel
theorem dL_law_939 : decode cL_law 939 = .ok (.ireturn, 1) := by decide +kernel
theorem dL_law_940 : decode cL_law 940 = .ok (.iload 5, 2) := by decide +kernel
theorem dL_law_942 : decode cL_law 942 = .ok (.ifCond .ne 15, 3) := by decide +kernel
theorem dL_law_945 : decode cL_law 945 = .ok (.aload_n 3, 1) := by decide +kernel
theorem dL_law_946 : decode cL_law 946 = .ok (.iconst 0, 1) := by decide +kernel
theorem dL_law_947 : decode cL_law 947 = .ok (.laload, 1) := by decide +kernel
theorem dL_law_948 : decode cL_law 948 = .ok (.iload 6, 2) := by decide +kernel
theorem dL_law_950 : decode cL_law 950 = .ok (.i2l, 1) := by decide +kernel
theorem dL_law_951 : decode cL_law 951 = .ok (.lcmp, 1) := by decide +kernel
theorem dL_law_952 : decode cL_law 952 = .ok (.ifCond .eq 5, 3) := by decide +kernel
theorem dL_law_955 : decode cL_law 955 = .ok (.iconst 0, 1) := by decide +kernel
theorem dL_law_956 : decode cL_law 956 = .ok (.ireturn, 1) := by decide +kernel
theorem dL_law_957 : decode cL_law 957 = .ok (.goto 234, 3) := by decide +kernel
theorem dL_law_960 : decode cL_law 960 = .ok (.aload_n 1, 1) := by decide +kernel
theorem dL_law_961 : decode cL_law 961 = .ok (.invokevirtual 131, 3) := by decide +kernel
theorem dL_law_964 : decode cL_law 964 = .ok (.aload_n 2, 1) := by decide +kernel
theorem dL_law_965 : decode cL_law 965 = .ok (.invokevirtual 134, 3) := by decide +kernel
theorem dL_law_968 : decode cL_law 968 = .ok (.if_icmp .eq 223, 3) := by decide +kernel
theorem dL_law_971 : decode cL_law 971 = .ok (.iconst 0, 1) := by decide +kernel
theorem dL_law_972 : decode cL_law 972 = .ok (.ireturn, 1) := by decide +kernel
theorem dL_law_973 : decode cL_law 973 = .ok (.aload_n 1, 1) := by decide +kernel
theorem dL_law_974 : decode cL_law 974 = .ok (.aload_n 0, 1) := by decide +kernel
theorem dL_law_975 : decode cL_law 975 = .ok (.iload 4, 2) := by decide +kernel
theorem dL_law_977 : decode cL_law 977 = .ok (.iconst 1, 1) := by decide +kernel
theorem dL_law_978 : decode cL_law 978 = .ok (.iadd, 1) := by decide +kernel
theorem dL_law_979 : decode cL_law 979 = .ok (.iaload, 1) := by decide +kernel
theorem dL_law_980 : decode cL_law 980 = .ok (.aload_n 3, 1) := by decide +kernel
theorem dL_law_981 : decode cL_law 981 = .ok (.invokestatic 135, 3) := by decide +kernel
theorem dL_law_984 : decode cL_law 984 = .ok (.istore 5, 2) := by decide +kernel
theorem dL_law_986 : decode cL_law 986 = .ok (.aload_n 2, 1) := by decide +kernel
theorem dL_law_987 : decode cL_law 987 = .ok (.aload_n 0, 1) := by decide +kernel
theorem dL_law_988 : decode cL_law 988 = .ok (.iload 4, 2) := by decide +kernel
theorem dL_law_990 : decode cL_law 990 = .ok (.iconst 1, 1) := by decide +kernel
theorem dL_law_991 : decode cL_law 991 = .ok (.iadd, 1) := by decide +kernel
theorem dL_law_992 : decode cL_law 992 = .ok (.iaload, 1) := by decide +kernel
theorem dL_law_993 : decode cL_law 993 = .ok (.invokevirtual 137, 3) := by decide +kernel
theorem dL_law_996 : decode cL_law 996 = .ok (.istore 6, 2) := by decide +kernel
theorem dL_law_998 : decode cL_law 998 = .ok (.aload_n 2, 1) := by decide +kernel
theorem dL_law_999 : decode cL_law 999 = .ok (.invokevirtual 79, 3) := by decide +kernel
theorem dL_law_1002 : decode cL_law 1002 = .ok (.iload 5, 2) := by decide +kernel
theorem dL_law_1004 : decode cL_law 1004 = .ok (.if_icmp .eq 5, 3) := by decide +kernel
theorem dL_law_1007 : decode cL_law 1007 = .ok (.iconst 0, 1) := by decide +kernel
theorem dL_law_1008 : decode cL_law 1008 = .ok (.ireturn, 1) := by decide +kernel
theorem dL_law_1009 : decode cL_law 1009 = .ok (.iload 5, 2) := by decide +kernel
theorem dL_law_1011 : decode cL_law 1011 = .ok (.ifCond .ne 15, 3) := by decide +kernel
theorem dL_law_1014 : decode cL_law 1014 = .ok (.aload_n 3, 1) := by decide +kernel
theorem dL_law_1015 : decode cL_law 1015 = .ok (.iconst 0, 1) := by decide +kernel
theorem dL_law_1016 : decode cL_law 1016 = .ok (.laload, 1) := by decide +kernel
theorem dL_law_1017 : decode cL_law 1017 = .ok (.iload 6, 2) := by decide +kernel
theorem dL_law_1019 : decode cL_law 1019 = .ok (.i2l, 1) := by decide +kernel
theorem dL_law_1020 : decode cL_law 1020 = .ok (.lcmp, 1) := by decide +kernel
theorem dL_law_1021 : decode cL_law 1021 = .ok (.ifCond .eq 5, 3) := by decide +kernel
theorem dL_law_1024 : decode cL_law 1024 = .ok (.iconst 0, 1) := by decide +kernel
theorem dL_law_1025 : decode cL_law 1025 = .ok (.ireturn, 1) := by decide +kernel
theorem dL_law_1026 : decode cL_law 1026 = .ok (.goto 165, 3) := by decide +kernel
theorem dL_law_1029 : decode cL_law 1029 = .ok (.aload_n 1, 1) := by decide +kernel
theorem dL_law_1030 : decode cL_law 1030 = .ok (.invokevirtual 138, 3) := by decide +kernel
theorem dL_law_1033 : decode cL_law 1033 = .ok (.aload_n 2, 1) := by decide +kernel
theorem dL_law_1034 : decode cL_law 1034 = .ok (.invokevirtual 141, 3) := by decide +kernel
theorem dL_law_1037 : decode cL_law 1037 = .ok (.if_icmp .eq 154, 3) := by decide +kernel
theorem dL_law_1040 : decode cL_law 1040 = .ok (.iconst 0, 1) := by decide +kernel
theorem dL_law_1041 : decode cL_law 1041 = .ok (.ireturn, 1) := by decide +kernel
theorem dL_law_1042 : decode cL_law 1042 = .ok (.aload_n 1, 1) := by decide +kernel
theorem dL_law_1043 : decode cL_law 1043 = .ok (.aload_n 0, 1) := by decide +kernel
theorem dL_law_1044 : decode cL_law 1044 = .ok (.iload 4, 2) := by decide +kernel
theorem dL_law_1046 : decode cL_law 1046 = .ok (.iconst 1, 1) := by decide +kernel
theorem dL_law_1047 : decode cL_law 1047 = .ok (.iadd, 1) := by decide +kernel
theorem dL_law_1048 : decode cL_law 1048 = .ok (.iaload, 1) := by decide +kernel
theorem dL_law_1049 : decode cL_law 1049 = .ok (.aload_n 0, 1) := by decide +kernel
theorem dL_law_1050 : decode cL_law 1050 = .ok (.iload 4, 2) := by decide +kernel
theorem dL_law_1052 : decode cL_law 1052 = .ok (.iconst 2, 1) := by decide +kernel
theorem dL_law_1053 : decode cL_law 1053 = .ok (.iadd, 1) := by decide +kernel
theorem dL_law_1054 : decode cL_law 1054 = .ok (.iaload, 1) := by decide +kernel
theorem dL_law_1055 : decode cL_law 1055 = .ok (.aload_n 3, 1) := by decide +kernel
theorem dL_law_1056 : decode cL_law 1056 = .ok (.invokestatic 142, 3) := by decide +kernel
theorem dL_law_1059 : decode cL_law 1059 = .ok (.istore 5, 2) := by decide +kernel
theorem dL_law_1061 : decode cL_law 1061 = .ok (.aload_n 2, 1) := by decide +kernel
theorem dL_law_1062 : decode cL_law 1062 = .ok (.aload_n 0, 1) := by decide +kernel
theorem dL_law_1063 : decode cL_law 1063 = .ok (.iload 4, 2) := by decide +kernel
theorem dL_law_1065 : decode cL_law 1065 = .ok (.iconst 1, 1) := by decide +kernel
theorem dL_law_1066 : decode cL_law 1066 = .ok (.iadd, 1) := by decide +kernel
theorem dL_law_1067 : decode cL_law 1067 = .ok (.iaload, 1) := by decide +kernel
theorem dL_law_1068 : decode cL_law 1068 = .ok (.aload_n 0, 1) := by decide +kernel
theorem dL_law_1069 : decode cL_law 1069 = .ok (.iload 4, 2) := by decide +kernel
theorem dL_law_1071 : decode cL_law 1071 = .ok (.iconst 2, 1) := by decide +kernel
theorem dL_law_1072 : decode cL_law 1072 = .ok (.iadd, 1) := by decide +kernel
theorem dL_law_1073 : decode cL_law 1073 = .ok (.iaload, 1) := by decide +kernel
theorem dL_law_1074 : decode cL_law 1074 = .ok (.invokevirtual 144, 3) := by decide +kernel
theorem dL_law_1077 : decode cL_law 1077 = .ok (.istore 6, 2) := by decide +kernel
theorem dL_law_1079 : decode cL_law 1079 = .ok (.aload_n 2, 1) := by decide +kernel
theorem dL_law_1080 : decode cL_law 1080 = .ok (.invokevirtual 79, 3) := by decide +kernel
theorem dL_law_1083 : decode cL_law 1083 = .ok (.iload 5, 2) := by decide +kernel
theorem dL_law_1085 : decode cL_law 1085 = .ok (.if_icmp .eq 5, 3) := by decide +kernel
theorem dL_law_1088 : decode cL_law 1088 = .ok (.iconst 0, 1) := by decide +kernel
theorem dL_law_1089 : decode cL_law 1089 = .ok (.ireturn, 1) := by decide +kernel
theorem dL_law_1090 : decode cL_law 1090 = .ok (.iload 5, 2) := by decide +kernel
theorem dL_law_1092 : decode cL_law 1092 = .ok (.ifCond .ne 15, 3) := by decide +kernel
theorem dL_law_1095 : decode cL_law 1095 = .ok (.aload_n 3, 1) := by decide +kernel
theorem dL_law_1096 : decode cL_law 1096 = .ok (.iconst 0, 1) := by decide +kernel
theorem dL_law_1097 : decode cL_law 1097 = .ok (.laload, 1) := by decide +kernel
theorem dL_law_1098 : decode cL_law 1098 = .ok (.iload 6, 2) := by decide +kernel
theorem dL_law_1100 : decode cL_law 1100 = .ok (.i2l, 1) := by decide +kernel
theorem dL_law_1101 : decode cL_law 1101 = .ok (.lcmp, 1) := by decide +kernel
theorem dL_law_1102 : decode cL_law 1102 = .ok (.ifCond .eq 5, 3) := by decide +kernel
theorem dL_law_1105 : decode cL_law 1105 = .ok (.iconst 0, 1) := by decide +kernel
theorem dL_law_1106 : decode cL_law 1106 = .ok (.ireturn, 1) := by decide +kernel
theorem dL_law_1107 : decode cL_law 1107 = .ok (.goto 84, 3) := by decide +kernel
theorem dL_law_1110 : decode cL_law 1110 = .ok (.aload_n 1, 1) := by decide +kernel
theorem dL_law_1111 : decode cL_law 1111 = .ok (.invokevirtual 145, 3) := by decide +kernel
theorem dL_law_1114 : decode cL_law 1114 = .ok (.aload_n 2, 1) := by decide +kernel
theorem dL_law_1115 : decode cL_law 1115 = .ok (.invokevirtual 148, 3) := by decide +kernel
theorem dL_law_1118 : decode cL_law 1118 = .ok (.if_icmp .eq 73, 3) := by decide +kernel
theorem dL_law_1121 : decode cL_law 1121 = .ok (.iconst 0, 1) := by decide +kernel
theorem dL_law_1122 : decode cL_law 1122 = .ok (.ireturn, 1) := by decide +kernel
theorem dL_law_1123 : decode cL_law 1123 = .ok (.aload_n 1, 1) := by decide +kernel
theorem dL_law_1124 : decode cL_law 1124 = .ok (.invokevirtual 149, 3) := by decide +kernel
theorem dL_law_1127 : decode cL_law 1127 = .ok (.aload_n 2, 1) := by decide +kernel
theorem dL_law_1128 : decode cL_law 1128 = .ok (.invokevirtual 152, 3) := by decide +kernel
theorem dL_law_1131 : decode cL_law 1131 = .ok (.if_icmp .eq 60, 3) := by decide +kernel
theorem dL_law_1134 : decode cL_law 1134 = .ok (.iconst 0, 1) := by decide +kernel
theorem dL_law_1135 : decode cL_law 1135 = .ok (.ireturn, 1) := by decide +kernel
theorem dL_law_1136 : decode cL_law 1136 = .ok (.aload_n 1, 1) := by decide +kernel
theorem dL_law_1137 : decode cL_law 1137 = .ok (.invokevirtual 153, 3) := by decide +kernel
theorem dL_law_1140 : decode cL_law 1140 = .ok (.dstore 5, 2) := by decide +kernel
theorem dL_law_1142 : decode cL_law 1142 = .ok (.aload_n 2, 1) := by decide +kernel
theorem dL_law_1143 : decode cL_law 1143 = .ok (.invokevirtual 157, 3) := by decide +kernel
theorem dL_law_1146 : decode cL_law 1146 = .ok (.dstore 7, 2) := by decide +kernel
theorem dL_law_1148 : decode cL_law 1148 = .ok (.dload 5, 2) := by decide +kernel
theorem dL_law_1150 : decode cL_law 1150 = .ok (.dload 7, 2) := by decide +kernel
theorem dL_law_1152 : decode cL_law 1152 = .ok (.dcmp .l, 1) := by decide +kernel
theorem dL_law_1153 : decode cL_law 1153 = .ok (.ifCond .eq 21, 3) := by decide +kernel
theorem dL_law_1156 : decode cL_law 1156 = .ok (.dload 5, 2) := by decide +kernel
theorem dL_law_1158 : decode cL_law 1158 = .ok (.dload 5, 2) := by decide +kernel
theorem dL_law_1160 : decode cL_law 1160 = .ok (.dcmp .l, 1) := by decide +kernel
theorem dL_law_1161 : decode cL_law 1161 = .ok (.ifCond .eq 11, 3) := by decide +kernel
theorem dL_law_1164 : decode cL_law 1164 = .ok (.dload 7, 2) := by decide +kernel
theorem dL_law_1166 : decode cL_law 1166 = .ok (.dload 7, 2) := by decide +kernel
theorem dL_law_1168 : decode cL_law 1168 = .ok (.dcmp .l, 1) := by decide +kernel
theorem dL_law_1169 : decode cL_law 1169 = .ok (.ifCond .ne 5, 3) := by decide +kernel
theorem dL_law_1172 : decode cL_law 1172 = .ok (.iconst 0, 1) := by decide +kernel
theorem dL_law_1173 : decode cL_law 1173 = .ok (.ireturn, 1) := by decide +kernel
theorem dL_law_1174 : decode cL_law 1174 = .ok (.goto 17, 3) := by decide +kernel
theorem dL_law_1177 : decode cL_law 1177 = .ok (.aload_n 1, 1) := by decide +kernel
theorem dL_law_1178 : decode cL_law 1178 = .ok (.invokevirtual 158, 3) := by decide +kernel
theorem dL_law_1181 : decode cL_law 1181 = .ok (.aload_n 2, 1) := by decide +kernel
theorem dL_law_1182 : decode cL_law 1182 = .ok (.invokevirtual 162, 3) := by decide +kernel
theorem dL_law_1185 : decode cL_law 1185 = .ok (.lcmp, 1) := by decide +kernel
theorem dL_law_1186 : decode cL_law 1186 = .ok (.ifCond .eq 5, 3) := by decide +kernel
theorem dL_law_1189 : decode cL_law 1189 = .ok (.iconst 0, 1) := by decide +kernel
theorem dL_law_1190 : decode cL_law 1190 = .ok (.ireturn, 1) := by decide +kernel
theorem dL_law_1191 : decode cL_law 1191 = .ok (.iinc 4 4, 3) := by decide +kernel
theorem dL_law_1194 : decode cL_law 1194 = .ok (.goto (-1171), 3) := by decide +kernel
theorem dL_law_1197 : decode cL_law 1197 = .ok (.iconst 1, 1) := by decide +kernel
theorem dL_law_1198 : decode cL_law 1198 = .ok (.ireturn, 1) := by decide +kernel
abbrev vwCl : List vw_C := [(RX0, TX0, 7), (RX1, TX1, 3), (RX2, TX2, 11), (RX3, TX3, 2), (RX4, TX4, 6), (RX5, TX5, 20)]
