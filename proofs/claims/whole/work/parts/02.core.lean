/-! the core: what stays for the whole run, how a contract speaks, how a call goes on -/
abbrev zAb (B : Nat) : Nat → Prop := fun q => B ≤ q
def zNest : List Cond := [.methodLinkNest RX4 11 yX3_init RX4, .methodLinkNest RX4 30 yX2_init RX4, .methodLinkNest RX4 37 yX0_init RX4, .methodLinkNest RX0 34 yX4_read RX4, .methodLinkNest RX0 49 yX4_write RX4, .methodLinkNest RX1 33 yX4_read RX4, .methodLinkNest RX1 37 yX4_write RX4, .methodLinkNest RX2 47 yX4_read RX4, .methodLinkNest RX2 61 yX4_lengthOf RX4, .methodLinkNest RX2 65 yX4_letterOf RX4, .methodLinkNest RX2 69 yX4_write RX4]
def zNc : List (String × String) := [("java/lang/IllegalArgumentException", "java/lang/IllegalStateException"), ("java/lang/IllegalArgumentException", "java/lang/IndexOutOfBoundsException"), ("java/lang/IllegalStateException", "java/lang/IllegalArgumentException"), ("java/lang/IllegalStateException", "java/lang/IndexOutOfBoundsException"), ("java/lang/IndexOutOfBoundsException", "java/lang/IllegalArgumentException"), ("java/lang/IndexOutOfBoundsException", "java/lang/IllegalStateException")]
def zDec : List MethodName := [Bundle.initS "java/lang/RuntimeException", Bundle.initS "java/lang/Exception", Bundle.initS Bundle.tN]
def zCast : List String := ["java/lang/IllegalArgumentException", "java/lang/IllegalStateException", "java/lang/IndexOutOfBoundsException"]
def zKR : Nat → Int32 := fun k => ([1, 2, 2, 1, 0, 1, 1, 1, 0, 1, 1, 1, 2, 2, 0, 0, 0, 0, 1, 0, 0, 2, 0, 2, 0, 2] : List Int32).getD k 0
def zKP : Nat → Int32 := fun k => ([0, 4, 2, 2, 2, 3, 4, 5, 7, 6, 7, 8, 6, 5, 8, 9, 0, 3, 1, 4, 6, 3, 1, 1, 5, 0] : List Int32).getD k 0
def zStr : List (Nat × String) := [(52, "this number tells no word"), (66, "the list is full, or has this word"), (83, "no such word"), (96, "no such key"), (102, "a lesson has 1 to 6 words"), (107, "a lesson is open, or there are no words"), (121, "a lesson is open"), (126, "no lesson is open"), (134, "no such word of the lesson"), (143, "a time is 1 to 5000"), (166, "no such key, or nothing such is known"), (172, "no such pair, or nothing such is known"), (183, "no such kind of mistakes"), (186, "no such lesson, or nothing such is kept")]
def zBy : List Int32 := [113, 119, 101, 114, 116, 121, 117, 105, 111, 112, 32, 97, 115, 100, 102, 103, 104, 106, 107, 108, 32, 32, 122, 120, 99, 118, 98, 110, 109]
/-- the reference's rows of the keyboard, a String constant -/
def zRw (B : Nat) (U : State) (H : Heap) : Prop := ∃ aK aV : Nat → Nat, vk_R RX5 84 "qwertyuiop asdfghjkl  zxcvbnm" (aK 0) U ∧ vk_S 1 [29] [zBy] aK aV (zAb B) U H ∧ va_Z "java/lang/String" "COMPACT_STRINGS" "Z" (.int 1) (zAb B) U H
/-- what stays: links between nest mates, the two tables of the keyboard, what a throw asks -/
def zE (B kr kp : Nat) (U : State) (H : Heap) : Prop :=
  (∀ w ∈ zNest, va_Nw w U) ∧ ((∀ X ∈ zCast, va_Nw (.castable X X) U) ∧ (∀ X ∈ zDec, va_Nw (.declares X) U) ∧ ∀ q ∈ zNc, va_Nc q.1 q.2 U) ∧
  (va_Z RX4 "KEY_ROW" "[I" (.ref kr) (zAb B) U H ∧ va_Z RX4 "KEY_PLACE" "[I" (.ref kp) (zAb B) U H) ∧
  ((kr < B ∧ va_T .int kr 26 (fun k => .int (zKR k)) (zAb B) U H) ∧ (kp < B ∧ va_T .int kp 26 (fun k => .int (zKP k)) (zAb B) U H)) ∧
  (vx_Zq Bundle.tN "UNASSIGNED_STACK" Bundle.steD (zAb B) U H ∧ vx_Zq Bundle.tN "SUPPRESSED_SENTINEL" Bundle.listD (zAb B) U H) ∧
  (∀ q ∈ zStr, ∃ a : Nat, vk_R RX4 q.1 q.2 a U) ∧ zRw B U H
theorem zNest_warm {s U : State} (hW : s.WarmedH U.vm) (h : ∀ w ∈ zNest, va_Nw w s) : ∀ w ∈ zNest, va_Nw w U := by
  simp only [zNest, List.forall_mem_cons, List.not_mem_nil, false_implies, implies_true, and_true] at h ⊢
  obtain ⟨h0, h1, h2, h3, h4, h5, h6, h7, h8, h9, h10⟩ := h
  exact ⟨h0.warmM hW, h1.warmM hW, h2.warmM hW, h3.warmM hW, h4.warmM hW, h5.warmM hW, h6.warmM hW, h7.warmM hW, h8.warmM hW, h9.warmM hW, h10.warmM hW⟩
theorem zE.warm {B kr kp : Nat} {s U : State} {H : Heap} (h : zE B kr kp s s.heap) (hB : B ≤ s.heap.size) (hW : s.WarmedH U.vm) (hk : ∀ q : Nat, q < s.heap.size → ¬ zAb B q → H[q]? = s.heap[q]?) : zE B kr kp U H := by
  obtain ⟨h1, h2, ⟨h3, h4⟩, ⟨⟨h5, h6⟩, ⟨h7, h8⟩⟩, ⟨h9, h10⟩, h11, ⟨aK, aV, h12, h13, h14⟩⟩ := h
  refine ⟨zNest_warm hW h1, ⟨fun X hX => (h2.1 X hX).warmC hW, fun X hX => (h2.2.1 X hX).warmD hW, fun q hq => (h2.2.2 q hq).moved hW.alike⟩, ⟨(h3.moved hW.alike).kept hk, (h4.moved hW.alike).kept hk⟩, ⟨⟨h5, (h6.moved hW.alike).kept hk⟩, ⟨h7, (h8.moved hW.alike).kept hk⟩⟩, ⟨(h9.moved hW.alike).kept hk, (h10.moved hW.alike).kept hk⟩, fun q hq => ?_, aK, aV, h12.warm hW, (h13.moved hW.alike).kept hk, (h14.moved hW.alike).kept hk⟩
  obtain ⟨a, ha⟩ := h11 q hq
  exact ⟨a, ha.warm hW⟩
/-- a contract's start: the arguments, the world, what stays -/
abbrev zI (B kr kp : Nat) (D : va_G) (tys : List (ClassId × FieldType)) (W : va_W) (U : State) : Prop := va_P D vwCl W U.heap ∧ va_D (zAb B) W ∧ va_K D vwCl tys U ∧ zE B kr kp U U.heap ∧ B ≤ U.heap.size
abbrev zPc (B kr kp : Nat) (D : va_G) (tys : List (ClassId × FieldType)) (W : va_W) (av : List Value) : Array Value → State → Prop := va_Pc av (zI B kr kp D tys W)
abbrev zBk (B : Nat) (D : va_G) (W : va_W) : Unit → State → Prop := fun _ t => va_P D vwCl W t.heap ∧ va_D (zAb B) W
abbrev zQi (B : Nat) (D : va_G) (W : va_W) (v : Int32) := va_Qi (fun (r : Int32) (_ : Unit) => r = v) (zBk B D W) (zAb B)
abbrev zQl (B : Nat) (D : va_G) (W : va_W) (v : Int64) := va_Ql (fun (r : Int64) (_ : Unit) => r = v) (zBk B D W) (zAb B)
abbrev zQd (B : Nat) (D : va_G) (W : va_W) (v : UInt64) := va_Qd (fun (r : UInt64) (_ : Unit) => r = v) (zBk B D W) (zAb B)
abbrev zQv (B : Nat) (D : va_G) (W : va_W) := va_Qv (fun (_ : Unit) => True) (zBk B D W) (zAb B)
theorem zI.blind {B kr kp : Nat} {D : va_G} {tys : List (ClassId × FieldType)} {W : va_W} {av : List Value} : FrameBlind (zPc B kr kp D tys W av) := by
  intro a U g mk q
  obtain ⟨q0, qP, qD, qK, qE, qB⟩ := q
  exact ⟨q0, qP, qD, va_K.moved (u := U) (U := U.calling g mk a) (Vm.Alike.refl U.vm) qK, qE.warm qB (State.WarmedH.refl U) (fun _ _ _ => rfl), qB⟩
section ZC
variable {p : Program} {l : Launch} {e : Env} {R : Room} {s : State} {m : MethodId} {args : Array Value} {below : List Frame} {meth : Method} {c : Code} {H H0 : Heap} {locs : List Loc} {cells slots mc ms : Nat} {Q : State → Prop}
variable {pc : Nat} {ls : Array Slot} {rest st0 : List Value} {B kr kp : Nat} {D : va_G} {tys : List (ClassId × FieldType)} {W1 W' : va_W} {a : Array Value}
theorem zS {As : List Value} (hP : va_P D vwCl W1 H) (hD : va_D (zAb B) W1) (hK : va_K D vwCl tys s) (hE : zE B kr kp s s.heap) (hB : B ≤ s.heap.size) (hS : va_S (zAb B) s.heap H locs) : PreS s H (zPc B kr kp D tys W1 As) As :=
  ⟨zI.blind, fun U hU hW => ⟨rfl, by rw [hU]; exact hP, hD, va_K.moved hW.alike hK, by rw [hU]; exact hE.warm hB hW hS.2.1, by rw [hU]; exact Nat.le_trans hB hS.1⟩⟩
theorem zV {As : List Value} {C : String} {b ci : Nat} {T : u_T} {N : Nat} {fs : List Value} (q0 : Nat) (hP : va_P D vwCl W1 H) (hD : va_D (zAb B) W1) (hK : va_K D vwCl tys s) (hE : zE B kr kp s s.heap) (hB : B ≤ s.heap.size) (hS : va_S (zAb B) s.heap H locs) (he : W1[q0]? = some (b, .inr (ci, fs))) (hc : vwCl[ci]? = some (C, T, N)) : PreV s H C b (zPc B kr kp D tys W1 (.ref b :: As)) As :=
  ⟨zI.blind, va_recv hK hP hc he, (zS (As := .ref b :: As) hP hD hK hE hB hS).2⟩
theorem zci {v : Int32} (hr : va_Run p l e R s m args below meth c H locs cells slots mc ms (F0 m pc ls st0) rest (zQi B D W' v a) (zAb B)) (hS : va_S (zAb B) H0 H locs)
    (kk : ∀ (H1 : Heap) (locs1 : List Loc), va_P D vwCl W' H1 → va_D (zAb B) W' → va_S (zAb B) H0 H1 locs1 → W p l e R s m args below meth c H1 locs1 (cells + mc) (slots + ms) Q (F0 m (pc + 3) ls (.int v :: rest))) : W p l e R s m args below meth c H locs cells slots Q (F0 m pc ls st0) :=
  va_calli hr hS (fun _ _ h => h) (fun _ h => h) (fun r u t H1 locs1 ht hvm hw hB hz hk hS1 => by
    have hw : r = v := hw
    subst hw; subst ht; exact kk _ _ hB.1 hB.2 hS1)
theorem zcl {v : Int64} (hr : va_Run p l e R s m args below meth c H locs cells slots mc ms (F0 m pc ls st0) rest (zQl B D W' v a) (zAb B)) (hS : va_S (zAb B) H0 H locs)
    (kk : ∀ (H1 : Heap) (locs1 : List Loc), va_P D vwCl W' H1 → va_D (zAb B) W' → va_S (zAb B) H0 H1 locs1 → W p l e R s m args below meth c H1 locs1 (cells + mc) (slots + ms) Q (F0 m (pc + 3) ls (.long v :: rest))) : W p l e R s m args below meth c H locs cells slots Q (F0 m pc ls st0) :=
  va_calll hr hS (fun _ _ h => h) (fun _ h => h) (fun r u t H1 locs1 ht hvm hw hB hz hk hS1 => by
    have hw : r = v := hw
    subst hw; subst ht; exact kk _ _ hB.1 hB.2 hS1)
theorem zcv (hr : va_Run p l e R s m args below meth c H locs cells slots mc ms (F0 m pc ls st0) rest (zQv B D W' a) (zAb B)) (hS : va_S (zAb B) H0 H locs)
    (kk : ∀ (H1 : Heap) (locs1 : List Loc), va_P D vwCl W' H1 → va_D (zAb B) W' → va_S (zAb B) H0 H1 locs1 → W p l e R s m args below meth c H1 locs1 (cells + mc) (slots + ms) Q (F0 m (pc + 3) ls rest)) : W p l e R s m args below meth c H locs cells slots Q (F0 m pc ls st0) :=
  va_callv hr hS (fun _ _ h => h) (fun _ h => h) (fun u t H1 locs1 ht hvm hw hB hz hk hS1 => by
    subst ht; exact kk _ _ hB.1 hB.2 hS1)
end ZC
/-! values -/
def zb : Bool → Int32 | true => 1 | false => 0
theorem zb_vn {b : Bool} : vp_nar .boolean (zb b) = zb b := by cases b <;> decide
theorem zb_0 {b : Bool} (h : zb b = 0) : b = false := by cases b; rfl; exact absurd h (by decide)
theorem zb_n {b : Bool} (h : ¬ zb b = 0) : b = true := by cases b; exact absurd rfl h; rfl
theorem zb_t {b : Bool} (h : b = true) : (1 : Int32) = zb b := by rw [h]; rfl
theorem zb_f {b : Bool} (h : b = false) : (0 : Int32) = zb b := by rw [h]; rfl
def zq (c : Prop) [Decidable c] : Int32 := if c then 1 else 0
theorem zq_t {c : Prop} [Decidable c] (h : c) : zq c = 1 := if_pos h
theorem zq_f {c : Prop} [Decidable c] (h : ¬ c) : zq c = 0 := if_neg h
theorem zq_0 {c : Prop} [Decidable c] (h : zq c = 0) : ¬ c := fun hc => absurd ((zq_t hc).symm.trans h) (by decide)
theorem zq_n {c : Prop} [Decidable c] (h : ¬ zq c = 0) : c := Decidable.byContradiction fun hc => h (zq_f hc)
theorem zq_nar {c : Prop} [Decidable c] : narrow .boolean (.int (zq c)) = .int (zq c) := by unfold zq; split <;> rfl
theorem zb_nar {b : Bool} : narrow .boolean (.int (zb b)) = .int (zb b) := by cases b <;> rfl
theorem zb_fit {b : Bool} : fits .boolean (.int (zb b)) = true := by cases b <;> rfl
/-- a read that looks at its index, a write that does -/
def zrd (n : Nat) (f : Nat → Int32) (i : Int32) : Int32 := if 0 ≤ i ∧ i < nI n then f i.toNatClampNeg else 0
def zwr (n : Nat) (f : Nat → Int32) (i v : Int32) : Nat → Int32 := if 0 ≤ i ∧ i < nI n then upd f i.toNatClampNeg v else f
theorem zrd_in {n k : Nat} {f : Nat → Int32} (h : k < n) (hn : n < 2 ^ 31) : zrd n f (nI k) = f k := by
  unfold zrd
  rw [if_pos ⟨nI_pos' (by omega), nI_lt h hn⟩, nI_clamp (by omega)]
theorem zwr_in {n k : Nat} {f : Nat → Int32} {v : Int32} (h : k < n) (hn : n < 2 ^ 31) : zwr n f (nI k) v = upd f k v := by
  unfold zwr
  rw [if_pos ⟨nI_pos' (by omega), nI_lt h hn⟩, nI_clamp (by omega)]
section ZR
variable {p : Program} {l : Launch} {e : Env} {R : Room} {s : State} {m : MethodId} {args : Array Value} {below : List Frame} {meth : Method} {c : Code} {H : Heap} {locs : List Loc} {cells slots : Nat} {Q : State → Prop}
variable {y : MethodName} {bytes cc : ByteArray} {maxL nL mc ms n index : Nat} {ret : Option FieldType} {ws : List Cond} {rm : Room} {Pc : Array Value → State → Prop} {Qc : Array Value → State → Outcome → State → Prop} {free : Addr → Prop} {Ts : List Cond} {own C host : String} {b : Addr} {As rest : List Value} {g : JFrame}
theorem zrV (S : CallFix p m c cc nL s args Ts own) (hp : PreV s H C b Pc As) (hM : Met l y ws rm Pc Qc mc ms free) (cw : CallW R s args own C index y bytes maxL ret ws rm mc ms n)
    (hg : g.method = m) (hn : As.length = n) (hsize : g.locals.size = nL) (hstack : g.stack = As.reverse ++ .ref b :: rest) (hW : 2 * g.monitorRoom + (rest.map fun v => v.category).sum ≤ 8) (hdg : decode cc g.pc = .ok (.invokevirtual index, 3)) (hf : cells + mc ≤ R.cells ∧ slots + ms ≤ R.slots) :
    va_Run p l e R s m args below meth c H locs cells slots mc ms g rest (Qc (Value.ref b :: As).toArray) free := va_runV S hM cw hp hg hn hsize hstack hW hdg hf
theorem zrS (S : CallFix p m c cc nL s args Ts own) (hp : PreS s H Pc As) (hM : Met l y ws rm Pc Qc mc ms free) (cw : CallB R s args own index y bytes maxL ret ws rm mc ms n ∧ (Cond.static y).before args s = true)
    (hg : g.method = m) (hn : As.length = n) (hsize : g.locals.size = nL) (hstack : g.stack = As.reverse ++ rest) (hW : 2 * g.monitorRoom + (rest.map fun v => v.category).sum ≤ 8) (hdg : decode cc g.pc = .ok (.invokestatic index, 3)) (hf : cells + mc ≤ R.cells ∧ slots + ms ≤ R.slots) :
    va_Run p l e R s m args below meth c H locs cells slots mc ms g rest (Qc As.toArray) free := va_runS S hM cw hp hg hn hsize hstack hW hdg hf
theorem zrSN (S : CallFix p m c cc nL s args Ts own) (hp : PreS s H Pc As) (hM : Met l y ws rm Pc Qc mc ms free) (cw : va_CN R s args own index y host bytes maxL ret ws rm mc ms n ∧ (Cond.static y).before args s = true ∧ True)
    (hg : g.method = m) (hn : As.length = n) (hsize : g.locals.size = nL) (hstack : g.stack = As.reverse ++ rest) (hW : 2 * g.monitorRoom + (rest.map fun v => v.category).sum ≤ 8) (hdg : decode cc g.pc = .ok (.invokestatic index, 3)) (hf : cells + mc ≤ R.cells ∧ slots + ms ≤ R.slots) :
    va_Run p l e R s m args below meth c H locs cells slots mc ms g rest (Qc As.toArray) free := va_runSN S hM cw hp hg hn hsize hstack hW hdg hf
/-- a loop: from its head, with the measure falling -/
theorem zloop {B nL pc : Nat} {D : va_G} {H0 : Heap} {σ : Type} (Wl : σ → va_W) (lv : σ → List (Nat × Value)) (st : σ → List Value) (I : σ → Prop) (μ : σ → Nat)
    (body : ∀ x : σ, I x → (∀ y : σ, I y → μ y < μ x → ∀ (H : Heap) (locs : List Loc) (ls : Array Slot), va_P D vwCl (Wl y) H → va_D (zAb B) (Wl y) → va_S (zAb B) H0 H locs → lv_has ls nL (lv y) → W p l e R s m args below meth c H locs cells slots Q (F0 m pc ls (st y))) →
      ∀ (H : Heap) (locs : List Loc) (ls : Array Slot), va_P D vwCl (Wl x) H → va_D (zAb B) (Wl x) → va_S (zAb B) H0 H locs → lv_has ls nL (lv x) → W p l e R s m args below meth c H locs cells slots Q (F0 m pc ls (st x))) :
    ∀ x : σ, I x → ∀ (H : Heap) (locs : List Loc) (ls : Array Slot), va_P D vwCl (Wl x) H → va_D (zAb B) (Wl x) → va_S (zAb B) H0 H locs → lv_has ls nL (lv x) → W p l e R s m args below meth c H locs cells slots Q (F0 m pc ls (st x)) := by
  have key : ∀ (k : Nat) (x : σ), μ x < k → I x → ∀ (H : Heap) (locs : List Loc) (ls : Array Slot), va_P D vwCl (Wl x) H → va_D (zAb B) (Wl x) → va_S (zAb B) H0 H locs → lv_has ls nL (lv x) → W p l e R s m args below meth c H locs cells slots Q (F0 m pc ls (st x)) := by
    intro k
    induction k with
    | zero => intro x h; exact absurd h (Nat.not_lt_zero _)
    | succ k ih =>
      intro x h hI
      exact body x hI (fun y hy hm => ih y (Nat.lt_of_lt_of_le hm (Nat.le_of_lt_succ h)) hy)
  intro x hI
  exact key (μ x + 1) x (Nat.lt_succ_self _) hI
end ZR

/-! throws: what a method that throws leaves, and the throwing itself -/
def zUp : List String := ["java/lang/RuntimeException", "java/lang/Exception"]
abbrev zXC (cls : String) (B : Nat) (D : va_G) (W : va_W) : String → State → State → Prop := vx_X (fun _ : Unit => True) (fun E _ t => E = cls ∧ va_P D vwCl W t.heap ∧ va_D (zAb B) W) (zAb B)
abbrev zQxi (B : Nat) (D : va_G) (W : va_W) := va_Qi (fun (_ : Int32) (_ : Unit) => False) (zBk B D W) (zAb B)
abbrev zQxl (B : Nat) (D : va_G) (W : va_W) := va_Ql (fun (_ : Int64) (_ : Unit) => False) (zBk B D W) (zAb B)
section ZT
variable {p : Program} {l : Launch} {e : Env} {R : Room} {s : State} {m : MethodId} {args : Array Value} {below : List Frame} {meth : Method} {c : Code} {H : Heap} {locs : List Loc}
theorem zthrow {cc : ByteArray} {pc : Nat} {cls text : String} {ik is ic B kr kp : Nat} {D : va_G} {W1 : va_W} {Qc : Array Value → State → Outcome → State → Prop} {ls : Array Slot}
    (hexec : p.tables.exec = Jvm.exec) (hb : c.code = cc) (hl : l.stackTraces = false) (hown : s.vm.findClass RX4 = some m.cls) (hE : zE B kr kp s s.heap) (hP : va_P D vwCl W1 H) (hD : va_D (zAb B) W1) (hS : va_S (zAb B) s.heap H locs) (hsize : ls.size = c.maxLocals) (ht9 : ∀ x ∈ c.exceptionTable.toList, False) (hlocks : meth.locks = false)
    (hcls : cls ∈ zCast) (hstr : (is, text) ∈ zStr) (hfit : Bundle.fit cls = true) (hk : (Cond.classLink RX4 ik cls).before args s = true) (hini : (Cond.initialized cls).before args s = true)
    (hat : ∀ w ∈ (vx_atS RX4 ic cls zUp).filter goodWord, w.before args s = true) (hng : ∀ w ∈ (vx_atS RX4 ic cls zUp).filter (fun w => !goodWord w), w ∈ Cond.castable cls cls :: zDec.map Cond.declares)
    (hgood : ∀ w ∈ Cond.classLink RX4 ik cls :: Cond.initialized cls :: vx_atS RX4 ic cls zUp, vx_ot w = true)
    (d0 : decode cc pc = .ok (.new ik, 3)) (d3 : decode cc (pc + 3) = .ok (.dup, 1)) (d4 : decode cc (pc + 4) = .ok (.ldc is, 2)) (d6 : decode cc (pc + 6) = .ok (.invokespecial ic, 3)) (d9 : decode cc (pc + 9) = .ok (.athrow, 1))
    (hR : 6 ≤ R.frames ∧ 82 ≤ R.locals ∧ 1 ≤ R.cells ∧ 6 ≤ R.slots) :
    W p l e R s m args below meth c H locs 0 0 (vx_MQ below Qc (zXC cls B D W1) args s 1 6 (zAb B)) (F0 m pc ls []) := by
  obtain ⟨-, hc, -, -, ⟨hU, hN⟩, hs, -⟩ := hE
  obtain ⟨sa, hsa⟩ := hs _ hstr
  exact vx_throwS hexec hb hl hown hfit (names := zUp) (by decide +kernel) hk hini hsa (vx_hat hat hng (vx_c (va_tabs rfl rfl (hc.1 cls hcls)) (fun w hw => by obtain ⟨X, hX, rfl⟩ := List.mem_map.mp hw; exact va_tabs rfl rfl (hc.2.1 X hX)))) hgood hU hN hS hsize d0 d3 d4 d6 d9 (fun x hx => (ht9 x hx).elim)
    (Nat.le_trans (Nat.le_of_ble_eq_true rfl) hR.1) (Nat.le_trans (Nat.le_of_ble_eq_true rfl) hR.2.1) (Nat.le_trans (Nat.le_of_ble_eq_true rfl) hR.2.2.1) (Nat.le_trans (Nat.le_of_ble_eq_true rfl) hR.2.2.2) hlocks
    (fun t hal hsz hq => ⟨(), trivial, ⟨rfl, hP.kept (fun k q hk => hq _ (vx_lt hP hk)), hD⟩, ⟨Nat.le_trans hS.1 hsz, fun q h1 h2 => (hq q (Nat.lt_of_lt_of_le h1 hS.1)).trans (hS.2.1 q h1 h2)⟩⟩) (fun z hz => hS.2.2 z hz) (Nat.le_refl _) (Nat.le_refl _)
end ZT
