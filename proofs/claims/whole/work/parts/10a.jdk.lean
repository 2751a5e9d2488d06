/-! the reference's String constant: the JDK's own methods over it, which change nothing -/
def zRs (aK aV : Nat → Nat) (U : State) (H : Heap) : Prop := vk_S 1 [29] [zBy] aK aV (fun _ => False) U H ∧ va_Z "java/lang/String" "COMPACT_STRINGS" "Z" (.int 1) (fun _ => False) U H
abbrev zPs (aK aV : Nat → Nat) (av : List Value) : Array Value → State → Prop := va_Pc av (fun U => zRs aK aV U U.heap)
abbrev zQs (v : Int32) := va_Qi (fun (r : Int32) (_ : Unit) => r = v) (fun (_ : Unit) (_ : State) => True) (fun _ => False)
theorem zZ_narrow {C n d : String} {v : Value} {A B : Nat → Prop} {U : State} {H : Heap} (h : va_Z C n d v A U H) (hAB : ∀ q, B q → A q) : va_Z C n d v B U H := by
  obtain ⟨cf, kf, fi, f, a, cell, h1, h2, h3, h4, h5, h6, h7, h8⟩ := h
  exact ⟨cf, kf, fi, f, a, cell, h1, h2, h3, h4, h5, h6, h7, fun q => h8 (hAB a q)⟩
theorem zRs.of {B : Nat} {aK aV : Nat → Nat} {U : State} {H : Heap} (h : vk_S 1 [29] [zBy] aK aV (zAb B) U H) (h2 : va_Z "java/lang/String" "COMPACT_STRINGS" "Z" (.int 1) (zAb B) U H) : zRs aK aV U H :=
  ⟨h.narrow (fun _ q => q.elim), zZ_narrow h2 (fun _ q => q.elim)⟩
theorem zRs.warm {aK aV : Nat → Nat} {s U : State} {H : Heap} (h : zRs aK aV s s.heap) (hal : s.vm.Alike U.vm) (hk : ∀ q : Nat, q < s.heap.size → H[q]? = s.heap[q]?) : zRs aK aV U H :=
  ⟨(h.1.moved hal).kept (fun q h1 _ => hk q h1), (h.2.moved hal).kept (fun q h1 _ => hk q h1)⟩
theorem zRs.blind {aK aV : Nat → Nat} {av : List Value} : FrameBlind (zPs aK aV av) := by
  intro a U g mk q
  obtain ⟨q0, qR⟩ := q
  exact ⟨q0, qR.warm (Vm.Alike.refl U.vm) (fun _ _ => rfl)⟩
section ZJ
variable {p : Program} {l : Launch} {e : Env} {R : Room} {s : State} {m : MethodId} {args : Array Value} {below : List Frame} {meth : Method} {c : Code} {H H0 : Heap} {locs : List Loc} {cells slots mc ms : Nat} {Q : State → Prop}
variable {pc : Nat} {ls : Array Slot} {rest st0 : List Value} {a : Array Value} {aK aV : Nat → Nat} {A0 : Nat → Prop}
theorem zSj {As : List Value} (hE : zRs aK aV s s.heap) (hk : ∀ q : Nat, q < s.heap.size → H[q]? = s.heap[q]?) : PreS s H (zPs aK aV As) As :=
  ⟨zRs.blind, fun U hU hW => ⟨rfl, by show zRs aK aV U U.heap; rw [hU]; exact hE.warm hW.alike hk⟩⟩
theorem zVj {As : List Value} (hE : zRs aK aV s s.heap) (hk : ∀ q : Nat, q < s.heap.size → H[q]? = s.heap[q]?) (hS : va_S (fun _ => False) s.heap H []) : PreV s H "java/lang/String" (aK 0) (zPs aK aV (.ref (aK 0) :: As)) As :=
  ⟨zRs.blind, vk_recv hE.1 (by decide) hS, (zSj (As := .ref (aK 0) :: As) hE hk).2⟩
theorem zcij {v : Int32} (hr : va_Run p l e R s m args below meth c H locs cells slots mc ms (F0 m pc ls st0) rest (zQs v a) (fun _ => False)) (hS : va_S A0 H0 H locs)
    (kk : ∀ (H1 : Heap) (locs1 : List Loc), (∀ q : Nat, q < H.size → H1[q]? = H[q]?) → H.size ≤ H1.size → va_S A0 H0 H1 locs1 → W p l e R s m args below meth c H1 locs1 (cells + mc) (slots + ms) Q (F0 m (pc + 3) ls (.int v :: rest))) : W p l e R s m args below meth c H locs cells slots Q (F0 m pc ls st0) :=
  va_calli hr hS (fun _ _ h => h.elim) (fun _ h => h.elim) (fun r u t H1 locs1 ht hvm hw hB hz hk hS1 => by
    have hw : r = v := hw
    subst hw; exact kk _ _ (fun q hq => hk q hq (fun h => h)) hz hS1)
end ZJ
/-- where a letter stands in the reference's rows -/
def zix (a : Nat) : Nat := ([11, 26, 24, 13, 2, 14, 15, 16, 7, 17, 18, 19, 28, 27, 8, 9, 0, 3, 12, 4, 6, 25, 1, 23, 5, 22] : List Nat).getD a 0
theorem zix_at : ∀ a, a < 26 → ∀ j, j < 29 → (zBy.getD j 0 = nI (97 + a) ↔ j = zix a) := by decide +kernel
theorem zix_lt : ∀ a, a < 26 → zix a < 29 := by decide +kernel
theorem zix_b : ∀ a, a < 26 → (nI (97 + a)).toInt8.toInt32 = nI (97 + a) := by decide +kernel
theorem zst_ix : ∀ a, a < 26 → ∀ b, b < 26 → zst (nI a) (nI b) = (if zab (nI (zix a / 11) - nI (zix b / 11)) = 0 then decide (zab (nI (zix a % 11) - nI (zix b % 11)) = 1) else (decide (zab (nI (zix a / 11) - nI (zix b / 11)) = 1) && decide (zab (nI (zix a % 11) - nI (zix b % 11)) ≤ 1))) := by decide +kernel
section ZLS
variable {p : Program} {l : Launch} {e : Env} {R : Room} {s : State} {m : MethodId} {args : Array Value} {below : List Frame} {meth : Method} {c : Code} {H : Heap} {locs : List Loc} {cells slots : Nat} {Q : State → Prop}
/-- a loop that changes locals alone -/
theorem zloopS {nL pc : Nat} {σ : Type} (lv : σ → List (Nat × Value)) (st : σ → List Value) (I : σ → Prop) (μ : σ → Nat)
    (body : ∀ x : σ, I x → (∀ y : σ, I y → μ y < μ x → ∀ (ls : Array Slot), lv_has ls nL (lv y) → W p l e R s m args below meth c H locs cells slots Q (F0 m pc ls (st y))) →
      ∀ (ls : Array Slot), lv_has ls nL (lv x) → W p l e R s m args below meth c H locs cells slots Q (F0 m pc ls (st x))) :
    ∀ x : σ, I x → ∀ (ls : Array Slot), lv_has ls nL (lv x) → W p l e R s m args below meth c H locs cells slots Q (F0 m pc ls (st x)) := by
  have key : ∀ (k : Nat) (x : σ), μ x < k → I x → ∀ (ls : Array Slot), lv_has ls nL (lv x) → W p l e R s m args below meth c H locs cells slots Q (F0 m pc ls (st x)) := by
    intro k
    induction k with
    | zero => intro x h; exact absurd h (Nat.not_lt_zero _)
    | succ k ih =>
      intro x h hI
      exact body x hI (fun y hy hm => ih y (Nat.lt_of_lt_of_le hm (Nat.le_of_lt_succ h)) hy)
  intro x hI
  exact key (μ x + 1) x (Nat.lt_succ_self _) hI
end ZLS
