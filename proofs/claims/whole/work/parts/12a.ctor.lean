/-! constructors: addresses that the call makes -/
abbrev zBkg (B : Nat) (D : va_G) (W : (Nat → Nat) → va_W) : (Nat → Nat) → State → Prop := fun u t => va_P D vwCl (W u) t.heap ∧ va_D (zAb B) (W u)
abbrev zQvg (B : Nat) (D : va_G) (W : (Nat → Nat) → va_W) := va_Qv (fun (_ : Nat → Nat) => True) (zBkg B D W) (zAb B)
section ZCG
variable {p : Program} {l : Launch} {e : Env} {R : Room} {s : State} {m : MethodId} {args : Array Value} {below : List Frame} {meth : Method} {c : Code} {H H0 : Heap} {locs : List Loc} {cells slots mc ms : Nat} {Q : State → Prop}
variable {pc : Nat} {ls : Array Slot} {rest st0 : List Value} {B : Nat} {D : va_G} {a : Array Value} {Wh : (Nat → Nat) → va_W}
theorem zcvg (hr : va_Run p l e R s m args below meth c H locs cells slots mc ms (F0 m pc ls st0) rest (zQvg B D Wh a) (zAb B)) (hS : va_S (zAb B) H0 H locs)
    (kk : ∀ (u : Nat → Nat) (H1 : Heap) (locs1 : List Loc), va_P D vwCl (Wh u) H1 → va_D (zAb B) (Wh u) → va_S (zAb B) H0 H1 locs1 → W p l e R s m args below meth c H1 locs1 (cells + mc) (slots + ms) Q (F0 m (pc + 3) ls rest)) : W p l e R s m args below meth c H locs cells slots Q (F0 m pc ls st0) :=
  va_callv hr hS (fun _ _ h => h) (fun _ h => h) (fun u t H1 locs1 ht hvm hw hB hz hk hS1 => by
    subst ht; exact kk u _ _ hB.1 hB.2 hS1)
end ZCG
theorem zcb_00 : zcb (fun _ => 0) (fun _ => 0) = fun _ => 0 := by
  funext j
  unfold zcb
  by_cases h : j < 26
  · rw [if_pos h]
  · rw [if_neg h]
theorem zcb_lv : zcb (zfil 26 500 (fun _ => 0)) (zfil 676 500 (fun _ => 0)) = zfil 702 500 (fun _ => 0) := by
  funext j
  unfold zcb zfil
  by_cases h : j < 26
  · rw [if_pos h, if_pos h, if_pos (by omega)]
  · rw [if_neg h]
    by_cases h2 : j < 702
    · rw [if_pos h2, if_pos (by omega)]
    · rw [if_neg h2, if_neg (by omega)]
theorem zmx_191 (x : Int64) : 5921 + x = zmx 191 x := by
  unfold zmx
  rw [show (191 : Int64) * 31 = 5921 from by decide]
