/-! the state: the class's cells and the reference's, at addresses that a function gives -/
abbrev zTy (cI cJ cZ : ClassId) : List (ClassId × FieldType) := [(cI, .int), (cJ, .long), (cZ, .boolean)]
abbrev zTw : Type := Nat × (Nat → Int64)
abbrev zTk : Type := (Nat → Int32) × (Nat → Int32) × (Nat → Int32)
/-- numbers, letters, owners, followers, running, words, letters, tried, clean, times, misses -/
abbrev zTl : Type := (Nat → Int32) × (Nat → Int32) × (Nat → Int32) × (Nat → Int32) × Bool × Nat × Nat × Nat × Nat × Nat × Nat
/-- letters, cleans, times, count, pace, letterSum, cleanSum -/
abbrev zTh : Type := (Nat → Int32) × (Nat → Int32) × (Nat → Int32) × Nat × Int32 × Nat × Nat
abbrev zWT (cI cJ : ClassId) (h : Nat → Nat) (w : zTw) (k p : zTk) (l : zTl) (x : zTh) (mc : Nat → Int32) : va_W :=
  [(h 0, .inr (4, [.ref (h 1), .ref (h 3), .ref (h 7), .ref (h 11), .ref (h 16), .ref (h 20)])),
   (h 1, .inr (3, [.ref (h 2), .int (nI w.1)])), (h 2, .inl (cJ, 40, .inr (.inl w.2))),
   (h 3, .inr (1, [.ref (h 4), .ref (h 5), .ref (h 6)])), (h 4, .inl (cI, 26, .inl k.1)), (h 5, .inl (cI, 26, .inl k.2.1)), (h 6, .inl (cI, 26, .inl k.2.2)),
   (h 7, .inr (1, [.ref (h 8), .ref (h 9), .ref (h 10)])), (h 8, .inl (cI, 676, .inl p.1)), (h 9, .inl (cI, 676, .inl p.2.1)), (h 10, .inl (cI, 676, .inl p.2.2)),
   (h 11, .inr (2, [.ref (h 12), .ref (h 13), .ref (h 14), .ref (h 15), .int (zb l.2.2.2.2.1), .int (nI l.2.2.2.2.2.1), .int (nI l.2.2.2.2.2.2.1), .int (nI l.2.2.2.2.2.2.2.1), .int (nI l.2.2.2.2.2.2.2.2.1), .int (nI l.2.2.2.2.2.2.2.2.2.1), .int (nI l.2.2.2.2.2.2.2.2.2.2)])),
   (h 12, .inl (cI, 6, .inl l.1)), (h 13, .inl (cI, 48, .inl l.2.1)), (h 14, .inl (cI, 48, .inl l.2.2.1)), (h 15, .inl (cI, 26, .inl l.2.2.2.1)),
   (h 16, .inr (0, [.ref (h 17), .ref (h 18), .ref (h 19), .int (nI x.2.2.2.1), .int x.2.2.2.2.1, .int (nI x.2.2.2.2.2.1), .int (nI x.2.2.2.2.2.2)])),
   (h 17, .inl (cI, 256, .inl x.1)), (h 18, .inl (cI, 256, .inl x.2.1)), (h 19, .inl (cI, 256, .inl x.2.2.1)), (h 20, .inl (cI, 5, .inl mc))]
/-- isOpen, lessonWords, chosen, letters, text, areFirst, at, slips, clean, time -/
abbrev zMl : Type := Bool × Nat × (Nat → Int32) × Nat × (Nat → Int32) × (Nat → Int32) × Nat × Nat × Nat × Nat
/-- finished, the row's length, history, pace -/
abbrev zMh : Type := Nat × Nat × (Nat → Int32) × Int32
abbrev zWM (cI cJ cZ : ClassId) (h : Nat → Nat) (th : Int32) (w : zTw) (k : zTk) (kc : Nat → Int32) (l : zMl) (x : zMh) : va_W :=
  [(h 0, .inr (5, [.int th, .int (nI w.1), .ref (h 1), .ref (h 2), .ref (h 3), .ref (h 4), .ref (h 5), .int (zb l.1), .int (nI l.2.1), .ref (h 6), .int (nI l.2.2.2.1), .ref (h 7), .ref (h 8), .int (nI l.2.2.2.2.2.2.1), .int (nI l.2.2.2.2.2.2.2.1), .int (nI l.2.2.2.2.2.2.2.2.1), .int (nI l.2.2.2.2.2.2.2.2.2), .int (nI x.1), .ref (h 9), .int x.2.2.2])),
   (h 1, .inl (cJ, 40, .inr (.inl w.2))), (h 2, .inl (cI, 702, .inl k.1)), (h 3, .inl (cI, 702, .inl k.2.1)), (h 4, .inl (cI, 702, .inl k.2.2)), (h 5, .inl (cI, 5, .inl kc)),
   (h 6, .inl (cI, 6, .inl l.2.2.1)), (h 7, .inl (cI, 48, .inl l.2.2.2.2.1)), (h 8, .inl (cZ, 49, .inl l.2.2.2.2.2.1)), (h 9, .inl (cI, x.2.1, .inl x.2.2.1))]
theorem zset_same {α : Type} {l : List α} {k : Nat} {x : α} (h : l[k]? = some x) : l.set k x = l := by
  apply List.ext_getElem?
  intro i
  by_cases hi : i = k
  · subst hi
    rw [List.getElem?_set_self (List.getElem?_eq_some_iff.mp h).1, h]
  · rw [List.getElem?_set_ne (Ne.symm hi)]
/-! words: the number shifted by k bytes, its letters from behind, its length -/
def zsh (w : Int64) (k : Nat) : Int64 := (w.toUInt64 >>> ((nI (8 * k)).toInt64.toUInt64 &&& Int64.toUInt64 63)).toInt64
def zlt (w : Int64) (j : Nat) : Int32 := (zsh w j &&& 255).toInt32 - 97
def zszA (w : Int64) : Nat → Nat → Nat
  | 0, s => s
  | f + 1, s => if zsh w s = 0 then s else zszA w f (s + 1)
def zsz (w : Int64) : Nat := zszA w 8 0
def zmx (d x : Int64) : Int64 := d * 31 + x
