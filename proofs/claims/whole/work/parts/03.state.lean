/-! the state: the class's cells and the reference's, at addresses that a function gives -/
abbrev zTy (cI cJ cZ : ClassId) : List (ClassId × FieldType) := [(cI, .int), (cJ, .long), (cZ, .boolean)]
abbrev zTw : Type := Nat × (Nat → Int64)
abbrev zTk : Type := (Nat → Int32) × (Nat → Int32) × (Nat → Int32)
/-- numbers, letters, owners, followers, running, words, letters, tried, clean, times, misses -/
abbrev zTl : Type := (Nat → Int32) × (Nat → Int32) × (Nat → Int32) × (Nat → Int32) × Bool × Nat × Nat × Nat × Nat × Nat × Nat
/-- letters, cleans, times, count, pace, letterSum, cleanSum -/
abbrev zTh : Type := (Nat → Int32) × (Nat → Int32) × (Nat → Int32) × Nat × Int32 × Nat × Nat
abbrev zWT (cI cJ : ClassId) (h : Nat → Nat) (w : zTw) (k p : zTk) (l : zTl) (x : zTh) (mc : Nat → Int32) : va_W :=
  [(h 0, .inr (4, [.ref (h 1), .ref (h 3), .ref (h 7), .ref (h 11), .ref (h 16), .ref (h 20)])),
   (h 1, .inr (3, [.ref (h 2), .int (nI w.1)])), (h 2, .inl (cJ, 40, .inr (.inl w.2))),
   (h 3, .inr (1, [.ref (h 4), .ref (h 5), .ref (h 6)])), (h 4, .inl (cI, 26, .inl k.1)), (h 5, .inl (cI, 26, .inl k.2.1)), (h 6, .inl (cI, 26, .inl k.2.2)),
   (h 7, .inr (1, [.ref (h 8), .ref (h 9), .ref (h 10)])), (h 8, .inl (cI, 676, .inl p.1)), (h 9, .inl (cI, 676, .inl p.2.1)), (h 10, .inl (cI, 676, .inl p.2.2)),
   (h 11, .inr (2, [.ref (h 12), .ref (h 13), .ref (h 14), .ref (h 15), .int (zb l.2.2.2.2.1), .int (nI l.2.2.2.2.2.1), .int (nI l.2.2.2.2.2.2.1), .int (nI l.2.2.2.2.2.2.2.1), .int (nI l.2.2.2.2.2.2.2.2.1), .int (nI l.2.2.2.2.2.2.2.2.2.1), .int (nI l.2.2.2.2.2.2.2.2.2.2)])),
   (h 12, .inl (cI, 6, .inl l.1)), (h 13, .inl (cI, 48, .inl l.2.1)), (h 14, .inl (cI, 48, .inl l.2.2.1)), (h 15, .inl (cI, 26, .inl l.2.2.2.1)),
   (h 16, .inr (0, [.ref (h 17), .ref (h 18), .ref (h 19), .int (nI x.2.2.2.1), .int x.2.2.2.2.1, .int (nI x.2.2.2.2.2.1), .int (nI x.2.2.2.2.2.2)])),
   (h 17, .inl (cI, 256, .inl x.1)), (h 18, .inl (cI, 256, .inl x.2.1)), (h 19, .inl (cI, 256, .inl x.2.2.1)), (h 20, .inl (cI, 5, .inl mc))]
/-- isOpen, lessonWords, chosen, letters, text, areFirst, at, slips, clean, time -/
abbrev zMl : Type := Bool × Nat × (Nat → Int32) × Nat × (Nat → Int32) × (Nat → Int32) × Nat × Nat × Nat × Nat
/-- finished, the row's length, history, pace -/
abbrev zMh : Type := Nat × Nat × (Nat → Int32) × Int32
abbrev zWM (cI cJ cZ : ClassId) (h : Nat → Nat) (th : Int32) (w : zTw) (k : zTk) (kc : Nat → Int32) (l : zMl) (x : zMh) : va_W :=
  [(h 0, .inr (5, [.int th, .int (nI w.1), .ref (h 1), .ref (h 2), .ref (h 3), .ref (h 4), .ref (h 5), .int (zb l.1), .int (nI l.2.1), .ref (h 6), .int (nI l.2.2.2.1), .ref (h 7), .ref (h 8), .int (nI l.2.2.2.2.2.2.1), .int (nI l.2.2.2.2.2.2.2.1), .int (nI l.2.2.2.2.2.2.2.2.1), .int (nI l.2.2.2.2.2.2.2.2.2), .int (nI x.1), .ref (h 9), .int x.2.2.2])),
   (h 1, .inl (cJ, 40, .inr (.inl w.2))), (h 2, .inl (cI, 702, .inl k.1)), (h 3, .inl (cI, 702, .inl k.2.1)), (h 4, .inl (cI, 702, .inl k.2.2)), (h 5, .inl (cI, 5, .inl kc)),
   (h 6, .inl (cI, 6, .inl l.2.2.1)), (h 7, .inl (cI, 48, .inl l.2.2.2.2.1)), (h 8, .inl (cZ, 49, .inl l.2.2.2.2.2.1)), (h 9, .inl (cI, x.2.1, .inl x.2.2.1))]
theorem zset_same {α : Type} {l : List α} {k : Nat} {x : α} (h : l[k]? = some x) : l.set k x = l := by
  apply List.ext_getElem?
  intro i
  by_cases hi : i = k
  · subst hi
    rw [List.getElem?_set_self (List.getElem?_eq_some_iff.mp h).1, h]
  · rw [List.getElem?_set_ne (Ne.symm hi)]
/-! words: the number shifted by k bytes, its letters from behind, its length -/
def zsh (w : Int64) (k : Nat) : Int64 := (w.toUInt64 >>> ((nI (8 * k)).toInt64.toUInt64 &&& Int64.toUInt64 63)).toInt64
def zlt (w : Int64) (j : Nat) : Int32 := (zsh w j &&& 255).toInt32 - 97
def zszA (w : Int64) : Nat → Nat → Nat
  | 0, s => s
  | f + 1, s => if zsh w s = 0 then s else zszA w f (s + 1)
def zsz (w : Int64) : Nat := zszA w 8 0
def zmx (d x : Int64) : Int64 := d * 31 + x
theorem zset_at {α : Type} {l : List α} {k : Nat} {x y : α} (h : l[k]? = some x) : (l.set k y)[k]? = some y := List.getElem?_set_self (List.getElem?_eq_some_iff.mp h).1
/-- the first k places hold x -/
def zfil (k : Nat) (x : Int32) (f : Nat → Int32) : Nat → Int32 := fun j => if j < k then x else f j
theorem zfil_0 (x : Int32) (f : Nat → Int32) : zfil 0 x f = f := funext fun j => if_neg (Nat.not_lt_zero j)
theorem zfil_s (k : Nat) (x : Int32) (f : Nat → Int32) : upd (zfil k x f) k x = zfil (k + 1) x f := by
  funext j
  unfold upd zfil
  by_cases h : j = k
  · rw [if_pos h, if_pos (by omega)]
  · rw [if_neg h]
    by_cases h2 : j < k
    · rw [if_pos h2, if_pos (by omega)]
    · rw [if_neg h2, if_neg (by omega)]
/-- what is known of a key, or of a pair: the new level -/
def zgl (clean : Bool) (time : Int32) : Int32 := if clean then (if 0 < 1000 - time / 5 then 1000 - time / 5 else 0) else 0
def zlv (l g : Int32) : Int32 := l + (g - l) / 4
/-- a lesson's rows behind k more letters of a word -/
def zale (le : Nat → Int32) (lc : Nat) (w : Int64) (k : Nat) : Nat → Int32 := fun j => if lc ≤ j ∧ j < lc + k then zlt w (zsz w - 1 - (j - lc)) else le j
def zaow (ow : Nat → Int32) (lc wc k : Nat) : Nat → Int32 := fun j => if lc ≤ j ∧ j < lc + k then nI wc else ow j
def zafo (fo : Nat → Int32) (w : Int64) : Nat → (Nat → Int32)
  | 0 => fo
  | 1 => fo
  | k + 2 => zwr 26 (zafo fo w (k + 1)) (zlt w (zsz w - 1 - k)) (zrd 26 (zafo fo w (k + 1)) (zlt w (zsz w - 1 - k)) ||| ((1 : Int32) <<< (zlt w (zsz w - 1 - (k + 1)) &&& 31)))
/-- history -/
def zsp (hl ht : Nat → Int32) (k : Nat) : Int32 := if 0 < ht k then hl k * 60000 / ht k else 0
def zgs (hl ht : Nat → Int32) (a : Nat) : Nat → Int32
  | 0 => 0
  | k + 1 => if zgs hl ht a k < zsp hl ht (a + k) then zsp hl ht (a + k) else zgs hl ht a k
def zmm (x : Int32) : Int32 := if (if 20 < x then x else 20) < 900 then (if 20 < x then x else 20) else 900
def zpc (pa : Int32) (lt ct : Nat) : Int32 := if lt * 95 ≤ ct * 100 then zmm (pa + pa / 20 + 1) else if ct * 100 < lt * 85 then zmm (pa - pa / 10) else zmm pa
theorem zszA_le (w : Int64) : ∀ f s, zszA w f s ≤ s + f
  | 0, s => Nat.le_refl _
  | f + 1, s => by
    unfold zszA
    split
    · omega
    · exact Nat.le_trans (zszA_le w f (s + 1)) (by omega)
theorem zsz_le (w : Int64) : zsz w ≤ 8 := zszA_le w 8 0
theorem zszA_stop {w : Int64} {s : Nat} (hs : s < 8) (h : zsh w s = 0) : zszA w (8 - s) s = s := by
  obtain ⟨f, hf⟩ : ∃ f, 8 - s = f + 1 := ⟨7 - s, by omega⟩
  rw [hf, zszA, if_pos h]
theorem zszA_step {w : Int64} {s : Nat} (hs : s < 8) (h : ¬ zsh w s = 0) : zszA w (8 - s) s = zszA w (8 - (s + 1)) (s + 1) := by
  obtain ⟨f, hf⟩ : ∃ f, 8 - s = f + 1 := ⟨7 - s, by omega⟩
  rw [hf, zszA, if_neg h, show 8 - (s + 1) = f from by omega]
