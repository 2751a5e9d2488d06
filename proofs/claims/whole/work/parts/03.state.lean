/-! the state: the class's cells and the reference's, at addresses that a function gives -/
abbrev zTy (cI cJ cZ : ClassId) : List (ClassId × FieldType) := [(cI, .int), (cJ, .long), (cZ, .boolean)]
abbrev zTw : Type := Nat × (Nat → Int64)
abbrev zTk : Type := (Nat → Int32) × (Nat → Int32) × (Nat → Int32)
/-- numbers, letters, owners, followers, running, words, letters, tried, clean, times, misses -/
abbrev zTl : Type := (Nat → Int32) × (Nat → Int32) × (Nat → Int32) × (Nat → Int32) × Bool × Nat × Nat × Nat × Nat × Nat × Nat
/-- letters, cleans, times, count, pace, letterSum, cleanSum -/
abbrev zTh : Type := (Nat → Int32) × (Nat → Int32) × (Nat → Int32) × Nat × Int32 × Nat × Nat
abbrev zWT (cI cJ : ClassId) (h : Nat → Nat) (w : zTw) (k p : zTk) (l : zTl) (x : zTh) (mc : Nat → Int32) : va_W :=
  [(h 0, .inr (4, [.ref (h 1), .ref (h 3), .ref (h 7), .ref (h 11), .ref (h 16), .ref (h 20)])),
   (h 1, .inr (3, [.ref (h 2), .int (nI w.1)])), (h 2, .inl (cJ, 40, .inr (.inl w.2))),
   (h 3, .inr (1, [.ref (h 4), .ref (h 5), .ref (h 6)])), (h 4, .inl (cI, 26, .inl k.1)), (h 5, .inl (cI, 26, .inl k.2.1)), (h 6, .inl (cI, 26, .inl k.2.2)),
   (h 7, .inr (1, [.ref (h 8), .ref (h 9), .ref (h 10)])), (h 8, .inl (cI, 676, .inl p.1)), (h 9, .inl (cI, 676, .inl p.2.1)), (h 10, .inl (cI, 676, .inl p.2.2)),
   (h 11, .inr (2, [.ref (h 12), .ref (h 13), .ref (h 14), .ref (h 15), .int (zb l.2.2.2.2.1), .int (nI l.2.2.2.2.2.1), .int (nI l.2.2.2.2.2.2.1), .int (nI l.2.2.2.2.2.2.2.1), .int (nI l.2.2.2.2.2.2.2.2.1), .int (nI l.2.2.2.2.2.2.2.2.2.1), .int (nI l.2.2.2.2.2.2.2.2.2.2)])),
   (h 12, .inl (cI, 6, .inl l.1)), (h 13, .inl (cI, 48, .inl l.2.1)), (h 14, .inl (cI, 48, .inl l.2.2.1)), (h 15, .inl (cI, 26, .inl l.2.2.2.1)),
   (h 16, .inr (0, [.ref (h 17), .ref (h 18), .ref (h 19), .int (nI x.2.2.2.1), .int x.2.2.2.2.1, .int (nI x.2.2.2.2.2.1), .int (nI x.2.2.2.2.2.2)])),
   (h 17, .inl (cI, 256, .inl x.1)), (h 18, .inl (cI, 256, .inl x.2.1)), (h 19, .inl (cI, 256, .inl x.2.2.1)), (h 20, .inl (cI, 5, .inl mc))]
/-- isOpen, lessonWords, chosen, letters, text, areFirst, at, slips, clean, time -/
abbrev zMl : Type := Bool × Nat × (Nat → Int32) × Nat × (Nat → Int32) × (Nat → Int32) × Nat × Nat × Nat × Nat
/-- finished, the row's length, history, pace -/
abbrev zMh : Type := Nat × Nat × (Nat → Int32) × Int32
abbrev zWM (cI cJ cZ : ClassId) (h : Nat → Nat) (th : Int32) (w : zTw) (k : zTk) (kc : Nat → Int32) (l : zMl) (x : zMh) : va_W :=
  [(h 0, .inr (5, [.int th, .int (nI w.1), .ref (h 1), .ref (h 2), .ref (h 3), .ref (h 4), .ref (h 5), .int (zb l.1), .int (nI l.2.1), .ref (h 6), .int (nI l.2.2.2.1), .ref (h 7), .ref (h 8), .int (nI l.2.2.2.2.2.2.1), .int (nI l.2.2.2.2.2.2.2.1), .int (nI l.2.2.2.2.2.2.2.2.1), .int (nI l.2.2.2.2.2.2.2.2.2), .int (nI x.1), .ref (h 9), .int x.2.2.2])),
   (h 1, .inl (cJ, 40, .inr (.inl w.2))), (h 2, .inl (cI, 702, .inl k.1)), (h 3, .inl (cI, 702, .inl k.2.1)), (h 4, .inl (cI, 702, .inl k.2.2)), (h 5, .inl (cI, 5, .inl kc)),
   (h 6, .inl (cI, 6, .inl l.2.2.1)), (h 7, .inl (cI, 48, .inl l.2.2.2.2.1)), (h 8, .inl (cZ, 49, .inl l.2.2.2.2.2.1)), (h 9, .inl (cI, x.2.1, .inl x.2.2.1))]
theorem zset_same {α : Type} {l : List α} {k : Nat} {x : α} (h : l[k]? = some x) : l.set k x = l := by
  apply List.ext_getElem?
  intro i
  by_cases hi : i = k
  · subst hi
    rw [List.getElem?_set_self (List.getElem?_eq_some_iff.mp h).1, h]
  · rw [List.getElem?_set_ne (Ne.symm hi)]
/-! words: the number shifted by k bytes, its letters from behind, its length -/
def zsh (w : Int64) (k : Nat) : Int64 := (w.toUInt64 >>> ((nI (8 * k)).toInt64.toUInt64 &&& Int64.toUInt64 63)).toInt64
def zlt (w : Int64) (j : Nat) : Int32 := (zsh w j &&& 255).toInt32 - 97
def zszA (w : Int64) : Nat → Nat → Nat
  | 0, s => s
  | f + 1, s => if zsh w s = 0 then s else zszA w f (s + 1)
def zsz (w : Int64) : Nat := zszA w 8 0
def zmx (d x : Int64) : Int64 := d * 31 + x
theorem zset_at {α : Type} {l : List α} {k : Nat} {x y : α} (h : l[k]? = some x) : (l.set k y)[k]? = some y := List.getElem?_set_self (List.getElem?_eq_some_iff.mp h).1
/-- the first k places hold x -/
def zfil (k : Nat) (x : Int32) (f : Nat → Int32) : Nat → Int32 := fun j => if j < k then x else f j
theorem zfil_0 (x : Int32) (f : Nat → Int32) : zfil 0 x f = f := funext fun j => if_neg (Nat.not_lt_zero j)
theorem zfil_s (k : Nat) (x : Int32) (f : Nat → Int32) : upd (zfil k x f) k x = zfil (k + 1) x f := by
  funext j
  unfold upd zfil
  by_cases h : j = k
  · rw [if_pos h, if_pos (by omega)]
  · rw [if_neg h]
    by_cases h2 : j < k
    · rw [if_pos h2, if_pos (by omega)]
    · rw [if_neg h2, if_neg (by omega)]
/-- what is known of a key, or of a pair: the new level -/
def zgl (clean : Bool) (time : Int32) : Int32 := if clean then (if 0 < 1000 - time / 5 then 1000 - time / 5 else 0) else 0
def zlv (l g : Int32) : Int32 := l + (g - l) / 4
/-- a lesson's rows behind k more letters of a word -/
def zale (le : Nat → Int32) (lc : Nat) (w : Int64) (k : Nat) : Nat → Int32 := fun j => if lc ≤ j ∧ j < lc + k then zlt w (zsz w - 1 - (j - lc)) else le j
def zaow (ow : Nat → Int32) (lc wc k : Nat) : Nat → Int32 := fun j => if lc ≤ j ∧ j < lc + k then nI wc else ow j
def zafo (fo : Nat → Int32) (w : Int64) : Nat → (Nat → Int32)
  | 0 => fo
  | 1 => fo
  | k + 2 => zwr 26 (zafo fo w (k + 1)) (zlt w (zsz w - 1 - k)) (zrd 26 (zafo fo w (k + 1)) (zlt w (zsz w - 1 - k)) ||| ((1 : Int32) <<< (zlt w (zsz w - 1 - (k + 1)) &&& 31)))
/-- history -/
def zsp (hl ht : Nat → Int32) (k : Nat) : Int32 := if 0 < ht k then hl k * 60000 / ht k else 0
def zgs (hl ht : Nat → Int32) (a : Nat) : Nat → Int32
  | 0 => 0
  | k + 1 => if zgs hl ht a k < zsp hl ht (a + k) then zsp hl ht (a + k) else zgs hl ht a k
def zmm (x : Int32) : Int32 := if (if 20 < x then x else 20) < 900 then (if 20 < x then x else 20) else 900
def zpc (pa : Int32) (lt ct : Nat) : Int32 := if lt * 95 ≤ ct * 100 then zmm (pa + pa / 20 + 1) else if ct * 100 < lt * 85 then zmm (pa - pa / 10) else zmm pa
theorem zszA_le (w : Int64) : ∀ f s, zszA w f s ≤ s + f
  | 0, s => Nat.le_refl _
  | f + 1, s => by
    unfold zszA
    split
    · omega
    · exact Nat.le_trans (zszA_le w f (s + 1)) (by omega)
theorem zsz_le (w : Int64) : zsz w ≤ 8 := zszA_le w 8 0
theorem zszA_stop {w : Int64} {s : Nat} (hs : s < 8) (h : zsh w s = 0) : zszA w (8 - s) s = s := by
  obtain ⟨f, hf⟩ : ∃ f, 8 - s = f + 1 := ⟨7 - s, by omega⟩
  rw [hf, zszA, if_pos h]
theorem zszA_step {w : Int64} {s : Nat} (hs : s < 8) (h : ¬ zsh w s = 0) : zszA w (8 - s) s = zszA w (8 - (s + 1)) (s + 1) := by
  obtain ⟨f, hf⟩ : ∃ f, 8 - s = f + 1 := ⟨7 - s, by omega⟩
  rw [hf, zszA, if_neg h, show 8 - (s + 1) = f from by omega]
/-! the reference's rows: the keys ahead of the pairs -/
def zcb (f g : Nat → Int32) : Nat → Int32 := fun k => if k < 26 then f k else g (k - 26)
theorem zcb_k {f g : Nat → Int32} {k : Nat} (h : k < 26) : zcb f g k = f k := if_pos h
theorem zcb_p {f g : Nat → Int32} {k : Nat} : zcb f g (26 + k) = g k := by
  unfold zcb
  rw [if_neg (by omega), Nat.add_sub_cancel_left]
theorem zcb_uk {f g : Nat → Int32} {k : Nat} {x : Int32} (h : k < 26) : upd (zcb f g) k x = zcb (upd f k x) g := by
  funext j
  unfold upd zcb
  by_cases hj : j < 26
  · rw [if_pos hj, if_pos hj]
  · rw [if_neg hj, if_neg hj, if_neg (by omega)]
theorem zcb_up {f g : Nat → Int32} {k : Nat} {x : Int32} : upd (zcb f g) (26 + k) x = zcb f (upd g k x) := by
  funext j
  unfold upd zcb
  by_cases hj : j < 26
  · rw [if_pos hj, if_pos hj, if_neg (by omega)]
  · rw [if_neg hj, if_neg hj]
    by_cases h : j = 26 + k
    · exact (if_pos h).trans (if_pos (show j - 26 = k by omega)).symm
    · exact (if_neg h).trans (if_neg (show ¬ j - 26 = k by omega)).symm
/-! whether a number is among the lesson's, a word among the words -/
def zhw (nu : Nat → Int32) (x : Int32) : Nat → Bool
  | 0 => false
  | k + 1 => zhw nu x k || decide (nu k = x)
theorem zhw_in {nu : Nat → Int32} {x : Int32} {k : Nat} (h : nu k = x) : ∀ {n : Nat}, k < n → zhw nu x n = true
  | 0, hk => absurd hk (Nat.not_lt_zero k)
  | n + 1, hk => by
    unfold zhw
    rcases Nat.lt_or_ge k n with q | q
    · rw [zhw_in h q, Bool.true_or]
    · obtain rfl : k = n := by omega
      rw [decide_eq_true h, Bool.or_true]
theorem zhw_not {nu : Nat → Int32} {x : Int32} {n : Nat} (h : zhw nu x n = false) (h2 : ¬ nu n = x) : zhw nu x (n + 1) = false := by
  unfold zhw
  rw [h, decide_eq_false h2, Bool.or_false]
def zhd (L : Nat → Int64) (w : Int64) : Nat → Bool
  | 0 => false
  | k + 1 => zhd L w k || decide (L k = w)
theorem zhd_in {L : Nat → Int64} {w : Int64} {k : Nat} (h : L k = w) : ∀ {n : Nat}, k < n → zhd L w n = true
  | 0, hk => absurd hk (Nat.not_lt_zero k)
  | n + 1, hk => by
    unfold zhd
    rcases Nat.lt_or_ge k n with q | q
    · rw [zhd_in h q, Bool.true_or]
    · obtain rfl : k = n := by omega
      rw [decide_eq_true h, Bool.or_true]
theorem zhd_not {L : Nat → Int64} {w : Int64} {n : Nat} (h : zhd L w n = false) (h2 : ¬ L n = w) : zhd L w (n + 1) = false := by
  unfold zhd
  rw [h, decide_eq_false h2, Bool.or_false]
/-- a letter of the same word, or -1 -/
def zis (le ow : Nat → Int32) (lc tr : Nat) (i : Int32) : Int32 := if ¬ i < 0 ∧ ¬ nI lc ≤ i ∧ zrd 48 ow i = ow tr then zrd 48 le i else -1
/-- a bit of the followers; a pair somewhere in the lesson's letters -/
def zfh (fo : Nat → Int32) (x y : Int32) : Bool := decide (¬ (zrd 26 fo x &&& ((1 : Int32) <<< (y &&& 31))) = 0)
def zhp (af le : Nat → Int32) (x y : Int32) : Nat → Bool
  | 0 => false
  | k + 1 => zhp af le x y k || (decide (af (k + 1) = 0) && (decide (le k = x) && decide (le (k + 1) = y)))
/-- weakness of a pair, weight of a word -/
def zwk (pt pl : Nat → Int32) (i : Int32) : Int32 := if zrd 676 pt i = 0 then 1000 - zrd 676 pl i + 200 else 1000 - zrd 676 pl i
def zwn (tries level : Int32) : Int32 := if tries = 0 then 1000 - level + 200 else 1000 - level
theorem zwk_in {pt pl : Nat → Int32} {k : Nat} (h : k < 676) : zwk pt pl (nI k) = zwn (pt k) (pl k) := by
  unfold zwk zwn
  rw [zrd_in h (by omega), zrd_in h (by omega)]
def zpx (w : Int64) (k : Nat) : Int32 := 26 * zlt w (zsz w - 1 - k) + zlt w (zsz w - 1 - (k + 1))
def zsm (pt pl : Nat → Int32) (w : Int64) : Nat → Int32
  | 0 => 0
  | k + 1 => zsm pt pl w k + zwk pt pl (zpx w k)
def zwg (kl pt pl : Nat → Int32) (w : Int64) : Int32 := if zsz w ≤ 1 then 1000 - zrd 26 kl (zlt w (zsz w - 1)) else zsm pt pl w (zsz w - 1) / nI (zsz w - 1)
def zwi (hp : Int32 → Int32 → Bool) (w : Int64) (b : Int32) : Nat → Int32
  | 0 => b
  | k + 1 => if hp (zlt w (zsz w - 1 - k)) (zlt w (zsz w - 1 - (k + 1))) = true then zwi hp w b k + (-150) else zwi hp w b k
def zwl (hp : Int32 → Int32 → Bool) (kl pt pl : Nat → Int32) (w : Int64) : Int32 := zwi hp w (zwg kl pt pl w) (zsz w - 1)
def zpk (ch : Nat → Bool) (wt : Nat → Int32) : Nat → Int32 × Int32
  | 0 => (-1, 0)
  | k + 1 => if ch k = true then zpk ch wt k else if (zpk ch wt k).1 = -1 ∨ (zpk ch wt k).2 < wt k then (nI k, wt k) else zpk ch wt k
theorem nI_m1 {k : Nat} (h : k < 2147483648) : ¬ nI k = -1 := fun e => by
  have h1 := congrArg Int32.toInt e
  rw [nI_toInt h] at h1
  have h2 : (-1 : Int32).toInt = -1 := by decide
  rw [h2] at h1
  omega
theorem zpk_in (ch : Nat → Bool) (wt : Nat → Int32) : ∀ n, (zpk ch wt n).1 = -1 ∨ ∃ k, k < n ∧ ch k = false ∧ (zpk ch wt n).1 = nI k
  | 0 => Or.inl rfl
  | n + 1 => by
    unfold zpk
    have ih := zpk_in ch wt n
    by_cases hc : ch n = true
    · rw [if_pos hc]
      rcases ih with h | ⟨k, h1, h2, h3⟩
      · exact Or.inl h
      · exact Or.inr ⟨k, by omega, h2, h3⟩
    · rw [if_neg hc]
      by_cases h : (zpk ch wt n).1 = -1 ∨ (zpk ch wt n).2 < wt n
      · rw [if_pos h]
        exact Or.inr ⟨n, by omega, by cases hx : ch n <;> simp_all, rfl⟩
      · rw [if_neg h]
        rcases ih with h | ⟨k, h1, h2, h3⟩
        · exact Or.inl h
        · exact Or.inr ⟨k, by omega, h2, h3⟩
theorem zpk_none (ch : Nat → Bool) (wt : Nat → Int32) : ∀ n, n < 2147483648 → (zpk ch wt n).1 = -1 → ∀ k, k < n → ch k = true
  | 0, _, _, k, hk => absurd hk (Nat.not_lt_zero k)
  | n + 1, hn, h, k, hk => by
    unfold zpk at h
    by_cases hc : ch n = true
    · rw [if_pos hc] at h
      rcases Nat.lt_or_ge k n with q | q
      · exact zpk_none ch wt n (by omega) h k q
      · obtain rfl : k = n := by omega
        exact hc
    · rw [if_neg hc] at h
      by_cases h2 : (zpk ch wt n).1 = -1 ∨ (zpk ch wt n).2 < wt n
      · rw [if_pos h2] at h
        exact absurd h (nI_m1 (by omega))
      · rw [if_neg h2] at h
        exact absurd (Or.inl h) h2
theorem zpk_cong {ch ch' : Nat → Bool} {wt wt' : Nat → Int32} : ∀ n, (∀ k, k < n → ch k = ch' k) → (∀ k, k < n → wt k = wt' k) → zpk ch wt n = zpk ch' wt' n
  | 0, _, _ => rfl
  | n + 1, h1, h2 => by
    unfold zpk
    rw [zpk_cong n (fun k hk => h1 k (by omega)) (fun k hk => h2 k (by omega)), h1 n (by omega), h2 n (by omega)]
theorem zwi_cong {hp hp' : Int32 → Int32 → Bool} {w : Int64} {b : Int32} : ∀ n, (∀ k, k < n → hp (zlt w (zsz w - 1 - k)) (zlt w (zsz w - 1 - (k + 1))) = hp' (zlt w (zsz w - 1 - k)) (zlt w (zsz w - 1 - (k + 1)))) → zwi hp w b n = zwi hp' w b n
  | 0, _ => rfl
  | n + 1, h => by
    unfold zwi
    rw [zwi_cong n (fun k hk => h k (by omega)), h n (by omega)]
/-! the lesson being made: numbers, letters, owners, followers, words, letters so far -/
abbrev zLs : Type := (Nat → Int32) × (Nat → Int32) × (Nat → Int32) × (Nat → Int32) × Nat × Nat
def zap (s : zLs) (i : Int32) (w : Int64) : zLs := (upd s.1 s.2.2.2.2.1 i, zale s.2.1 s.2.2.2.2.2 w (zsz w), zaow s.2.2.1 s.2.2.2.2.2 s.2.2.2.2.1 (zsz w), zafo s.2.2.2.1 w (zsz w), s.2.2.2.2.1 + 1, s.2.2.2.2.2 + zsz w)
def zpT (L : Nat → Int64) (n : Nat) (kl pt pl : Nat → Int32) (s : zLs) : Int32 := (zpk (fun k => zhw s.1 (nI k) s.2.2.2.2.1) (fun k => zwl (zfh s.2.2.2.1) kl pt pl (L k)) n).1
def zoT (L : Nat → Int64) (n : Nat) (kl pt pl : Nat → Int32) (s : zLs) : Nat → zLs
  | 0 => s
  | j + 1 => if zpT L n kl pt pl (zoT L n kl pt pl s j) = -1 then zoT L n kl pt pl s j else zap (zoT L n kl pt pl s j) (zpT L n kl pt pl (zoT L n kl pt pl s j)) (L (zpT L n kl pt pl (zoT L n kl pt pl s j)).toNatClampNeg)
theorem zoT_stop {L : Nat → Int64} {n : Nat} {kl pt pl : Nat → Int32} {s : zLs} {j : Nat} (h : zpT L n kl pt pl (zoT L n kl pt pl s j) = -1) : ∀ k, zoT L n kl pt pl s (j + k) = zoT L n kl pt pl s j
  | 0 => rfl
  | k + 1 => by
    show zoT L n kl pt pl s ((j + k) + 1) = _
    rw [zoT, zoT_stop h k, if_pos h]
theorem zoT_step {L : Nat → Int64} {n : Nat} {kl pt pl : Nat → Int32} {s : zLs} {j k : Nat} (hk : k < 2147483648) (h : zpT L n kl pt pl (zoT L n kl pt pl s j) = nI k) : zoT L n kl pt pl s (j + 1) = zap (zoT L n kl pt pl s j) (nI k) (L k) := by
  rw [zoT, h, if_neg (nI_m1 hk), nI_clamp hk]
/-- the reference's marks: 1 where a word begins -/
def zaaf (af : Nat → Int32) (lc : Nat) (k : Nat) : Nat → Int32 := fun j => if lc ≤ j ∧ j < lc + k then (if j = lc then 1 else 0) else af j
abbrev zMs : Type := (Nat → Int32) × (Nat → Int32) × (Nat → Int32) × Nat × Nat
def zpu (s : zMs) (i : Int32) (w : Int64) : zMs := (upd s.1 s.2.2.2.1 i, zale s.2.1 s.2.2.2.2 w (zsz w), zaaf s.2.2.1 s.2.2.2.2 (zsz w), s.2.2.2.1 + 1, s.2.2.2.2 + zsz w)
def zpM (L : Nat → Int64) (n : Nat) (kl pt pl : Nat → Int32) (s : zMs) : Int32 := (zpk (fun k => zhw s.1 (nI k) s.2.2.2.1) (fun k => zwl (fun x y => zhp s.2.2.1 s.2.1 x y (s.2.2.2.2 - 1)) kl pt pl (L k)) n).1
def zoM (L : Nat → Int64) (n : Nat) (kl pt pl : Nat → Int32) (s : zMs) : Nat → zMs
  | 0 => s
  | j + 1 => if (zoM L n kl pt pl s j).2.2.2.1 < n then zpu (zoM L n kl pt pl s j) (zpM L n kl pt pl (zoM L n kl pt pl s j)) (L (zpM L n kl pt pl (zoM L n kl pt pl s j)).toNatClampNeg) else zoM L n kl pt pl s j
/-! words that may be added -/
def zlk (w : Int64) (j : Nat) : Bool := decide (0 ≤ zlt w j) && decide (zlt w j < 26)
def zokA (w : Int64) : Nat → Bool
  | 0 => true
  | k + 1 => zokA w k && zlk w k
def zok (w : Int64) : Bool := decide (¬ w = 0) && zokA w (zsz w)
/-! selections: as values that reduce -/
def zsel {α : Type} : Bool → α → α → α
  | true, x, _ => x
  | false, _, y => y
def zc0 : Nat → Bool
  | 0 => true
  | _ + 1 => false
/-- what is known of a key or a pair, once tried -/
def zkt (f : Nat → Int32) (k : Nat) : Nat → Int32 := upd f k (f k + 1)
def zkm (b : Bool) (f : Nat → Int32) (k : Nat) : Nat → Int32 := zsel b f (upd f k (f k + 1))
def zkl (b : Bool) (f : Nat → Int32) (k : Nat) (time : Int32) : Nat → Int32 := upd f k (zlv (f k) (zgl b time))
/-- the letter before, as one may be or none -/
def zoI : Option Nat → Int32
  | none => -1
  | some y => nI y
def zou (o : Option Nat) (x : Nat) (f : Nat → Int32) (g : Nat → (Nat → Int32)) : Nat → Int32 :=
  match o with
  | none => f
  | some y => g (26 * y + x)
/-- near each other on the keyboard -/
def zab (x : Int32) : Int32 := if 0 ≤ x then x else 0 - x
def zst (a b : Int32) : Bool := if zab (zrd 26 zKR a - zrd 26 zKR b) = 0 then decide (zab (zrd 26 zKP a - zrd 26 zKP b) = 1) else (decide (zab (zrd 26 zKR a - zrd 26 zKR b) = 1) && decide (zab (zrd 26 zKP a - zrd 26 zKP b) ≤ 1))
/-- which kind of stroke -/
def zkd (key : Int32) (le ow : Nat → Int32) (lc tr : Nat) : Int32 := if key = le tr then 0 else if key = zis le ow lc tr (nI (tr + 1)) then 1 else if key = zis le ow lc tr (nI tr - 1) then 2 else if zst key (le tr) = true then 3 else 4
/-! the weakest pair -/
def zws (pt pl : Nat → Int32) : Nat → Int32
  | 0 => -1
  | p + 1 => if pt p = 0 then zws pt pl p else if zws pt pl p = -1 ∨ zwk pt pl (zws pt pl p) < zwk pt pl (nI p) then nI p else zws pt pl p
/-! the digest -/
def zdW (L : Nat → Int64) (d : Int64) : Nat → Int64
  | 0 => d
  | k + 1 => zmx (zdW L d k) (L k)
def zdr (d : Int64) (a b c : Int32) : Int64 := zmx (zmx (zmx d a.toInt64) b.toInt64) c.toInt64
def zdK (kt km kl : Nat → Int32) (d : Int64) : Nat → Int64
  | 0 => d
  | k + 1 => zdr (zdK kt km kl d k) (kt k) (km k) (kl k)
def zdP (pt pm pl : Nat → Int32) (d : Int64) : Nat → Int64
  | 0 => d
  | p + 1 => if pt p = 0 then zdP pt pm pl d p else zdr (zmx (zdP pt pm pl d p) (nI p).toInt64) (pt p) (pm p) (pl p)
def zdI (f : Nat → Int32) (a : Nat) (d : Int64) : Nat → Int64
  | 0 => d
  | k + 1 => zmx (zdI f a d k) (f (a + k)).toInt64
def zdH (hl hc ht : Nat → Int32) (d : Int64) : Nat → Int64
  | 0 => d
  | k + 1 => zmx (zdr (zdH hl hc ht d k) (hl k) (hc k) (ht k)) (zsp hl ht k).toInt64
