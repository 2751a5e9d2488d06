/-! the reference's side: new addresses behind a call -/
abbrev zBkh (B : Nat) (D : va_G) (W : Nat → va_W) : Nat → State → Prop := fun q t => va_P D vwCl (W q) t.heap ∧ va_D (zAb B) (W q)
abbrev zQvh (B : Nat) (D : va_G) (W : Nat → va_W) := va_Qv (fun (_ : Nat) => True) (zBkh B D W) (zAb B)
abbrev zQih (B : Nat) (D : va_G) (W : Nat → va_W) (v : Int32) := va_Qi (fun (r : Int32) (_ : Nat) => r = v) (zBkh B D W) (zAb B)
section ZCH
variable {p : Program} {l : Launch} {e : Env} {R : Room} {s : State} {m : MethodId} {args : Array Value} {below : List Frame} {meth : Method} {c : Code} {H H0 : Heap} {locs : List Loc} {cells slots mc ms : Nat} {Q : State → Prop}
variable {pc : Nat} {ls : Array Slot} {rest st0 : List Value} {B : Nat} {D : va_G} {a : Array Value} {Wh : Nat → va_W}
theorem zcih {v : Int32} (hr : va_Run p l e R s m args below meth c H locs cells slots mc ms (F0 m pc ls st0) rest (zQih B D Wh v a) (zAb B)) (hS : va_S (zAb B) H0 H locs)
    (kk : ∀ (h : Nat) (H1 : Heap) (locs1 : List Loc), va_P D vwCl (Wh h) H1 → va_D (zAb B) (Wh h) → va_S (zAb B) H0 H1 locs1 → W p l e R s m args below meth c H1 locs1 (cells + mc) (slots + ms) Q (F0 m (pc + 3) ls (.int v :: rest))) : W p l e R s m args below meth c H locs cells slots Q (F0 m pc ls st0) :=
  va_calli hr hS (fun _ _ h => h) (fun _ h => h) (fun r u t H1 locs1 ht hvm hw hB hz hk hS1 => by
    have hw : r = v := hw
    subst hw; subst ht; exact kk u _ _ hB.1 hB.2 hS1)
theorem zcvh (hr : va_Run p l e R s m args below meth c H locs cells slots mc ms (F0 m pc ls st0) rest (zQvh B D Wh a) (zAb B)) (hS : va_S (zAb B) H0 H locs)
    (kk : ∀ (h : Nat) (H1 : Heap) (locs1 : List Loc), va_P D vwCl (Wh h) H1 → va_D (zAb B) (Wh h) → va_S (zAb B) H0 H1 locs1 → W p l e R s m args below meth c H1 locs1 (cells + mc) (slots + ms) Q (F0 m (pc + 3) ls rest)) : W p l e R s m args below meth c H locs cells slots Q (F0 m pc ls st0) :=
  va_callv hr hS (fun _ _ h => h) (fun _ h => h) (fun u t H1 locs1 ht hvm hw hB hz hk hS1 => by
    subst ht; exact kk u _ _ hB.1 hB.2 hS1)
end ZCH
/-! pure facts of the reference's side -/
theorem zup0 {f : Nat → Int32} {k : Nat} : upd f k (f k + 0) = f := by
  funext j
  unfold upd
  by_cases h : j = k
  · rw [if_pos h, h, Int32.add_zero]
  · rw [if_neg h]
def zokM (w : Int64) : Nat → Bool
  | 0 => decide (¬ w = 0)
  | k + 1 => zokM w k && zlk w (zsz w - 1 - k)
theorem zlk_q {w : Int64} {j : Nat} (h : ¬ zlt w j < 0 ∧ ¬ 26 ≤ zlt w j) : zlk w j = true := by
  unfold zlk
  rw [decide_eq_true (Int32.not_lt.mp h.1), decide_eq_true (Int32.not_le.mp h.2)]; rfl
theorem zlk_nq {w : Int64} {j : Nat} (h : ¬ (¬ zlt w j < 0 ∧ ¬ 26 ≤ zlt w j)) : zlk w j = false := by
  cases hx : zlk w j
  · rfl
  · unfold zlk at hx
    rw [Bool.and_eq_true, decide_eq_true_iff, decide_eq_true_iff] at hx
    exact absurd ⟨Int32.not_lt.mpr hx.1, Int32.not_le.mpr hx.2⟩ h
theorem zokA_all {w : Int64} : ∀ {n : Nat}, (∀ j, j < n → zlk w j = true) → zokA w n = true
  | 0, _ => rfl
  | n + 1, h => by
    unfold zokA
    rw [zokA_all (fun j hj => h j (by omega)), h n (by omega)]; rfl
theorem zokM_at {w : Int64} : ∀ {n : Nat}, zokM w n = true → (¬ w = 0) ∧ ∀ k, k < n → zlk w (zsz w - 1 - k) = true
  | 0, h => ⟨of_decide_eq_true h, fun k hk => absurd hk (Nat.not_lt_zero k)⟩
  | n + 1, h => by
    unfold zokM at h
    rw [Bool.and_eq_true] at h
    obtain ⟨h1, h2⟩ := zokM_at h.1
    refine ⟨h1, fun k hk => ?_⟩
    rcases Nat.lt_or_ge k n with q | q
    · exact h2 k q
    · obtain rfl : k = n := by omega
      exact h.2
theorem zokM_of {w : Int64} (h0 : ¬ w = 0) : ∀ {n : Nat}, (∀ k, k < n → zlk w (zsz w - 1 - k) = true) → zokM w n = true
  | 0, _ => decide_eq_true h0
  | n + 1, h => by
    unfold zokM
    rw [zokM_of h0 (fun k hk => h k (by omega)), h n (by omega)]; rfl
theorem zokM_eq (w : Int64) : zokM w (zsz w) = zok w := by
  cases hx : zok w
  · cases hy : zokM w (zsz w)
    · rfl
    · obtain ⟨h1, h2⟩ := zokM_at hy
      have h3 : zok w = true := zok_t h1 (zokA_all (fun j hj => by have := h2 (zsz w - 1 - j) (by omega); rwa [show zsz w - 1 - (zsz w - 1 - j) = j by omega] at this))
      rw [hx] at h3; exact absurd h3 (by decide)
  · have hz := hx
    unfold zok at hx
    rw [Bool.and_eq_true, decide_eq_true_iff] at hx
    have hp := zok_pos hz
    exact zokM_of hx.1 (fun k hk => zokA_at hx.2 (by omega))
theorem zpx_ln {w : Int64} {k : Nat} (hz : zok w = true) (hk : k + 1 < zsz w) : zpx w k = nI (26 * zln w (zsz w - 1 - k) + zln w (zsz w - 1 - (k + 1))) := by
  unfold zpx
  rw [(zok_ln hz (show zsz w - 1 - k < zsz w by omega)).1, (zok_ln hz (show zsz w - 1 - (k + 1) < zsz w by omega)).1, show (26 : Int32) = nI 26 from rfl, pk_mul, nI_add]
theorem zws_in (pt pl : Nat → Int32) : ∀ j, zws pt pl j = -1 ∨ ∃ b, b < j ∧ zws pt pl j = nI b
  | 0 => Or.inl rfl
  | j + 1 => by
    unfold zws
    have ih := zws_in pt pl j
    have ih' : zws pt pl j = -1 ∨ ∃ b, b < j + 1 ∧ zws pt pl j = nI b := ih.imp id (fun ⟨b, h1, h2⟩ => ⟨b, by omega, h2⟩)
    by_cases h : pt j = 0
    · rw [if_pos h]; exact ih'
    · rw [if_neg h]
      by_cases h2 : zws pt pl j = -1 ∨ zwk pt pl (zws pt pl j) < zwk pt pl (nI j)
      · rw [if_pos h2]; exact Or.inr ⟨j, by omega, rfl⟩
      · rw [if_neg h2]; exact ih'
/-- letters of the same word, by the marks -/
theorem zis_nt {le ow : Nat → Int32} {lc tr : Nat} (h : tr + 1 < lc) (hl : lc ≤ 48) (ho : ow (tr + 1) = ow tr) : zis le ow lc tr (nI (tr + 1)) = le (tr + 1) := by
  unfold zis
  rw [zrd_in (show tr + 1 < 48 by omega) (by decide), zrd_in (show tr + 1 < 48 by omega) (by decide), if_pos ⟨nI_pos (by omega), nI_ge h (by omega), ho⟩]
theorem zis_nf {le ow : Nat → Int32} {lc tr : Nat} (htr : tr < lc) (hl : lc ≤ 48) (h : tr + 1 < lc → ¬ ow (tr + 1) = ow tr) : zis le ow lc tr (nI (tr + 1)) = -1 := by
  unfold zis
  refine if_neg (fun hh => ?_)
  by_cases h2 : tr + 1 < lc
  · have h3 := hh.2.2
    rw [zrd_in (show tr + 1 < 48 by omega) (by decide)] at h3
    exact h h2 h3
  · exact hh.2.1 (nI_le (by omega) (by omega))
theorem zis_pt {le ow : Nat → Int32} {lc tr : Nat} (h0 : 0 < tr) (htr : tr < lc) (hl : lc ≤ 48) (ho : ow (tr - 1) = ow tr) : zis le ow lc tr (nI tr - 1) = le (tr - 1) := by
  have e : nI tr - 1 = nI (tr - 1) := pk_sub (a := tr) (b := 1) (by omega)
  unfold zis
  rw [e, zrd_in (show tr - 1 < 48 by omega) (by decide), zrd_in (show tr - 1 < 48 by omega) (by decide), if_pos ⟨nI_pos (by omega), nI_ge (show tr - 1 < lc by omega) (by omega), ho⟩]
theorem zis_pf {le ow : Nat → Int32} {lc tr : Nat} (htr : tr < lc) (hl : lc ≤ 48) (h : 0 < tr → ¬ ow (tr - 1) = ow tr) : zis le ow lc tr (nI tr - 1) = -1 := by
  unfold zis
  refine if_neg (fun hh => ?_)
  by_cases h0 : 0 < tr
  · have e : nI tr - 1 = nI (tr - 1) := pk_sub (a := tr) (b := 1) (by omega)
    have h3 := hh.2.2
    rw [e, zrd_in (show tr - 1 < 48 by omega) (by decide)] at h3
    exact h h0 h3
  · obtain rfl : tr = 0 := by omega
    exact hh.1 (by decide)
/-- the reference's marks against the class's owners -/
def zMk (af ow : Nat → Int32) (lc : Nat) : Prop := ∀ j, j < lc → (af j = 0 ↔ 0 < j ∧ ow (j - 1) = ow j)
/-- the reference's history against the class's -/
def zHi (hi yl yc yt : Nat → Int32) (co : Nat) : Prop := ∀ k, k < co → hi (3 * k) = yl k ∧ hi (3 * k + 1) = yc k ∧ hi (3 * k + 2) = yt k ∧ 0 < yt k
theorem zHi_0 {hi yl yc yt : Nat → Int32} {co k : Nat} (h : zHi hi yl yc yt co) (hk : k < co) : hi (3 * k) = yl k := (h k hk).1
theorem zHi_1 {hi yl yc yt : Nat → Int32} {co k : Nat} (h : zHi hi yl yc yt co) (hk : k < co) : hi (3 * k + 1) = yc k := (h k hk).2.1
theorem zHi_2 {hi yl yc yt : Nat → Int32} {co k : Nat} (h : zHi hi yl yc yt co) (hk : k < co) : hi (3 * k + 2) = yt k := (h k hk).2.2.1
theorem zHi_p {hi yl yc yt : Nat → Int32} {co k : Nat} (h : zHi hi yl yc yt co) (hk : k < co) : ¬ yt k = 0 := fun e => absurd (e ▸ (h k hk).2.2.2) (by decide)
theorem zHi_3 {hi yl yc yt : Nat → Int32} {co k : Nat} (h : zHi hi yl yc yt co) (hk : k < co) : hi (3 * k) * 60000 / hi (3 * k + 2) = zsp yl yt k := by
  unfold zsp
  rw [zHi_0 h hk, zHi_2 h hk, if_pos (h k hk).2.2.2]
def zg3 (yl yt : Nat → Int32) (a : Nat) : Int32 := if zsp yl yt a < (if zsp yl yt (a + 1) < zsp yl yt (a + 2) then zsp yl yt (a + 2) else zsp yl yt (a + 1)) then (if zsp yl yt (a + 1) < zsp yl yt (a + 2) then zsp yl yt (a + 2) else zsp yl yt (a + 1)) else zsp yl yt a
theorem z3max (x y z : Int32) (h0 : 0 ≤ x) (h1 : 0 ≤ y) (h2 : 0 ≤ z) :
    (if (if (if 0 < x then x else 0) < y then y else (if 0 < x then x else 0)) < z then z else (if (if 0 < x then x else 0) < y then y else (if 0 < x then x else 0))) = (if x < (if y < z then z else y) then (if y < z then z else y) else x) := by
  have e0 : (0 : Int32).toInt = 0 := by decide
  rw [Int32.le_iff_toInt_le, e0] at h0 h1 h2
  have ex : (if 0 < x then x else 0) = x := by
    by_cases c : 0 < x
    · rw [if_pos c]
    · rw [if_neg c]
      rw [Int32.lt_iff_toInt_lt, e0] at c
      exact Int32.toInt_inj.mp (by rw [e0]; omega)
  rw [ex]
  by_cases c2 : x < y
  · rw [if_pos c2]
    by_cases c3 : y < z
    · rw [if_pos c3, if_pos (Int32.lt_trans c2 c3)]
    · rw [if_neg c3, if_pos c2]
  · rw [if_neg c2]
    by_cases c3 : y < z
    · rw [if_pos c3]
    · rw [if_neg c3, if_neg c2, if_neg (fun q => c3 (Int32.lt_of_le_of_lt (Int32.not_lt.mp c2) q))]
theorem zg3_eq {yl yt : Nat → Int32} {a : Nat} (h : ∀ k, a ≤ k → k < a + 3 → 0 ≤ zsp yl yt k) : zgs yl yt a 3 = zg3 yl yt a :=
  z3max (zsp yl yt a) (zsp yl yt (a + 1)) (zsp yl yt (a + 2)) (h a (by omega) (by omega)) (h (a + 1) (by omega) (by omega)) (h (a + 2) (by omega) (by omega))
/-- pace: the two ways to keep it in its bounds -/
theorem zmm_eq (x : Int32) : (if (20 : Int32) < (if x < 900 then x else 900) then (if x < 900 then x else 900) else 20) = zmm x := by
  unfold zmm
  simp only [Int32.lt_iff_toInt_lt]
  have e1 : (20 : Int32).toInt = 20 := by decide
  have e2 : (900 : Int32).toInt = 900 := by decide
  by_cases c1 : x.toInt < 900
  · by_cases c2 : 20 < x.toInt
    · simp only [e1, e2, if_pos c1, if_pos c2]
    · simp only [e1, e2, if_pos c1, if_neg c2]
      rw [if_pos (by decide)]
  · have c2 : (20 : Int) < x.toInt := by omega
    simp only [e1, e2, if_neg c1, if_pos c2]
    rw [if_pos (by decide)]
theorem zmin_eq (x : Int32) : (if (900 : Int32) < x then (900 : Int32) else x) = (if x < 900 then x else 900) := by
  simp only [Int32.lt_iff_toInt_lt]
  have e2 : (900 : Int32).toInt = 900 := by decide
  by_cases c : 900 < x.toInt
  · rw [e2, if_pos c, if_neg (by omega)]
  · by_cases c1 : x.toInt < 900
    · rw [e2, if_neg c, if_pos c1]
    · rw [e2, if_neg c, if_neg c1]
      exact Int32.toInt_inj.mp (by rw [e2]; omega)
theorem zcpy_in {f g : Nat → Int32} {n j : Nat} (h : j < n) : va_cpy f g 0 0 n j = f j := by
  rw [pk_cpy_in (by omega) (by omega)]
  congr 1; omega
