theorem zale_s {le : Nat → Int32} {lc : Nat} {w : Int64} {k : Nat} : zale le lc w (k + 1) = upd (zale le lc w k) (lc + k) (zlt w (zsz w - 1 - k)) := by
  funext j
  unfold upd zale
  by_cases h : j = lc + k
  · rw [if_pos h, if_pos (by omega), show j - lc = k by omega]
  · rw [if_neg h]
    by_cases h2 : lc ≤ j ∧ j < lc + k
    · rw [if_pos h2, if_pos (by omega)]
    · rw [if_neg h2, if_neg (by omega)]
theorem zaow_s {ow : Nat → Int32} {lc wc k : Nat} : zaow ow lc wc (k + 1) = upd (zaow ow lc wc k) (lc + k) (nI wc) := by
  funext j
  unfold upd zaow
  by_cases h : j = lc + k
  · rw [if_pos h, if_pos (by omega)]
  · rw [if_neg h]
    by_cases h2 : lc ≤ j ∧ j < lc + k
    · rw [if_pos h2, if_pos (by omega)]
    · rw [if_neg h2, if_neg (by omega)]
theorem zaaf_s {af : Nat → Int32} {lc k : Nat} : zaaf af lc (k + 1) = upd (zaaf af lc k) (lc + k) (if k = 0 then 1 else 0) := by
  funext j
  unfold upd zaaf
  by_cases h : j = lc + k
  · rw [if_pos h, if_pos (by omega)]
    by_cases hk : k = 0
    · rw [if_pos hk, if_pos (by omega)]
    · rw [if_neg hk, if_neg (by omega)]
  · rw [if_neg h]
    by_cases h2 : lc ≤ j ∧ j < lc + k
    · rw [if_pos h2, if_pos (by omega)]
    · rw [if_neg h2, if_neg (by omega)]
theorem zale_0 {le : Nat → Int32} {lc : Nat} {w : Int64} : zale le lc w 0 = le := funext fun j => if_neg (by omega)
theorem zaow_0 {ow : Nat → Int32} {lc wc : Nat} : zaow ow lc wc 0 = ow := funext fun j => if_neg (by omega)
theorem zaaf_0 {af : Nat → Int32} {lc : Nat} : zaaf af lc 0 = af := funext fun j => if_neg (by omega)
theorem zafo_1 {fo : Nat → Int32} {w : Int64} {k : Nat} (h : ¬ 0 < k) : zafo fo w (k + 1) = zafo fo w k := by
  obtain rfl : k = 0 := by omega
  rfl
theorem zafo_s {fo : Nat → Int32} {w : Int64} {k : Nat} (h : 0 < k) : zafo fo w (k + 1) = zwr 26 (zafo fo w k) (zlt w (zsz w - 1 - (k - 1))) (zrd 26 (zafo fo w k) (zlt w (zsz w - 1 - (k - 1))) ||| ((1 : Int32) <<< (zlt w (zsz w - 1 - k) &&& 31))) := by
  obtain ⟨k, rfl⟩ : ∃ z, k = z + 1 := ⟨k - 1, by omega⟩
  rfl
theorem zpk_s1 {ch : Nat → Bool} {wt : Nat → Int32} {k : Nat} (h : ch k = true) : zpk ch wt (k + 1) = zpk ch wt k := if_pos h
theorem zpk_s2 {ch : Nat → Bool} {wt : Nat → Int32} {k : Nat} (h : ch k = false) (h2 : (zpk ch wt k).1 = -1 ∨ (zpk ch wt k).2 < wt k) : zpk ch wt (k + 1) = (nI k, wt k) := by
  rw [zpk, if_neg (by rw [h]; decide), if_pos h2]
theorem zpk_s3 {ch : Nat → Bool} {wt : Nat → Int32} {k : Nat} (h : ch k = false) (h1 : ¬ (zpk ch wt k).1 = -1) (h2 : ¬ (zpk ch wt k).2 < wt k) : zpk ch wt (k + 1) = zpk ch wt k := by
  rw [zpk, if_neg (by rw [h]; decide), if_neg (fun hh => hh.elim h1 h2)]
theorem zszA_ge (w : Int64) : ∀ f s, s ≤ zszA w f s
  | 0, s => Nat.le_refl _
  | f + 1, s => by
    unfold zszA
    split
    · exact Nat.le_refl _
    · exact Nat.le_trans (Nat.le_succ s) (zszA_ge w f (s + 1))
/-! numbers as bits (a family of the kit's laws) -/
theorem wb_tb (n : Nat) : (lN n).toBitVec = BitVec.ofNat 64 n := rfl
theorem wb_inj {a b : Int64} (h : a.toBitVec = b.toBitVec) : a = b := Int64.toBitVec_inj.mp h
theorem wb_tn {n : Nat} (h : n < 2 ^ 64) : (lN n).toBitVec.toNat = n := by rw [wb_tb, BitVec.toNat_ofNat, Nat.mod_eq_of_lt h]
theorem wb_of (x : Int64) : ∃ n, n < 2 ^ 64 ∧ x = lN n := ⟨x.toBitVec.toNat, x.toBitVec.isLt, wb_inj (by rw [wb_tb]; simp)⟩
theorem wb_of32 (x : Int32) : ∃ n, n < 2 ^ 32 ∧ x = nI n := ⟨x.toBitVec.toNat, x.toBitVec.isLt, Int32.toBitVec_inj.mp (by show _ = BitVec.ofNat 32 _; simp)⟩
theorem wb_c : ∀ k, k < 64 → ((nI k).toInt64 &&& 63) = lN k := by decide +kernel
theorem wb_cu : ∀ k, k < 64 → ((nI k).toInt64.toUInt64 &&& Int64.toUInt64 63) = UInt64.ofNat k := by decide +kernel
theorem wb_sm : ∀ k, k < 64 → (BitVec.ofNat 64 k).smod 64 = BitVec.ofNat 64 k := by decide +kernel
theorem wb_pw {a b : Nat} (h : a ≤ b) : 2 ^ b = 2 ^ a * 2 ^ (b - a) := by rw [← Nat.pow_add]; congr 1; omega
theorem wb_lt2 {a b : Nat} (h : a < b) : 2 ^ a < 2 ^ b := Nat.pow_lt_pow_right (by decide) h
theorem wb_mod (n : Nat) : lN n = lN (n % 2 ^ 64) := wb_inj (by rw [wb_tb, wb_tb]; apply BitVec.eq_of_toNat_eq; rw [BitVec.toNat_ofNat, BitVec.toNat_ofNat, Nat.mod_mod])
theorem wb_shr {n k : Nat} (hn : n < 2 ^ 64) (hk : k < 64) : ((lN n).toUInt64 >>> ((nI k).toInt64.toUInt64 &&& Int64.toUInt64 63)).toInt64 = lN (n / 2 ^ k) := by
  rw [wb_cu k hk]
  apply wb_inj
  apply BitVec.eq_of_toNat_eq
  show ((lN n).toUInt64 >>> UInt64.ofNat k).toNat = (BitVec.ofNat 64 _).toNat
  have h1 : (UInt64.ofNat k).toNat = k := by
    show (BitVec.ofNat 64 k).toNat = k
    rw [BitVec.toNat_ofNat, Nat.mod_eq_of_lt (by omega)]
  have h2 : (lN n).toUInt64.toNat = n := wb_tn hn
  rw [UInt64.toNat_shiftRight, h1, h2, Nat.mod_eq_of_lt hk, Nat.shiftRight_eq_div_pow, BitVec.toNat_ofNat, Nat.mod_eq_of_lt (Nat.lt_of_le_of_lt (Nat.div_le_self _ _) hn)]
theorem wb_shl (n : Nat) {k : Nat} (hk : k < 64) : lN n <<< ((nI k).toInt64 &&& 63) = lN (n * 2 ^ k) := by
  rw [wb_c k hk]
  apply wb_inj
  rw [Int64.toBitVec_shiftLeft, wb_tb, wb_tb, wb_tb, wb_sm k hk]
  apply BitVec.eq_of_toNat_eq
  rw [BitVec.shiftLeft_eq', BitVec.toNat_shiftLeft, BitVec.toNat_ofNat, BitVec.toNat_ofNat, BitVec.toNat_ofNat, Nat.mod_eq_of_lt (show k < 2 ^ 64 by omega), Nat.shiftLeft_eq, Nat.mul_mod, Nat.mod_mod, ← Nat.mul_mod]
theorem wb_and {a b : Nat} (ha : a < 2 ^ 64) (hb : b < 2 ^ 64) : lN a &&& lN b = lN (a &&& b) := by
  apply wb_inj
  rw [Int64.toBitVec_and, wb_tb, wb_tb, wb_tb]
  apply BitVec.eq_of_toNat_eq
  rw [BitVec.toNat_and, BitVec.toNat_ofNat, BitVec.toNat_ofNat, BitVec.toNat_ofNat, Nat.mod_eq_of_lt ha, Nat.mod_eq_of_lt hb, Nat.mod_eq_of_lt (Nat.and_lt_two_pow _ hb)]
theorem wb_or {a b : Nat} (ha : a < 2 ^ 64) (hb : b < 2 ^ 64) : lN a ||| lN b = lN (a ||| b) := by
  apply wb_inj
  rw [Int64.toBitVec_or, wb_tb, wb_tb, wb_tb]
  apply BitVec.eq_of_toNat_eq
  rw [BitVec.toNat_or, BitVec.toNat_ofNat, BitVec.toNat_ofNat, BitVec.toNat_ofNat, Nat.mod_eq_of_lt ha, Nat.mod_eq_of_lt hb, Nat.mod_eq_of_lt (Nat.or_lt_two_pow ha hb)]
theorem wb_mask {n k : Nat} (hn : n < 2 ^ 64) (hk : k < 64) : lN n &&& lN (2 ^ k - 1) = lN (n % 2 ^ k) := by
  rw [wb_and hn (by have := wb_lt2 hk; omega), Nat.and_two_pow_sub_one_eq_mod]
theorem wb_a1 {n : Nat} (hn : n < 2 ^ 64) : lN n &&& 1 = lN (n % 2) := wb_mask (k := 1) hn (by decide)
/-! the bytes of a word -/
theorem zsh_0 (w : Int64) : zsh w 0 = w := by
  obtain ⟨n, hn, rfl⟩ := wb_of w
  exact (wb_shr hn (k := 0) (by decide)).trans (by rw [Nat.pow_zero, Nat.div_one])
theorem zsh_s {w : Int64} {j : Nat} (hj : j + 1 < 8) : ((zsh w j).toUInt64 >>> ((8 : Int32).toInt64.toUInt64 &&& Int64.toUInt64 63)).toInt64 = zsh w (j + 1) := by
  obtain ⟨n, hn, rfl⟩ := wb_of w
  have h1 : zsh (lN n) j = lN (n / 2 ^ (8 * j)) := wb_shr hn (by omega)
  have h2 : zsh (lN n) (j + 1) = lN (n / 2 ^ (8 * (j + 1))) := wb_shr hn (by omega)
  rw [h1, h2]
  refine (wb_shr (k := 8) (Nat.lt_of_le_of_lt (Nat.div_le_self _ _) hn) (by decide)).trans ?_
  rw [Nat.div_div_eq_div_mul, ← Nat.pow_add, show 8 * j + 8 = 8 * (j + 1) by omega]
theorem zby_of {w : Int64} {j : Nat} (hj : j < 8) : ∃ m, m < 256 ∧ zsh w j &&& 255 = lN m := by
  obtain ⟨n, hn, rfl⟩ := wb_of w
  have h1 : zsh (lN n) j = lN (n / 2 ^ (8 * j)) := wb_shr hn (by omega)
  rw [h1]
  exact ⟨n / 2 ^ (8 * j) % 2 ^ 8, Nat.mod_lt _ (by decide), wb_mask (k := 8) (Nat.lt_of_le_of_lt (Nat.div_le_self _ _) hn) (by decide)⟩
theorem zlk_iff {w : Int64} {j : Nat} (hj : j < 8) : zlk w j = true ↔ (97 : Int64) ≤ zsh w j &&& 255 ∧ zsh w j &&& 255 ≤ 122 := by
  obtain ⟨m, hm, e⟩ := zby_of (w := w) hj
  have h1 : (nI m - 97).toInt = (m : Int) - 97 := pk_sub_toInt (a := m) (b := 97) (by omega) (by omega)
  unfold zlk zlt
  rw [e, lN_i, Bool.and_eq_true, decide_eq_true_iff, decide_eq_true_iff, Int32.le_iff_toInt_le, Int32.lt_iff_toInt_lt, h1, show (97 : Int64) = lN 97 from rfl, show (122 : Int64) = lN 122 from rfl, lN_le (by omega) (by omega), lN_le (by omega) (by omega), show (0 : Int32).toInt = 0 from rfl, show (26 : Int32).toInt = 26 from rfl]
  omega
theorem zlk_lo {w : Int64} {j : Nat} (hj : j < 8) (h : zsh w j &&& 255 < 97) : zlk w j = false := by
  cases hx : zlk w j
  · rfl
  · exact absurd h (Int64.not_lt.mpr ((zlk_iff hj).mp hx).1)
theorem zlk_hi {w : Int64} {j : Nat} (hj : j < 8) (h : ¬ zsh w j &&& 255 ≤ 122) : zlk w j = false := by
  cases hx : zlk w j
  · rfl
  · exact absurd ((zlk_iff hj).mp hx).2 h
theorem zlk_in {w : Int64} {j : Nat} (hj : j < 8) (h : ¬ zsh w j &&& 255 < 97) (h2 : zsh w j &&& 255 ≤ 122) : zlk w j = true := (zlk_iff hj).mpr ⟨Int64.not_lt.mp h, h2⟩
theorem zsz_gt {w : Int64} {j : Nat} (hj : j < 8) (h : ¬ zsh w j = 0) (e : zszA w (8 - j) j = zsz w) : j < zsz w := by
  rw [← e, zszA_step hj h]
  exact zszA_ge w _ _
theorem zokA_at {w : Int64} {j : Nat} : ∀ {n : Nat}, zokA w n = true → j < n → zlk w j = true
  | 0, _, h => absurd h (Nat.not_lt_zero j)
  | n + 1, h, hj => by
    unfold zokA at h
    rw [Bool.and_eq_true] at h
    rcases Nat.lt_or_ge j n with q | q
    · exact zokA_at h.1 q
    · obtain rfl : j = n := by omega
      exact h.2
theorem zok_f {w : Int64} {j : Nat} (hj : j < zsz w) (h : zlk w j = false) : zok w = false := by
  cases hx : zok w
  · rfl
  · unfold zok at hx
    rw [Bool.and_eq_true] at hx
    rw [zokA_at hx.2 hj] at h
    exact absurd h (by decide)
theorem zok_0 {w : Int64} (h : w = 0) : zok w = false := by
  unfold zok
  rw [decide_eq_false (fun hh => hh h), Bool.false_and]
theorem zok_t {w : Int64} (h : ¬ w = 0) (h2 : zokA w (zsz w) = true) : zok w = true := by
  unfold zok
  rw [decide_eq_true h, h2]; rfl
theorem zokA_s {w : Int64} {j : Nat} (h : zokA w j = true) (h2 : zlk w j = true) : zokA w (j + 1) = true := by
  unfold zokA
  rw [h, h2]; rfl
/-- a letter as a number -/
def zln (w : Int64) (j : Nat) : Nat := (zlt w j).toNatClampNeg
theorem zln_of {w : Int64} {j : Nat} (h : zlk w j = true) : zlt w j = nI (zln w j) ∧ zln w j < 26 := by
  unfold zlk at h
  rw [Bool.and_eq_true, decide_eq_true_iff, decide_eq_true_iff, Int32.le_iff_toInt_le, Int32.lt_iff_toInt_lt] at h
  obtain ⟨k, hk, e⟩ := vp_in_of (x := zlt w j) (n := 26) (vp_in_iff.mpr ⟨h.1, h.2⟩) (by decide)
  have e2 : zln w j = k := by unfold zln; rw [e, nI_clamp (by omega)]
  rw [e2]; exact ⟨e, hk⟩
theorem zok_ln {w : Int64} {j : Nat} (h : zok w = true) (hj : j < zsz w) : zlt w j = nI (zln w j) ∧ zln w j < 26 := by
  unfold zok at h
  rw [Bool.and_eq_true] at h
  exact zln_of (zokA_at h.2 hj)
theorem zok_pos {w : Int64} (h : zok w = true) : 0 < zsz w := by
  unfold zok at h
  rw [Bool.and_eq_true, decide_eq_true_iff] at h
  refine zsz_gt (j := 0) (by decide) ?_ rfl
  rw [zsh_0]; exact h.1
/-! the digest, pieces; the plateau -/
def zdN (f : Nat → Int32) (d : Int64) : Nat → Int64
  | 0 => d
  | k + 1 => zmx (zdN f d k) (f k).toInt64
def zd4 (mc : Nat → Int32) (d : Int64) : Int64 := zmx (zmx (zmx (zmx d (mc 1).toInt64) (mc 2).toInt64) (mc 3).toInt64) (mc 4).toInt64
def zdL (run : Bool) (nu : Nat → Int32) (wc tr : Nat) (d : Int64) : Int64 := zsel run (zmx (zdN nu (zmx (zmx d 1) (nI wc).toInt64) wc) (nI tr).toInt64) (zmx d 0)
def zpl (yl yt : Nat → Int32) (co : Nat) : Bool := decide (6 ≤ co) && decide (zgs yl yt (co - 3) (co - (co - 3)) ≤ zgs yl yt (co - 6) (co - 3 - (co - 6)))
theorem zle0 {x : Int32} (h : ∃ k, k < 2147483648 ∧ x = nI k) (h2 : x ≤ 0) : x = 0 := by
  obtain ⟨k, hk, rfl⟩ := h
  have h3 := (nI_leI (a := k) (b := 0) hk (by omega)).mp h2
  obtain rfl : k = 0 := by omega
  rfl
theorem znle0 {x : Int32} (h : ¬ x ≤ 0) : ¬ x = 0 := fun e => h (by rw [e]; decide)
theorem zoT_wc {L : Nat → Int64} {n : Nat} {kl pt pl : Nat → Int32} {s : zLs} : ∀ j, (zoT L n kl pt pl s j).2.2.2.2.1 ≤ s.2.2.2.2.1 + j
  | 0 => Nat.le_refl _
  | j + 1 => by
    unfold zoT
    have ih := zoT_wc (L := L) (n := n) (kl := kl) (pt := pt) (pl := pl) (s := s) j
    by_cases h : zpT L n kl pt pl (zoT L n kl pt pl s j) = -1
    · rw [if_pos h]; omega
    · rw [if_neg h]
      show (zoT L n kl pt pl s j).2.2.2.2.1 + 1 ≤ _
      omega
theorem zoT_lc {L : Nat → Int64} {n : Nat} {kl pt pl : Nat → Int32} {s : zLs} (hs : s.2.2.2.2.2 ≤ 8 * s.2.2.2.2.1) : ∀ j, (zoT L n kl pt pl s j).2.2.2.2.2 ≤ 8 * (zoT L n kl pt pl s j).2.2.2.2.1
  | 0 => hs
  | j + 1 => by
    unfold zoT
    have ih := zoT_lc (L := L) (n := n) (kl := kl) (pt := pt) (pl := pl) (s := s) hs j
    by_cases h : zpT L n kl pt pl (zoT L n kl pt pl s j) = -1
    · rw [if_pos h]; exact ih
    · rw [if_neg h]
      have h8 := zsz_le (L (zpT L n kl pt pl (zoT L n kl pt pl s j)).toNatClampNeg)
      show (zoT L n kl pt pl s j).2.2.2.2.2 + zsz _ ≤ 8 * ((zoT L n kl pt pl s j).2.2.2.2.1 + 1)
      omega
