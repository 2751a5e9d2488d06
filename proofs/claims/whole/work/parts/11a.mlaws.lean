/-! the reference's history grows: a new row, the old one's numbers in it -/
theorem zcA_int {D : va_G} {cI cJ cZ cA : ClassId} {s : State} (hK : va_K D vwCl (zTy cI cJ cZ) s) (h9 : va_K D vwCl (zTy cI cJ cZ ++ [(cA, .int)]) s) : cI = cA :=
  Option.some.inj ((va_nm_int (hK.2 0 _ rfl).2).symm.trans (va_nm_int (h9.2 3 _ rfl).2))
theorem zcA_long {D : va_G} {cI cJ cZ cA : ClassId} {s : State} (hK : va_K D vwCl (zTy cI cJ cZ) s) (h9 : va_K D vwCl (zTy cI cJ cZ ++ [(cA, .long)]) s) : cJ = cA :=
  Option.some.inj ((va_nm_long (hK.2 1 _ rfl).2).symm.trans (va_nm_long (h9.2 3 _ rfl).2))
theorem zcA_bool {D : va_G} {cI cJ cZ cA : ClassId} {s : State} (hK : va_K D vwCl (zTy cI cJ cZ) s) (h9 : va_K D vwCl (zTy cI cJ cZ ++ [(cA, .boolean)]) s) : cZ = cA :=
  Option.some.inj ((va_nm_boolean (hK.2 2 _ rfl).2).symm.trans (va_nm_boolean (h9.2 3 _ rfl).2))
def zh9 (h : Nat → Nat) (q : Nat) : Nat → Nat := fun k => if k = 9 then q else h k
def zh3 (f : Nat → Int32) (co a b c : Nat) : Nat → Int32 := upd (upd (upd f (3 * co) (nI a)) (3 * co + 1) (nI b)) (3 * co + 2) (nI c)
abbrev zyn (g : Bool) (yn : Nat) : Nat := zsel g (2 * yn) yn
abbrev zyh (g : Bool) (yh : Nat → Int32) (yn : Nat) : Nat → Int32 := zsel g (va_cpy yh (fun _ => 0) 0 0 yn) yh
/-- the class's digest, whole -/
theorem zmx_def (d x : Int64) : d * 31 + x = zmx d x := rfl
/-! the accuracy: a division that makes no NaN -/
theorem zddiv (a b : Int32) (hb : ¬ b = 0) : vf_n64 (FP.ddiv (FP.i2d a) (FP.i2d b)) := by
  have h1 : Jvm.FP.Core.dIsNaN (Jvm.FP.Core.ddiv (Jvm.FP.Core.i2d a) (Jvm.FP.Core.i2d b)) = false :=
    Jvm.FP.Core.ddiv_out (Jvm.FP.Core.DFin.notNaN (Jvm.FP.Core.i2d_fin a)) (Jvm.FP.Core.i2d_fin b) (fun hz => Jvm.FP.Core.i2d_ne_zero hb ((Jvm.FP.Core.zero_bits2 _).mp hz))
  have h2 : ¬ 9218868437227405312 < (FP.ddiv (FP.i2d a) (FP.i2d b)).toNat % 2 ^ 63 := fun h => by
    have h3 := (Jvm.FP.Core.isNaN_bits (Jvm.FP.Core.ddiv (Jvm.FP.Core.i2d a) (Jvm.FP.Core.i2d b))).mpr h
    rw [h1] at h3; cases h3
  unfold vf_n64
  rw [UInt64.le_iff_toNat_le, UInt64.toNat_and]
  have h4 : (FP.ddiv (FP.i2d a) (FP.i2d b)).toNat &&& (9223372036854775807 : UInt64).toNat = (FP.ddiv (FP.i2d a) (FP.i2d b)).toNat % 2 ^ 63 := by
    rw [show (9223372036854775807 : UInt64).toNat = 2 ^ 63 - 1 from by decide, Nat.and_two_pow_sub_one_eq_mod]
  rw [h4]
  show _ ≤ 9218868437227405312
  omega
def zac (su sc : Nat) : UInt64 := if 0 < su then FP.ddiv (FP.i2d (nI sc)) (FP.i2d (nI su)) else FP.dconst1
def zSum (f : Nat → Int32) : Nat → Int32
  | 0 => 0
  | k + 1 => zSum f k + f k
section ZCD
variable {p : Program} {l : Launch} {e : Env} {R : Room} {s : State} {m : MethodId} {args : Array Value} {below : List Frame} {meth : Method} {c : Code} {H H0 : Heap} {locs : List Loc} {cells slots mc ms : Nat} {Q : State → Prop}
variable {pc : Nat} {ls : Array Slot} {rest st0 : List Value} {B : Nat} {D : va_G} {W' : va_W} {a : Array Value}
theorem zcd {v : UInt64} (hr : va_Run p l e R s m args below meth c H locs cells slots mc ms (F0 m pc ls st0) rest (zQd B D W' v a) (zAb B)) (hS : va_S (zAb B) H0 H locs)
    (kk : ∀ (H1 : Heap) (locs1 : List Loc), va_P D vwCl W' H1 → va_D (zAb B) W' → va_S (zAb B) H0 H1 locs1 → W p l e R s m args below meth c H1 locs1 (cells + mc) (slots + ms) Q (F0 m (pc + 3) ls (.double v :: rest))) : W p l e R s m args below meth c H locs cells slots Q (F0 m pc ls st0) :=
  va_calld hr hS (fun _ _ h => h) (fun _ h => h) (fun r u t H1 locs1 ht hvm hw hB hz hk hS1 => by
    have hw : r = v := hw
    subst hw; subst ht; exact kk _ _ hB.1 hB.2 hS1)
end ZCD
/-! the lesson being made, the reference's -/
theorem zoM_stop {L : Nat → Int64} {n : Nat} {kl pt pl : Nat → Int32} {s : zMs} {j : Nat} (h : ¬ (zoM L n kl pt pl s j).2.2.2.1 < n) : ∀ k, zoM L n kl pt pl s (j + k) = zoM L n kl pt pl s j
  | 0 => rfl
  | k + 1 => by
    show zoM L n kl pt pl s ((j + k) + 1) = _
    rw [zoM, zoM_stop h k, if_neg h]
theorem zoM_step {L : Nat → Int64} {n : Nat} {kl pt pl : Nat → Int32} {s : zMs} {j k : Nat} (hk : k < 2147483648) (h : zpM L n kl pt pl (zoM L n kl pt pl s j) = nI k) (hw : (zoM L n kl pt pl s j).2.2.2.1 < n) : zoM L n kl pt pl s (j + 1) = zpu (zoM L n kl pt pl s j) (nI k) (L k) := by
  rw [zoM, h, if_pos hw, nI_clamp hk]
theorem zoM_wc {L : Nat → Int64} {n : Nat} {kl pt pl : Nat → Int32} {s : zMs} : ∀ j, (zoM L n kl pt pl s j).2.2.2.1 ≤ s.2.2.2.1 + j
  | 0 => Nat.le_refl _
  | j + 1 => by
    unfold zoM
    have ih := zoM_wc (L := L) (n := n) (kl := kl) (pt := pt) (pl := pl) (s := s) j
    by_cases h : (zoM L n kl pt pl s j).2.2.2.1 < n
    · rw [if_pos h]
      show (zoM L n kl pt pl s j).2.2.2.1 + 1 ≤ _
      omega
    · rw [if_neg h]; omega
theorem zoM_lc {L : Nat → Int64} {n : Nat} {kl pt pl : Nat → Int32} {s : zMs} (hs : s.2.2.2.2 ≤ 8 * s.2.2.2.1) : ∀ j, (zoM L n kl pt pl s j).2.2.2.2 ≤ 8 * (zoM L n kl pt pl s j).2.2.2.1
  | 0 => hs
  | j + 1 => by
    unfold zoM
    have ih := zoM_lc (L := L) (n := n) (kl := kl) (pt := pt) (pl := pl) (s := s) hs j
    by_cases h : (zoM L n kl pt pl s j).2.2.2.1 < n
    · rw [if_pos h]
      have h8 := zsz_le (L (zpM L n kl pt pl (zoM L n kl pt pl s j)).toNatClampNeg)
      show (zoM L n kl pt pl s j).2.2.2.2 + zsz _ ≤ 8 * ((zoM L n kl pt pl s j).2.2.2.1 + 1)
      omega
    · rw [if_neg h]; exact ih
theorem zhw_ex {nu : Nat → Int32} {x : Int32} : ∀ {n : Nat}, zhw nu x n = true → ∃ a, a < n ∧ nu a = x
  | 0, h => nomatch h
  | n + 1, h => by
    unfold zhw at h
    rw [Bool.or_eq_true] at h
    rcases h with h | h
    · obtain ⟨a, h1, h2⟩ := zhw_ex h
      exact ⟨a, by omega, h2⟩
    · exact ⟨n, by omega, of_decide_eq_true h⟩
/-- n different numbers below m: n ≤ m -/
theorem zholes : ∀ (m n : Nat) (f : Nat → Nat), (∀ i, i < n → f i < m) → (∀ i j, i < j → j < n → f i ≠ f j) → n ≤ m
  | 0, n, f, h1, _ => by
    rcases Nat.eq_zero_or_pos n with h | h
    · omega
    · exact absurd (h1 0 h) (Nat.not_lt_zero _)
  | m + 1, n, f, h1, h2 => by
    rcases Nat.eq_zero_or_pos n with h | h
    · omega
    · obtain ⟨n, rfl⟩ : ∃ z, n = z + 1 := ⟨n - 1, by omega⟩
      -- the last one's place is taken out
      have ih := zholes m n (fun i => if f i < f n then f i else f i - 1) (fun i hi => by
        have h3 := h1 i (by omega)
        have h4 := h1 n (by omega)
        have h5 := h2 i n hi (by omega)
        show (if f i < f n then f i else f i - 1) < m
        by_cases c : f i < f n
        · rw [if_pos c]; omega
        · rw [if_neg c]; omega) (fun i j hij hj => by
        have h3 := h2 i j hij (by omega)
        have h5 := h2 i n (by omega) (by omega)
        have h6 := h2 j n hj (by omega)
        show (if f i < f n then f i else f i - 1) ≠ (if f j < f n then f j else f j - 1)
        by_cases c : f i < f n
        · by_cases d : f j < f n
          · rw [if_pos c, if_pos d]; exact h3
          · rw [if_pos c, if_neg d]; omega
        · by_cases d : f j < f n
          · rw [if_neg c, if_pos d]; omega
          · rw [if_neg c, if_neg d]; omega)
      omega
theorem zpk_some {nu : Nat → Int32} {wc n : Nat} {wt : Nat → Int32} (hn : n < 2147483648) (h : wc < n) : ¬ (zpk (fun k => zhw nu (nI k) wc) wt n).1 = -1 := fun e => by
  have h1 := zpk_none (fun k => zhw nu (nI k) wc) wt n hn e
  have h2 : ∀ k, ∃ a, k < n → (a < wc ∧ nu a = nI k) := fun k => by
    by_cases hk : k < n
    · obtain ⟨a, h3, h4⟩ := zhw_ex (h1 k hk)
      exact ⟨a, fun _ => ⟨h3, h4⟩⟩
    · exact ⟨0, fun q => absurd q hk⟩
  obtain ⟨f, hf⟩ := Classical.axiomOfChoice h2
  have h3 := zholes wc n f (fun i hi => (hf i hi).1) (fun i j hij hj e => by
    have h4 := (hf i (by omega)).2
    have h5 := (hf j hj).2
    rw [e, h5] at h4
    exact absurd ((nI_eq (by omega) (by omega)).mp h4) (by omega))
  omega
