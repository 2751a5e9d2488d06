/-! what holds between two calls, j calls made -/
def zInv (j n : Nat) (L : Nat → Int64) (pt le ow af : Nat → Int32) (run : Bool) (wc lc tr cl tm ms : Nat) (yl yc yt : Nat → Int32) (co yn su sc : Nat) (yh : Nat → Int32) : Prop :=
  (n ≤ 40 ∧ ∀ k, k < n → zok (L k) = true) ∧ (wc ≤ 6 ∧ lc ≤ 48 ∧ tr ≤ lc ∧ cl ≤ tr ∧ ms ≤ 1) ∧ (run = true → tr < lc) ∧ (∀ k, k < lc → ∃ x, x < 26 ∧ le k = nI x) ∧ zMk af ow lc ∧
  (2 * co + (zsel run 1 0) ≤ j ∧ tm ≤ 5000 * j) ∧ (zHi yh yl yc yt co ∧ 3 * co ≤ yn ∧ yn ≤ 1530 ∧ 12 ≤ yn ∧ yn % 3 = 0) ∧ (∀ k, k < co → ∃ a, a ≤ 48 ∧ yl k = nI a ∧ ∃ b, b < 2147483648 ∧ yt k = nI b) ∧ (zSum yl co = nI su ∧ zSum yc co = nI sc ∧ su ≤ 48 * co) ∧ ∀ p, p < 676 → ∃ k, k ≤ j ∧ pt p = nI k
section ZI
variable {j n : Nat} {L : Nat → Int64} {pt le ow af : Nat → Int32} {run : Bool} {wc lc tr cl tm ms : Nat} {yl yc yt : Nat → Int32} {co yn su sc : Nat} {yh : Nat → Int32}
theorem zInv.mono (h : zInv j n L pt le ow af run wc lc tr cl tm ms yl yc yt co yn su sc yh) : zInv (j + 1) n L pt le ow af run wc lc tr cl tm ms yl yc yt co yn su sc yh := by
  obtain ⟨h1, h2, h3, h4, h5, h6, h7, h8, h9, h10⟩ := h
  refine ⟨h1, h2, h3, h4, h5, ⟨Nat.le_succ_of_le h6.1, by have := h6.2; omega⟩, h7, h8, h9, fun p hp => ?_⟩
  obtain ⟨k, hk, e⟩ := h10 p hp
  exact ⟨k, by omega, e⟩
theorem zInv.add {w : Int64} (h : zInv j n L pt le ow af run wc lc tr cl tm ms yl yc yt co yn su sc yh) (hz : zok w = true) (hn : n < 40) : zInv (j + 1) (n + 1) (vp_updL L n w) pt le ow af run wc lc tr cl tm ms yl yc yt co yn su sc yh := by
  obtain ⟨h1, h2⟩ := h.mono
  refine ⟨⟨by omega, fun k hk => ?_⟩, h2⟩
  by_cases c : k = n
  · rw [c, pk_uLs]; exact hz
  · rw [pk_uLn c]; exact h1.2 k (by omega)
theorem zInv.give (h : zInv j n L pt le ow af true wc lc tr cl tm ms yl yc yt co yn su sc yh) : zInv (j + 1) n L pt le ow af false wc lc tr cl tm ms yl yc yt co yn su sc yh := by
  obtain ⟨h1, h2, h3, h4, h5, h6, h7⟩ := h.mono
  have h61 : 2 * co + 1 ≤ j + 1 := h6.1
  exact ⟨h1, h2, (fun (q : false = true) => Bool.noConfusion q), h4, h5, ⟨show 2 * co + 0 ≤ j + 1 by omega, h6.2⟩, h7⟩
/-- a lesson made: its rows are as the relation has them -/
theorem zInv.oped {t : zLs} {m : zMs} (h : zInv j n L pt le ow af false wc lc tr cl tm ms yl yc yt co yn su sc yh) (hr : zRl L n t m) (hw : t.2.2.2.2.1 ≤ 6) (hp : 0 < t.2.2.2.2.1) :
    zInv (j + 1) n L pt t.2.1 t.2.2.1 m.2.2.1 true t.2.2.2.2.1 t.2.2.2.2.2 0 0 0 0 yl yc yt co yn su sc yh := by
  obtain ⟨h1, h2, h3, h4, h5, h6, h7, h8, h9, h10⟩ := h.mono
  obtain ⟨r1, r2, r3, r4, r5, r6, r7, r8, r9, r10, r11, r12⟩ := hr
  have h61 : 2 * co + 0 ≤ j := h.2.2.2.2.2.1.1
  exact ⟨h1, ⟨hw, by omega, Nat.zero_le _, Nat.le_refl _, Nat.zero_le _⟩, fun _ => by omega, r7, r5, ⟨show 2 * co + 1 ≤ j + 1 by omega, Nat.zero_le _⟩, h7, h8, h9, h10⟩
theorem zInv.opedW {k : Nat} {nu fo : Nat → Int32} (h : zInv j n L pt le ow af false wc lc tr cl tm ms yl yc yt co yn su sc yh) (hk : k < n) :
    zInv (j + 1) n L pt (zale le 0 (L k) (zsz (L k))) (zaow ow 0 0 (zsz (L k))) (zaaf af 0 (zsz (L k))) true (0 + 1) (0 + zsz (L k)) 0 0 0 0 yl yc yt co yn su sc yh := by
  have hz := h.1.2 k hk
  have hn := h.1.1
  have hr : zRl L n (zap (nu, le, ow, zfil 26 0 fo, 0, 0) (nI k) (L k)) (zpu (nu, le, af, 0, 0) (nI k) (L k)) := zRl_put (Nat.zero_le _) zRl_0 hk hn hz (fun a ha => absurd ha (Nat.not_lt_zero a))
  exact h.oped hr (show 0 + 1 ≤ 6 by decide) (Nat.succ_pos 0)
theorem zInv.pts {f : Nat → Int32} {q : Nat} (h10 : ∀ p, p < 676 → ∃ k, k ≤ j ∧ f p = nI k) : ∀ p, p < 676 → ∃ k, k ≤ j + 1 ∧ zkt f q p = nI k := by
  intro p hp
  obtain ⟨k, hk, e⟩ := h10 p hp
  by_cases c : p = q
  · exact ⟨k + 1, by omega, by rw [c, zkt, pk_us, ← c, e, ← nI_1]⟩
  · exact ⟨k, by omega, by rw [zkt, pk_un c, e]⟩
theorem zInv.pto {f : Nat → Int32} {x : Nat} {o : Option Nat} (h10 : ∀ p, p < 676 → ∃ k, k ≤ j ∧ f p = nI k) : ∀ p, p < 676 → ∃ k, k ≤ j + 1 ∧ zou o x f (zkt f) p = nI k := by
  cases o with
  | none => exact fun p hp => let ⟨k, hk, e⟩ := h10 p hp; ⟨k, Nat.le_succ_of_le hk, e⟩
  | some y => exact zInv.pts h10
theorem zh3_lo {f : Nat → Int32} {co a b c i : Nat} (h : i < 3 * co) : zh3 f co a b c i = f i := by
  unfold zh3
  rw [pk_un (by omega), pk_un (by omega), pk_un (by omega)]
theorem zyh_lo {g : Bool} {i : Nat} (h : i < 3 * co) (hy : 3 * co ≤ yn) : zyh g yh yn i = yh i := by
  cases g
  · rfl
  · show va_cpy yh (fun _ => 0) 0 0 yn i = yh i
    exact zcpy_in (by omega)
theorem zSum_upd {f : Nat → Int32} {x : Int32} : ∀ {k : Nat}, k ≤ co → zSum (upd f co x) k = zSum f k
  | 0, _ => rfl
  | k + 1, h => by rw [zSum, zSum, zSum_upd (by omega), pk_un (by omega)]
/-- a stroke after which no letter is tried -/
theorem zInv.slip {time : Nat} (h : zInv j n L pt le ow af true wc lc tr cl tm ms yl yc yt co yn su sc yh) (hms : ms = 0) (ht : time ≤ 5000) : zInv (j + 1) n L pt le ow af true wc lc tr cl (tm + time) (ms + 1) yl yc yt co yn su sc yh := by
  obtain ⟨h1, h2, h3, h4, h5, h6, h7, h8, h9, h10⟩ := h.mono
  have h62 := h.2.2.2.2.2.1.2
  exact ⟨h1, ⟨h2.1, h2.2.1, h2.2.2.1, h2.2.2.2.1, by omega⟩, h3, h4, h5, ⟨h6.1, by omega⟩, h7, h8, h9, h10⟩
/-- a stroke after which a letter is tried -/
theorem zInv.tried {time x ms' : Nat} {o : Option Nat} {fin g : Bool} (h : zInv j n L pt le ow af true wc lc tr cl tm ms yl yc yt co yn su sc yh) (ht1 : 1 ≤ time) (ht : time ≤ 5000) (hj : j ≤ 511) (hf : zsel fin (tr + 1 = lc) (tr + 1 < lc)) (hg : zsel g (3 * co = yn) (3 * co + 3 ≤ yn)) :
    zInv (j + 1) n L (zou o x pt (zkt pt)) le ow af (zsel fin false true) wc lc (tr + 1) (zsel (zc0 ms') (cl + 1) cl) (tm + time) 0 (zsel fin (upd yl co (nI lc)) yl) (zsel fin (upd yc co (nI (zsel (zc0 ms') (cl + 1) cl))) yc) (zsel fin (upd yt co (nI (tm + time))) yt) (zsel fin (co + 1) co) (zsel fin (zyn g yn) yn) (zsel fin (su + lc) su) (zsel fin (sc + zsel (zc0 ms') (cl + 1) cl) sc) (zsel fin (zh3 (zyh g yh yn) co lc (zsel (zc0 ms') (cl + 1) cl) (tm + time)) yh) := by
  obtain ⟨h1, ⟨h21, h22, h23, h24, h25⟩, h3, h4, h5, ⟨h61, h62⟩, ⟨h71, h72, h73, h74, h75⟩, h8, ⟨h91, h92, h93⟩, h10⟩ := h
  have h61 : 2 * co + 1 ≤ j := h61
  have hcl : zsel (zc0 ms') (cl + 1) cl ≤ cl + 1 := by cases zc0 ms' <;> simp [zsel]
  have htr := h3 rfl
  cases fin
  · have hf : tr + 1 < lc := hf
    exact ⟨h1, ⟨h21, h22, by omega, by omega, Nat.zero_le _⟩, fun _ => hf, h4, h5, ⟨show 2 * co + 1 ≤ j + 1 by omega, by omega⟩, ⟨h71, h72, h73, h74, h75⟩, h8, ⟨h91, h92, h93⟩, zInv.pto h10⟩
  · have hf : tr + 1 = lc := hf
    have hy : 3 * (co + 1) ≤ zyn g yn ∧ zyn g yn ≤ 1530 ∧ 12 ≤ zyn g yn ∧ zyn g yn % 3 = 0 := by
      cases g
      · have hg : 3 * co + 3 ≤ yn := hg
        exact ⟨show 3 * (co + 1) ≤ yn by omega, h73, h74, h75⟩
      · have hg : 3 * co = yn := hg
        exact ⟨show 3 * (co + 1) ≤ 2 * yn by omega, show 2 * yn ≤ 1530 by omega, show 12 ≤ 2 * yn by omega, show 2 * yn % 3 = 0 by omega⟩
    refine ⟨h1, ⟨h21, h22, by omega, by omega, Nat.zero_le _⟩, (fun (q : false = true) => Bool.noConfusion q), h4, h5, ⟨show 2 * (co + 1) + 0 ≤ j + 1 by omega, by omega⟩, ⟨?_, hy⟩, ?_, ⟨?_, ?_, ?_⟩, zInv.pto h10⟩
    · intro k hk
      have hk : k < co + 1 := hk
      show zh3 (zyh g yh yn) co lc (zsel (zc0 ms') (cl + 1) cl) (tm + time) (3 * k) = upd yl co (nI lc) k ∧ zh3 (zyh g yh yn) co lc (zsel (zc0 ms') (cl + 1) cl) (tm + time) (3 * k + 1) = upd yc co (nI (zsel (zc0 ms') (cl + 1) cl)) k ∧ zh3 (zyh g yh yn) co lc (zsel (zc0 ms') (cl + 1) cl) (tm + time) (3 * k + 2) = upd yt co (nI (tm + time)) k ∧ 0 < upd yt co (nI (tm + time)) k
      by_cases c : k = co
      · subst c
        refine ⟨?_, ?_, ?_, ?_⟩
        · unfold zh3; rw [pk_un (by omega), pk_un (by omega), pk_us, pk_us]
        · unfold zh3; rw [pk_un (by omega), pk_us, pk_us]
        · unfold zh3; rw [pk_us, pk_us]
        · rw [pk_us]; exact nI_lt (a := 0) (show 0 < tm + time by omega) (by omega)
      · have hk2 : k < co := by omega
        rw [zh3_lo (by omega), zh3_lo (by omega), zh3_lo (by omega), zyh_lo (by omega) h72, zyh_lo (by omega) h72, zyh_lo (by omega) h72, pk_un c, pk_un c, pk_un c]
        exact h71 k hk2
    · intro k hk
      have hk : k < co + 1 := hk
      show ∃ a, a ≤ 48 ∧ upd yl co (nI lc) k = nI a ∧ ∃ b, b < 2147483648 ∧ upd yt co (nI (tm + time)) k = nI b
      by_cases c : k = co
      · rw [c, pk_us, pk_us]
        exact ⟨lc, h22, rfl, tm + time, by omega, rfl⟩
      · rw [pk_un c, pk_un c]
        exact h8 k (by omega)
    · show zSum (upd yl co (nI lc)) (co + 1) = nI (su + lc)
      rw [zSum, zSum_upd (Nat.le_refl _), pk_us, h91, nI_add]
    · show zSum (upd yc co (nI (zsel (zc0 ms') (cl + 1) cl))) (co + 1) = nI (sc + zsel (zc0 ms') (cl + 1) cl)
      rw [zSum, zSum_upd (Nat.le_refl _), pk_us, h92, nI_add]
    · show su + lc ≤ 48 * (co + 1)
      omega
theorem zInv.sp (h : zInv j n L pt le ow af run wc lc tr cl tm ms yl yc yt co yn su sc yh) {k : Nat} (hk : k < co) : 0 ≤ zsp yl yt k := by
  obtain ⟨a, ha, e, b, hb, e2⟩ := h.2.2.2.2.2.2.2.1 k hk
  unfold zsp
  rw [e, e2]
  by_cases c : 0 < nI b
  · have hb0 : 0 < b := (nI_ltI (a := 0) (b := b) (by omega) hb).mp c
    rw [if_pos c, show (60000 : Int32) = nI 60000 from rfl, pk_mul, pk_div (by omega) hb0 hb]
    exact nI_pos' (by have := Nat.div_le_self (a * 60000) b; omega)
  · rw [if_neg c]; decide
theorem zInv.hpt (h : zInv j n L pt le ow af run wc lc tr cl tm ms yl yc yt co yn su sc yh) (hj : j ≤ 512) : ∀ p, p < 676 → ∃ k, k < 2147483648 ∧ pt p = nI k := fun p hp => by
  obtain ⟨k, hk, e⟩ := h.2.2.2.2.2.2.2.2.2 p hp
  exact ⟨k, by omega, e⟩
end ZI
theorem zhist_g (co yn : Nat) (h1 : 3 * co ≤ yn) (h2 : yn % 3 = 0) : ∃ g : Bool, zsel g (3 * co = yn) (3 * co + 3 ≤ yn) := by
  by_cases c : 3 * co = yn
  · exact ⟨true, c⟩
  · exact ⟨false, show 3 * co + 3 ≤ yn by omega⟩
theorem zhist_f (tr lc : Nat) (h : tr < lc) : ∃ f : Bool, zsel f (tr + 1 = lc) (tr + 1 < lc) := by
  by_cases c : tr + 1 = lc
  · exact ⟨true, c⟩
  · exact ⟨false, show tr + 1 < lc by omega⟩
