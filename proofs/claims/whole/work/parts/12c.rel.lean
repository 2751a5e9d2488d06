/-! bits of the followers -/
theorem zbit_and (u v w : Int32) : (u ||| v) &&& w = (u &&& w) ||| (v &&& w) := by
  apply Int32.toBitVec_inj.mp
  rw [Int32.toBitVec_and, Int32.toBitVec_or, Int32.toBitVec_or, Int32.toBitVec_and, Int32.toBitVec_and]
  apply BitVec.eq_of_getLsbD_eq
  intro i hi
  simp only [BitVec.getLsbD_and, BitVec.getLsbD_or, Bool.and_or_distrib_right]
theorem zbit_or0 (u v : Int32) : (u ||| v) = 0 ↔ u = 0 ∧ v = 0 := by
  constructor
  · intro h
    have h1 : ∀ i, i < 32 → u.toBitVec.getLsbD i = false ∧ v.toBitVec.getLsbD i = false := fun i hi => by
      have h2 := congrArg (fun z : Int32 => z.toBitVec.getLsbD i) h
      simp only [Int32.toBitVec_or, BitVec.getLsbD_or] at h2
      have h3 : (0 : Int32).toBitVec.getLsbD i = false := by
        rw [show (0 : Int32).toBitVec = 0#32 from rfl, BitVec.getLsbD_zero]
      rw [h3, Bool.or_eq_false_iff] at h2
      exact h2
    refine ⟨Int32.toBitVec_inj.mp (BitVec.eq_of_getLsbD_eq fun i hi => ?_), Int32.toBitVec_inj.mp (BitVec.eq_of_getLsbD_eq fun i hi => ?_)⟩
    · rw [(h1 i hi).1, show (0 : Int32).toBitVec = 0#32 from rfl, BitVec.getLsbD_zero]
    · rw [(h1 i hi).2, show (0 : Int32).toBitVec = 0#32 from rfl, BitVec.getLsbD_zero]
  · rintro ⟨rfl, rfl⟩
    decide
theorem zbit_one : ∀ b, b < 26 → ∀ y, y < 26 → ((((1 : Int32) <<< (nI b &&& 31)) &&& ((1 : Int32) <<< (nI y &&& 31))) = 0 ↔ ¬ y = b) := by decide +kernel
theorem zfh_add {f : Nat → Int32} {a b x y : Nat} (ha : a < 26) (hb : b < 26) (hx : x < 26) (hy : y < 26) :
    zfh (zwr 26 f (nI a) (zrd 26 f (nI a) ||| ((1 : Int32) <<< (nI b &&& 31)))) (nI x) (nI y) = (zfh f (nI x) (nI y) || (decide (a = x) && decide (b = y))) := by
  unfold zfh
  rw [zwr_in ha (by decide), zrd_in ha (by decide), zrd_in hx (by decide), zrd_in hx (by decide)]
  by_cases h : x = a
  · subst h
    rw [pk_us, zbit_and, decide_eq_true (rfl : x = x), Bool.true_and]
    by_cases hyb : b = y
    · subst hyb
      rw [decide_eq_true (rfl : b = b), Bool.or_true]
      refine decide_eq_true (fun hh => ?_)
      exact ((zbit_one b hb b hb).mp ((zbit_or0 _ _).mp hh).2) rfl
    · have h1 := (zbit_one b hb y hy).mpr (fun q => hyb q.symm)
      rw [h1, decide_eq_false hyb, Bool.or_false]
      have h2 : ((f x &&& (1 : Int32) <<< (nI y &&& 31)) ||| 0) = (f x &&& (1 : Int32) <<< (nI y &&& 31)) := by
        apply Int32.toBitVec_inj.mp
        rw [Int32.toBitVec_or, show (0 : Int32).toBitVec = 0#32 from rfl, BitVec.or_zero]
      rw [h2]
  · rw [pk_un h, decide_eq_false (fun q : a = x => h q.symm), Bool.false_and, Bool.or_false]
theorem zfh_0 {f : Nat → Int32} {x y : Nat} (hx : x < 26) : zfh (zfil 26 0 f) (nI x) (nI y) = false := by
  unfold zfh
  rw [zrd_in hx (by decide)]
  refine decide_eq_false (fun h => h ?_)
  rw [show zfil 26 0 f x = 0 from if_pos hx]
  exact Int32.zero_and
/-! pairs among the letters -/
theorem zhp_cong {af af' le le' : Nat → Int32} {x y : Int32} : ∀ {n : Nat}, (∀ k, k ≤ n → af k = af' k ∧ le k = le' k) → zhp af le x y n = zhp af' le' x y n
  | 0, _ => rfl
  | n + 1, h => by
    unfold zhp
    rw [zhp_cong (n := n) (fun k hk => h k (by omega)), (h n (by omega)).2, (h (n + 1) (by omega)).1, (h (n + 1) (by omega)).2]
theorem zale_lo {le : Nat → Int32} {lc k : Nat} {w : Int64} {j : Nat} (h : j < lc) : zale le lc w k j = le j := if_neg (by omega)
theorem zale_in {le : Nat → Int32} {lc k : Nat} {w : Int64} {j : Nat} (h : j < k) : zale le lc w k (lc + j) = zlt w (zsz w - 1 - j) := by
  unfold zale
  rw [if_pos (by omega), Nat.add_sub_cancel_left]
theorem zaaf_lo {af : Nat → Int32} {lc k j : Nat} (h : j < lc) : zaaf af lc k j = af j := if_neg (by omega)
theorem zaaf_0' {af : Nat → Int32} {lc k : Nat} (h : 0 < k) : zaaf af lc k lc = 1 := by
  unfold zaaf
  rw [if_pos (by omega), if_pos rfl]
theorem zaaf_in {af : Nat → Int32} {lc k j : Nat} (h0 : 0 < j) (h : j < k) : zaaf af lc k (lc + j) = 0 := by
  unfold zaaf
  rw [if_pos (by omega), if_neg (by omega)]
theorem zaow_lo {ow : Nat → Int32} {lc wc k j : Nat} (h : j < lc) : zaow ow lc wc k j = ow j := if_neg (by omega)
theorem zaow_in {ow : Nat → Int32} {lc wc k j : Nat} (h : j < k) : zaow ow lc wc k (lc + j) = nI wc := if_pos (by omega)
/-- the followers against the letters, letter by letter of a new word -/
theorem zfo_app {fo af le : Nat → Int32} {lc : Nat} {w : Int64} (hz : zok w = true) (h : ∀ x y, x < 26 → y < 26 → zfh fo (nI x) (nI y) = zhp af le (nI x) (nI y) (lc - 1)) :
    ∀ k, k ≤ zsz w → ∀ x y, x < 26 → y < 26 → zfh (zafo fo w k) (nI x) (nI y) = zhp (zaaf af lc k) (zale le lc w k) (nI x) (nI y) (lc + k - 1)
  | 0, _, x, y, hx, hy => by
    rw [zaaf_0, zale_0]
    exact h x y hx hy
  | 1, hk, x, y, hx, hy => by
    rw [show zafo fo w 1 = fo from rfl, h x y hx hy]
    rcases Nat.eq_zero_or_pos lc with h0 | h0
    · subst h0; rfl
    · rw [show lc + 1 - 1 = (lc - 1) + 1 by omega]
      show _ = (zhp (zaaf af lc 1) (zale le lc w 1) (nI x) (nI y) (lc - 1) || (decide (zaaf af lc 1 (lc - 1 + 1) = 0) && (decide (zale le lc w 1 (lc - 1) = nI x) && decide (zale le lc w 1 (lc - 1 + 1) = nI y))))
      rw [show lc - 1 + 1 = lc by omega, zaaf_0' (by decide), decide_eq_false (show ¬ (1 : Int32) = 0 by decide), Bool.false_and, Bool.or_false]
      exact zhp_cong (af' := zaaf af lc 1) (le' := zale le lc w 1) (fun k hk => ⟨(zaaf_lo (show k < lc by omega)).symm, (zale_lo (show k < lc by omega)).symm⟩)
  | k + 2, hk, x, y, hx, hy => by
    have ih := zfo_app hz h (k + 1) (by omega) x y hx hy
    have ha := zok_ln hz (show zsz w - 1 - k < zsz w by omega)
    have hb := zok_ln hz (show zsz w - 1 - (k + 1) < zsz w by omega)
    rw [show zafo fo w (k + 2) = zwr 26 (zafo fo w (k + 1)) (zlt w (zsz w - 1 - k)) (zrd 26 (zafo fo w (k + 1)) (zlt w (zsz w - 1 - k)) ||| ((1 : Int32) <<< (zlt w (zsz w - 1 - (k + 1)) &&& 31))) from rfl, ha.1, hb.1, zfh_add ha.2 hb.2 hx hy, ih, show lc + (k + 2) - 1 = (lc + k) + 1 by omega, show lc + (k + 1) - 1 = lc + k by omega]
    rw [show zhp (zaaf af lc (k + 2)) (zale le lc w (k + 2)) (nI x) (nI y) (lc + k + 1) = (zhp (zaaf af lc (k + 2)) (zale le lc w (k + 2)) (nI x) (nI y) (lc + k) || (decide (zaaf af lc (k + 2) (lc + k + 1) = 0) && (decide (zale le lc w (k + 2) (lc + k) = nI x) && decide (zale le lc w (k + 2) (lc + k + 1) = nI y)))) from rfl]
    rw [show lc + k + 1 = lc + (k + 1) from rfl, zaaf_in (Nat.succ_pos k) (by omega), zale_in (show k < k + 2 by omega), zale_in (show k + 1 < k + 2 by omega), ha.1, hb.1, decide_eq_true (rfl : (0 : Int32) = 0), Bool.true_and]
    congr 1
    · refine zhp_cong (fun i hi => ⟨?_, ?_⟩)
      · unfold zaaf
        by_cases c : lc ≤ i
        · exact (if_pos (show lc ≤ i ∧ i < lc + (k + 1) by omega)).trans (if_pos (show lc ≤ i ∧ i < lc + (k + 2) by omega)).symm
        · exact (if_neg (fun q => c q.1)).trans (if_neg (fun q => c q.1)).symm
      · unfold zale
        by_cases c : lc ≤ i
        · exact (if_pos (show lc ≤ i ∧ i < lc + (k + 1) by omega)).trans (if_pos (show lc ≤ i ∧ i < lc + (k + 2) by omega)).symm
        · exact (if_neg (fun q => c q.1)).trans (if_neg (fun q => c q.1)).symm
    · congr 1
      · exact decide_eq_decide.mpr ⟨fun q => by rw [q], fun q => (nI_eq (by omega) (by omega)).mp q⟩
      · exact decide_eq_decide.mpr ⟨fun q => by rw [q], fun q => (nI_eq (by omega) (by omega)).mp q⟩
/-- the class's lesson being made against the reference's -/
def zRl (L : Nat → Int64) (n : Nat) (t : zLs) (m : zMs) : Prop :=
  t.1 = m.1 ∧ t.2.1 = m.2.1 ∧ t.2.2.2.2.1 = m.2.2.2.1 ∧ t.2.2.2.2.2 = m.2.2.2.2 ∧ zMk m.2.2.1 t.2.2.1 t.2.2.2.2.2 ∧ (∀ x y, x < 26 → y < 26 → zfh t.2.2.2.1 (nI x) (nI y) = zhp m.2.2.1 m.2.1 (nI x) (nI y) (t.2.2.2.2.2 - 1)) ∧
  (∀ i, i < t.2.2.2.2.2 → ∃ x, x < 26 ∧ t.2.1 i = nI x) ∧ (∀ i, i < t.2.2.2.2.2 → ∃ a, a < t.2.2.2.2.1 ∧ t.2.2.1 i = nI a) ∧ (∀ a, a < t.2.2.2.2.1 → ∃ k, k < n ∧ t.1 a = nI k) ∧ (∀ a b, a < b → b < t.2.2.2.2.1 → t.1 a ≠ t.1 b) ∧ t.2.2.2.2.2 ≤ 8 * t.2.2.2.2.1 ∧ t.2.2.2.2.1 ≤ t.2.2.2.2.2
theorem zRl_0 {L : Nat → Int64} {n : Nat} {nu le ow af fo : Nat → Int32} : zRl L n (nu, le, ow, zfil 26 0 fo, 0, 0) (nu, le, af, 0, 0) :=
  ⟨rfl, rfl, rfl, rfl, fun j hj => absurd hj (Nat.not_lt_zero j), fun x y hx hy => (zfh_0 hx).trans rfl, fun i hi => absurd hi (Nat.not_lt_zero i), fun i hi => absurd hi (Nat.not_lt_zero i), fun a ha => absurd ha (Nat.not_lt_zero a), fun a b _ hb => absurd hb (Nat.not_lt_zero b), Nat.le_refl _, Nat.le_refl _⟩
theorem zRl_put {L : Nat → Int64} {n k : Nat} {nu le ow fo af : Nat → Int32} {wc lc : Nat} (hwc : wc ≤ 6) (h : zRl L n (nu, le, ow, fo, wc, lc) (nu, le, af, wc, lc)) (hk : k < n) (hn : n ≤ 40) (hz : zok (L k) = true) (hnew : ∀ a, a < wc → ¬ nu a = nI k) :
    zRl L n (zap (nu, le, ow, fo, wc, lc) (nI k) (L k)) (zpu (nu, le, af, wc, lc) (nI k) (L k)) := by
  obtain ⟨-, -, -, -, h5, h6, h7, h8, h9, h10, h11, h12⟩ := h
  have hp := zok_pos hz
  have h8' := zsz_le (L k)
  dsimp only at h5 h6 h7 h8 h9 h10 h11 h12
  refine ⟨rfl, rfl, rfl, rfl, ?_, ?_, ?_, ?_, ?_, ?_, ?_, ?_⟩
  · intro j hj
    have hj : j < lc + zsz (L k) := hj
    show zaaf af lc (zsz (L k)) j = 0 ↔ 0 < j ∧ zaow ow lc wc (zsz (L k)) (j - 1) = zaow ow lc wc (zsz (L k)) j
    rcases Nat.lt_trichotomy j lc with c | c | c
    · rw [zaaf_lo c, zaow_lo c, zaow_lo (show j - 1 < lc by omega)]
      exact h5 j c
    · subst c
      rw [zaaf_0' hp]
      constructor
      · intro q; exact absurd q (by decide)
      · rintro ⟨q0, q⟩
        obtain ⟨a, ha, e⟩ := h8 (j - 1) (by omega)
        rw [zaow_lo (show j - 1 < j by omega), show zaow ow j wc (zsz (L k)) j = nI wc from zaow_in (j := 0) hp, e] at q
        exact absurd ((nI_eq (by omega) (by omega)).mp q) (by omega)
    · obtain ⟨i, rfl⟩ : ∃ i, j = lc + (i + 1) := ⟨j - lc - 1, by omega⟩
      rw [zaaf_in (Nat.succ_pos i) (by omega), show lc + (i + 1) - 1 = lc + i by omega, zaow_in (by omega), zaow_in (by omega)]
      exact ⟨fun _ => ⟨by omega, rfl⟩, fun _ => rfl⟩
  · intro x y hx hy
    exact zfo_app hz h6 (zsz (L k)) (Nat.le_refl _) x y hx hy
  · intro i hi
    have hi : i < lc + zsz (L k) := hi
    show ∃ x, x < 26 ∧ zale le lc (L k) (zsz (L k)) i = nI x
    rcases Nat.lt_or_ge i lc with c | c
    · rw [zale_lo c]; exact h7 i c
    · obtain ⟨q, rfl⟩ : ∃ q, i = lc + q := ⟨i - lc, by omega⟩
      rw [zale_in (by omega)]
      exact ⟨_, (zok_ln hz (show zsz (L k) - 1 - q < zsz (L k) by omega)).2, (zok_ln hz (show zsz (L k) - 1 - q < zsz (L k) by omega)).1⟩
  · intro i hi
    have hi : i < lc + zsz (L k) := hi
    show ∃ a, a < wc + 1 ∧ zaow ow lc wc (zsz (L k)) i = nI a
    rcases Nat.lt_or_ge i lc with c | c
    · obtain ⟨a, ha, e⟩ := h8 i c
      exact ⟨a, by omega, by rw [zaow_lo c, e]⟩
    · obtain ⟨q, rfl⟩ : ∃ q, i = lc + q := ⟨i - lc, by omega⟩
      exact ⟨wc, by omega, zaow_in (by omega)⟩
  · intro a ha
    have ha : a < wc + 1 := ha
    show ∃ k', k' < n ∧ upd nu wc (nI k) a = nI k'
    by_cases c : a = wc
    · exact ⟨k, hk, by rw [c, pk_us]⟩
    · obtain ⟨k', h1, h2⟩ := h9 a (by omega)
      exact ⟨k', h1, by rw [pk_un c, h2]⟩
  · intro a b hab hb
    have hb : b < wc + 1 := hb
    show upd nu wc (nI k) a ≠ upd nu wc (nI k) b
    by_cases c : b = wc
    · rw [c, pk_us, pk_un (show a ≠ wc by omega)]
      exact hnew a (by omega)
    · rw [pk_un c, pk_un (show a ≠ wc by omega)]
      exact h10 a b hab (by omega)
  · show lc + zsz (L k) ≤ 8 * (wc + 1)
    omega
  · show wc + 1 ≤ lc + zsz (L k)
    omega
theorem zRl_pick {L : Nat → Int64} {n : Nat} {kl pt pl : Nat → Int32} {t : zLs} {m : zMs} (h : zRl L n t m) (hz : ∀ k, k < n → zok (L k) = true) : zpT L n kl pt pl t = zpM L n kl pt pl m := by
  obtain ⟨nu, le, ow, fo, wc, lc⟩ := t
  obtain ⟨nu', le', af, wc', lc'⟩ := m
  obtain ⟨h1, h2, h3, h4, h5, h6, h7, -⟩ := h
  dsimp only at h1 h2 h3 h4 h5 h6 h7
  subst h1; subst h2; subst h3; subst h4
  unfold zpT zpM
  dsimp only
  rw [zpk_cong (ch := fun k => zhw nu (nI k) wc) (ch' := fun k => zhw nu (nI k) wc) (wt := fun k => zwl (zfh fo) kl pt pl (L k)) (wt' := fun k => zwl (fun x y => zhp af le x y (lc - 1)) kl pt pl (L k)) n (fun _ _ => rfl) (fun k hk => ?_)]
  show zwi _ _ _ _ = zwi _ _ _ _
  refine zwi_cong _ (fun i hi => ?_)
  have hzk := hz k hk
  rw [(zok_ln hzk (show zsz (L k) - 1 - i < zsz (L k) by omega)).1, (zok_ln hzk (show zsz (L k) - 1 - (i + 1) < zsz (L k) by omega)).1]
  exact h6 _ _ (zok_ln hzk (show zsz (L k) - 1 - i < zsz (L k) by omega)).2 (zok_ln hzk (show zsz (L k) - 1 - (i + 1) < zsz (L k) by omega)).2
theorem zRl_n {L : Nat → Int64} {n : Nat} {t : zLs} {m : zMs} (h : zRl L n t m) {k : Nat} (hk : k < n) (hnew : ∀ a, a < t.2.2.2.2.1 → ¬ t.1 a = nI k) (hn : n ≤ 40) : t.2.2.2.2.1 < n := by
  obtain ⟨-, -, -, -, -, -, -, -, h9, h10, -, -⟩ := h
  have h2 : ∀ a, ∃ k, a < t.2.2.2.2.1 → (k < n ∧ t.1 a = nI k) := fun a => by
    by_cases ha : a < t.2.2.2.2.1
    · obtain ⟨k, q1, q2⟩ := h9 a ha
      exact ⟨k, fun _ => ⟨q1, q2⟩⟩
    · exact ⟨0, fun q => absurd q ha⟩
  obtain ⟨f, hf⟩ := Classical.axiomOfChoice h2
  have h3 := zholes n (t.2.2.2.2.1 + 1) (fun i => if i < t.2.2.2.2.1 then f i else k) (fun i hi => by
    show (if i < t.2.2.2.2.1 then f i else k) < n
    by_cases c : i < t.2.2.2.2.1
    · rw [if_pos c]; exact (hf i c).1
    · rw [if_neg c]; exact hk) (fun i j hij hj => by
    show (if i < t.2.2.2.2.1 then f i else k) ≠ (if j < t.2.2.2.2.1 then f j else k)
    have ci : i < t.2.2.2.2.1 := by omega
    rw [if_pos ci]
    by_cases c : j < t.2.2.2.2.1
    · rw [if_pos c]
      intro e
      have e1 := (hf i ci).2
      rw [e, ← (hf j c).2] at e1
      exact h10 i j hij c e1
    · rw [if_neg c]
      intro e
      exact hnew i ci (by rw [(hf i ci).2, e]))
  omega
theorem zRl_all {L : Nat → Int64} {n : Nat} {kl pt pl : Nat → Int32} {nu le ow af fo : Nat → Int32} (hn : n ≤ 40) (hz : ∀ k, k < n → zok (L k) = true) :
    ∀ j, j ≤ 6 → zRl L n (zoT L n kl pt pl (nu, le, ow, zfil 26 0 fo, 0, 0) j) (zoM L n kl pt pl (nu, le, af, 0, 0) j)
  | 0, _ => zRl_0
  | j + 1, hj => by
    have ih := zRl_all (kl := kl) (pt := pt) (pl := pl) (nu := nu) (le := le) (ow := ow) (af := af) (fo := fo) hn hz j (by omega)
    have hp := zRl_pick (kl := kl) (pt := pt) (pl := pl) ih hz
    have hw : (zoT L n kl pt pl (nu, le, ow, zfil 26 0 fo, 0, 0) j).2.2.2.2.1 ≤ 0 + j := zoT_wc j
    have e3 := ih.2.2.1
    rw [zoT, zoM, ← hp]
    by_cases c : zpT L n kl pt pl (zoT L n kl pt pl (nu, le, ow, zfil 26 0 fo, 0, 0) j) = -1
    · rw [if_pos c, if_neg (fun q => ?_)]
      · exact ih
      · rw [hp] at c
        exact zpk_some (by omega) q c
    · rw [if_neg c]
      obtain ⟨k, hk, hc, e⟩ := (zpk_in (fun k => zhw (zoT L n kl pt pl (nu, le, ow, zfil 26 0 fo, 0, 0) j).1 (nI k) (zoT L n kl pt pl (nu, le, ow, zfil 26 0 fo, 0, 0) j).2.2.2.2.1) (fun k => zwl (zfh (zoT L n kl pt pl (nu, le, ow, zfil 26 0 fo, 0, 0) j).2.2.2.1) kl pt pl (L k)) n).resolve_left c
      have e : zpT L n kl pt pl (zoT L n kl pt pl (nu, le, ow, zfil 26 0 fo, 0, 0) j) = nI k := e
      have hnew : ∀ a, a < (zoT L n kl pt pl (nu, le, ow, zfil 26 0 fo, 0, 0) j).2.2.2.2.1 → ¬ (zoT L n kl pt pl (nu, le, ow, zfil 26 0 fo, 0, 0) j).1 a = nI k := fun a ha q => by
        have := zhw_in q ha
        rw [show zhw (zoT L n kl pt pl (nu, le, ow, zfil 26 0 fo, 0, 0) j).1 (nI k) (zoT L n kl pt pl (nu, le, ow, zfil 26 0 fo, 0, 0) j).2.2.2.2.1 = false from hc] at this
        cases this
      have hwn := zRl_n ih hk hnew hn
      rw [if_pos (by rw [← e3]; exact hwn), e, nI_clamp (by omega)]
      revert ih hnew hw e3
      generalize zoT L n kl pt pl (nu, le, ow, zfil 26 0 fo, 0, 0) j = t
      generalize zoM L n kl pt pl (nu, le, af, 0, 0) j = m
      obtain ⟨nu1, le1, ow1, fo1, wc1, lc1⟩ := t
      obtain ⟨nu2, le2, af2, wc2, lc2⟩ := m
      intro ih hw e3 hnew
      obtain ⟨h1, h2, h3, h4, -⟩ := id ih
      dsimp only at h1 h2 h3 h4 hw
      subst h1; subst h2; subst h3; subst h4
      exact zRl_put (by omega) ih hk hn (hz k hk) hnew
theorem zRl_ge {L : Nat → Int64} {n : Nat} {kl pt pl : Nat → Int32} {s : zMs} (h0 : s.2.2.2.1 = 0) (hn : 0 < n) : ∀ j, 0 < j → 0 < (zoM L n kl pt pl s j).2.2.2.1
  | 0, h => absurd h (Nat.lt_irrefl 0)
  | j + 1, _ => by
    rw [zoM]
    by_cases c : (zoM L n kl pt pl s j).2.2.2.1 < n
    · rw [if_pos c]; exact Nat.succ_pos _
    · rw [if_neg c]; omega
