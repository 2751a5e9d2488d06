set_option maxHeartbeats 4000000 in
set_option maxRecDepth 100000 in
theorem c_J7_fill_53178 {l : Launch} {B kr kp : Nat} {D : va_G} {cI cJ cZ : ClassId} {ws : va_W} {a : Nat} {nn : Nat} {f : Nat → Int32} {x : Int32}  {q0 : Nat} (ha : ws[q0]? = some (a, .inl (cI, nn, .inl f))) (hn : nn < 2147483648) : Met l yJ7_fill_53178 wsJ7_fill_53178 ({ frames := 0, cells := 0, slots := 0, locals := 0 }) (zPc B kr kp D (zTy cI cJ cZ) ws [.ref a, .int x]) (zQv B D (ws.set q0 (a, .inl (cI, nn, .inl (zfil nn x f))))) 0 0 (zAb B) := by
  refine Met.ofW (cc := cJ7_fill_53178) (maxL := 4) (ret := none) (by decide) rfl ?_
  intro p e s m args below meth c s₁ B0 hml hv
  obtain ⟨rfl, hP, hD, hK, hE, hB⟩ := hv
  have hx := B0.exec
  have hb := B0.bytes
  have hr := B0.returns
  have hts := atoms_spec (ws := wsJ7_fill_53178) B0.pre
  have hown : s.vm.findClass RJ7 = some m.cls := findClass_of_methodNamed B0.named
  have hlocks := B0.notSynchronized
  have hA : ∀ q : Nat, s.heap.size ≤ q → zAb B q := fun q hq => Nat.le_trans hB hq
  have hS : va_S (zAb B) s.heap s.heap [] := va_S.rf
  have hl := lv_entry ([.ref a, .int x]) (n := 4) (Nat.le_of_ble_eq_true rfl)
  rw [lg_entry_eq]
  generalize (lg_sl ([.ref a, .int x]) ++ List.replicate (4 - (lg_sl ([.ref a, .int x])).length) Slot.unset).toArray = ls at hl ⊢
  have hl : lv_has ls 4 [(0, .ref a), (1, .int x)] := hl
  have hP : va_P D vwCl ws s.heap := hP
  have hD : va_D (zAb B) ws := hD
  refine lv_iconst (v := 0) hx hb dJ7_fill_53178_0 (by decide) ?_
  refine lv_istore_n (lv' := [(2, .int 0), (0, .ref a), (1, .int x)]) hx hb dJ7_fill_53178_1 rfl hl (by decide) rfl (fun ls hl => ?_)
  refine lv_aload_n hx hb dJ7_fill_53178_2 rfl (lv_at hl 1 rfl) ?_
  refine va_alen hx hb hK hP q0 0 ha rfl (v := (nI nn)) rfl dJ7_fill_53178_3 ?_
  refine lv_istore_n (lv' := [(3, .int (nI nn)), (2, .int 0), (0, .ref a), (1, .int x)]) hx hb dJ7_fill_53178_4 rfl hl (by decide) rfl (fun ls hl => ?_)
  have e8 : ws.set q0 (a, .inl (cI, nn, .inl (zfil 0 x f))) = ws := by rw [zfil_0]; exact zset_same ha
  rw [← e8] at hP hD
  refine zloop (σ := (Nat)) (nL := 4) (fun x9 => (ws.set q0 (a, .inl (cI, nn, .inl (zfil x9 x f))))) (fun x9 => [(3, .int (nI nn)), (2, .int (nI x9)), (0, .ref a), (1, .int x)]) (fun x9 => []) (fun x9 => x9 ≤ nn) (fun x9 => nn - x9) ?_ (0) (by omega) _ _ _ hP hD hS (lv_sub hl [0, 1, 2, 3] rfl)
  rintro j hI ih H locs ls hP hD hS hl
  try dsimp only at hI ih hP hD hS hl ⊢
  refine lv_iload_n hx hb dJ7_fill_53178_5 rfl (lv_at hl 1 rfl) ?_
  refine lv_iload_n hx hb dJ7_fill_53178_6 rfl (lv_at hl 0 rfl) ?_
  refine lv_icmp_ge (tgt := 20) hx hb dJ7_fill_53178_7 (by decide) (fun c_1 => ?_) (fun c_1 => ?_)
  · skip
    have c_1 : nn ≤ j := (nI_leI (a := nn) (b := j) (by omega) (by omega)).mp c_1
    rw [show j = nn from by omega] at hP hD
    exact W.vret hx hb hr (fun t ht hW => ⟨⟨(), rfl, trivial, by rw [ht]; exact hP, hD⟩, hS.F ht⟩) hS.2.2 dJ7_fill_53178_20
  · skip
    have c_1 : ¬ nn ≤ j := fun hh => c_1 ((nI_leI (a := nn) (b := j) (by omega) (by omega)).mpr hh)
    refine lv_aload_n hx hb dJ7_fill_53178_10 rfl (lv_at hl 2 rfl) ?_
    refine lv_iload_n hx hb dJ7_fill_53178_11 rfl (lv_at hl 1 rfl) ?_
    refine lv_iload_n hx hb dJ7_fill_53178_12 rfl (lv_at hl 3 rfl) ?_
    refine va_iast hx hb hK hP hD hS q0 0 (zset_at ha) rfl (vp_in_nI (n := j) (by omega) (by omega)) dJ7_fill_53178_13 (fun H locs hP hD hS => ?_)
    rw [pk_cl (x := (nI j)) j (rfl) (by omega)] at hP hD
    rw [List.set_set] at hP hD
    have hP : va_P D vwCl (ws.set q0 (a, .inl (cI, nn, .inl (upd (zfil j x f) j x)))) _ := hP
    have hD : va_D (zAb B) (ws.set q0 (a, .inl (cI, nn, .inl (upd (zfil j x f) j x)))) := hD
    rw [zfil_s] at hP hD
    refine lv_iinc (v := (nI (j + 1))) (lv' := [(2, .int (nI (j + 1))), (3, .int (nI nn)), (0, .ref a), (1, .int x)]) hx hb dJ7_fill_53178_14 hl (k := 1) rfl (nI_add j 1) (by decide) rfl (fun ls hl => ?_)
    refine lv_goto (tgt := 5) hx hb dJ7_fill_53178_17 (by decide) ?_
    exact ih ((j + 1)) (by omega) (by omega) _ _ _ hP hD hS (lv_sub hl [1, 0, 2, 3] rfl)

set_option maxHeartbeats 4000000 in
set_option maxRecDepth 100000 in
theorem c_X3_isFull {l : Launch} {B kr kp : Nat} {D : va_G} {cI cJ cZ : ClassId} {h : Nat → Nat} {R : va_W} {n : Nat} {L : Nat → Int64} {kt : Nat → Int32} {km : Nat → Int32} {kl : Nat → Int32} {pt : Nat → Int32} {pm : Nat → Int32} {pl : Nat → Int32} {nu : Nat → Int32} {le : Nat → Int32} {ow : Nat → Int32} {fo : Nat → Int32} {run : Bool} {wc : Nat} {lc : Nat} {tr : Nat} {cl : Nat} {tm : Nat} {ms : Nat} {yl : Nat → Int32} {yc : Nat → Int32} {yt : Nat → Int32} {co : Nat} {pa : Int32} {su : Nat} {sc : Nat} {mc : Nat → Int32}    (hn : n ≤ 40) : Met l yX3_isFull wsX3_isFull ({ frames := 0, cells := 0, slots := 0, locals := 0 }) (zPc B kr kp D (zTy cI cJ cZ) (zWT cI cJ h (n, L) (kt, km, kl) (pt, pm, pl) (nu, le, ow, fo, run, wc, lc, tr, cl, tm, ms) (yl, yc, yt, co, pa, su, sc) mc ++ R) [.ref (h 1)]) (zQi B D (zWT cI cJ h (n, L) (kt, km, kl) (pt, pm, pl) (nu, le, ow, fo, run, wc, lc, tr, cl, tm, ms) (yl, yc, yt, co, pa, su, sc) mc ++ R) (zq (¬ n < 40))) 0 0 (zAb B) := by
  refine Met.ofW (cc := cX3_isFull) (maxL := 1) (ret := (some .boolean)) (by decide) rfl ?_
  intro p e s m args below meth c s₁ B0 hml hv
  obtain ⟨rfl, hP, hD, hK, hE, hB⟩ := hv
  have hx := B0.exec
  have hb := B0.bytes
  have hr := B0.returns
  have hts := atoms_spec (ws := wsX3_isFull) B0.pre
  have hown : s.vm.findClass RX3 = some m.cls := findClass_of_methodNamed B0.named
  have hlocks := B0.notSynchronized
  have hA : ∀ q : Nat, s.heap.size ≤ q → zAb B q := fun q hq => Nat.le_trans hB hq
  have hS : va_S (zAb B) s.heap s.heap [] := va_S.rf
  have hl := lv_entry ([.ref (h 1)]) (n := 1) (Nat.le_of_ble_eq_true rfl)
  rw [lg_entry_eq]
  generalize (lg_sl ([.ref (h 1)]) ++ List.replicate (1 - (lg_sl ([.ref (h 1)])).length) Slot.unset).toArray = ls at hl ⊢
  have hl : lv_has ls 1 [(0, .ref (h 1))] := hl
  have hinX3 : ∀ w ∈ wsX30, w ∈ wsX3_isFull := fun _ h => List.mem_cons_of_mem _ (List.mem_append_right _ h)
  have hP : va_P D vwCl (zWT cI cJ h (n, L) (kt, km, kl) (pt, pm, pl) (nu, le, ow, fo, run, wc, lc, tr, cl, tm, ms) (yl, yc, yt, co, pa, su, sc) mc ++ R) s.heap := hP
  have hD : va_D (zAb B) (zWT cI cJ h (n, L) (kt, km, kl) (pt, pm, pl) (nu, le, ow, fo, run, wc, lc, tr, cl, tm, ms) (yl, yc, yt, co, pa, su, sc) mc ++ R) := hD
  refine lv_aload_n hx hb dX3_isFull_0 rfl (lv_at hl 0 rfl) ?_
  refine va_get (ci := 3) (v := .int (nI n)) (C := RX3) (T := TX3) (N := 2) hx hb hts hinX3 hown hK hP 1 rfl rfl 1 (by decide) (hts (.fieldLink RX3 15 "TypingTutor$WordList" "count" "I") (List.mem_of_getElem? (i := 1) rfl)) (fun _ h9 => h9) rfl dX3_isFull_1 ?_
  refine lv_aload_n hx hb dX3_isFull_4 rfl (lv_at hl 0 rfl) ?_
  refine va_get (ci := 3) (v := .ref (h 2)) (C := RX3) (T := TX3) (N := 2) hx hb hts hinX3 hown hK hP 1 rfl rfl 0 (by decide) (hts (.fieldLink RX3 9 "TypingTutor$WordList" "words" "[J") (List.mem_of_getElem? (i := 2) rfl)) (fun _ h9 => h9) rfl dX3_isFull_5 ?_
  refine va_alen hx hb hK hP 2 1 rfl rfl (v := 40) rfl dX3_isFull_8 ?_
  refine lv_icmp_lt (tgt := 16) hx hb dX3_isFull_9 (by decide) (fun c_1 => ?_) (fun c_1 => ?_)
  · skip
    have c_1 : n < 40 := (nI_ltI (a := n) (b := 40) (by omega) (by omega)).mp c_1
    refine lv_iconst (v := 0) hx hb dX3_isFull_16 (by decide) ?_
    exact W.zret (v := 0) hx hb hr rfl (fun t ht hW => ⟨⟨_, (), rfl, (zq_f (fun hh => hh c_1)).symm, by rw [ht]; exact hP, hD⟩, hS.F ht⟩) hS.2.2 dX3_isFull_17
  · skip
    have c_1 : ¬ n < 40 := fun hh => c_1 ((nI_ltI (a := n) (b := 40) (by omega) (by omega)).mpr hh)
    refine lv_iconst (v := 1) hx hb dX3_isFull_12 (by decide) ?_
    refine lv_goto (tgt := 17) hx hb dX3_isFull_13 (by decide) ?_
    exact W.zret (v := 1) hx hb hr rfl (fun t ht hW => ⟨⟨_, (), rfl, (zq_t c_1).symm, by rw [ht]; exact hP, hD⟩, hS.F ht⟩) hS.2.2 dX3_isFull_17

set_option maxHeartbeats 4000000 in
set_option maxRecDepth 100000 in
theorem c_X3_hasNumber {l : Launch} {B kr kp : Nat} {D : va_G} {cI cJ cZ : ClassId} {h : Nat → Nat} {R : va_W} {n : Nat} {L : Nat → Int64} {kt : Nat → Int32} {km : Nat → Int32} {kl : Nat → Int32} {pt : Nat → Int32} {pm : Nat → Int32} {pl : Nat → Int32} {nu : Nat → Int32} {le : Nat → Int32} {ow : Nat → Int32} {fo : Nat → Int32} {run : Bool} {wc : Nat} {lc : Nat} {tr : Nat} {cl : Nat} {tm : Nat} {ms : Nat} {yl : Nat → Int32} {yc : Nat → Int32} {yt : Nat → Int32} {co : Nat} {pa : Int32} {su : Nat} {sc : Nat} {mc : Nat → Int32} {k : Nat}   (hk : k < n) (hn : n ≤ 40) : Met l yX3_hasNumber wsX3_hasNumber ({ frames := 0, cells := 0, slots := 0, locals := 0 }) (zPc B kr kp D (zTy cI cJ cZ) (zWT cI cJ h (n, L) (kt, km, kl) (pt, pm, pl) (nu, le, ow, fo, run, wc, lc, tr, cl, tm, ms) (yl, yc, yt, co, pa, su, sc) mc ++ R) [.ref (h 1), .int (nI k)]) (zQi B D (zWT cI cJ h (n, L) (kt, km, kl) (pt, pm, pl) (nu, le, ow, fo, run, wc, lc, tr, cl, tm, ms) (yl, yc, yt, co, pa, su, sc) mc ++ R) 1) 0 0 (zAb B) := by
  refine Met.ofW (cc := cX3_hasNumber) (maxL := 2) (ret := (some .boolean)) (by decide) rfl ?_
  intro p e s m args below meth c s₁ B0 hml hv
  obtain ⟨rfl, hP, hD, hK, hE, hB⟩ := hv
  have hx := B0.exec
  have hb := B0.bytes
  have hr := B0.returns
  have hts := atoms_spec (ws := wsX3_hasNumber) B0.pre
  have hown : s.vm.findClass RX3 = some m.cls := findClass_of_methodNamed B0.named
  have hlocks := B0.notSynchronized
  have hA : ∀ q : Nat, s.heap.size ≤ q → zAb B q := fun q hq => Nat.le_trans hB hq
  have hS : va_S (zAb B) s.heap s.heap [] := va_S.rf
  have hl := lv_entry ([.ref (h 1), .int (nI k)]) (n := 2) (Nat.le_of_ble_eq_true rfl)
  rw [lg_entry_eq]
  generalize (lg_sl ([.ref (h 1), .int (nI k)]) ++ List.replicate (2 - (lg_sl ([.ref (h 1), .int (nI k)])).length) Slot.unset).toArray = ls at hl ⊢
  have hl : lv_has ls 2 [(0, .ref (h 1)), (1, .int (nI k))] := hl
  have hinX3 : ∀ w ∈ wsX30, w ∈ wsX3_hasNumber := fun _ h => List.mem_cons_of_mem _ (List.mem_append_right _ h)
  have hP : va_P D vwCl (zWT cI cJ h (n, L) (kt, km, kl) (pt, pm, pl) (nu, le, ow, fo, run, wc, lc, tr, cl, tm, ms) (yl, yc, yt, co, pa, su, sc) mc ++ R) s.heap := hP
  have hD : va_D (zAb B) (zWT cI cJ h (n, L) (kt, km, kl) (pt, pm, pl) (nu, le, ow, fo, run, wc, lc, tr, cl, tm, ms) (yl, yc, yt, co, pa, su, sc) mc ++ R) := hD
  refine lv_iload_n hx hb dX3_hasNumber_0 rfl (lv_at hl 1 rfl) ?_
  refine lv_if_lt (tgt := 16) hx hb dX3_hasNumber_1 (by decide) (fun c_1 => ?_) (fun c_1 => ?_)
  · skip
    have c_1 : k < 0 := (nI_ltI (a := k) (b := 0) (by omega) (by omega)).mp c_1
    exfalso; first | omega | (revert c_1; decide) | (exact absurd rfl c_1) | simp_all
  · skip
    have c_1 : ¬ k < 0 := fun hh => c_1 ((nI_ltI (a := k) (b := 0) (by omega) (by omega)).mpr hh)
    refine lv_iload_n hx hb dX3_hasNumber_4 rfl (lv_at hl 1 rfl) ?_
    refine lv_aload_n hx hb dX3_hasNumber_5 rfl (lv_at hl 0 rfl) ?_
    refine va_get (ci := 3) (v := .int (nI n)) (C := RX3) (T := TX3) (N := 2) hx hb hts hinX3 hown hK hP 1 rfl rfl 1 (by decide) (hts (.fieldLink RX3 15 "TypingTutor$WordList" "count" "I") (List.mem_of_getElem? (i := 1) rfl)) (fun _ h9 => h9) rfl dX3_hasNumber_6 ?_
    refine lv_icmp_ge (tgt := 16) hx hb dX3_hasNumber_9 (by decide) (fun c_2 => ?_) (fun c_2 => ?_)
    · skip
      have c_2 : n ≤ k := (nI_leI (a := n) (b := k) (by omega) (by omega)).mp c_2
      exfalso; first | omega | (revert c_2; decide) | (exact absurd rfl c_2) | simp_all
    · skip
      have c_2 : ¬ n ≤ k := fun hh => c_2 ((nI_leI (a := n) (b := k) (by omega) (by omega)).mpr hh)
      refine lv_iconst (v := 1) hx hb dX3_hasNumber_12 (by decide) ?_
      refine lv_goto (tgt := 17) hx hb dX3_hasNumber_13 (by decide) ?_
      exact W.zret (v := 1) hx hb hr rfl (fun t ht hW => ⟨⟨_, (), rfl, rfl, by rw [ht]; exact hP, hD⟩, hS.F ht⟩) hS.2.2 dX3_hasNumber_17

set_option maxHeartbeats 4000000 in
set_option maxRecDepth 100000 in
theorem c_X3_hasNumber_x {l : Launch} {B kr kp : Nat} {D : va_G} {cI cJ cZ : ClassId} {h : Nat → Nat} {R : va_W} {n : Nat} {L : Nat → Int64} {kt : Nat → Int32} {km : Nat → Int32} {kl : Nat → Int32} {pt : Nat → Int32} {pm : Nat → Int32} {pl : Nat → Int32} {nu : Nat → Int32} {le : Nat → Int32} {ow : Nat → Int32} {fo : Nat → Int32} {run : Bool} {wc : Nat} {lc : Nat} {tr : Nat} {cl : Nat} {tm : Nat} {ms : Nat} {yl : Nat → Int32} {yc : Nat → Int32} {yt : Nat → Int32} {co : Nat} {pa : Int32} {su : Nat} {sc : Nat} {mc : Nat → Int32} {i : Int32}   (hi : i < 0 ∨ nI n ≤ i) (hn : n ≤ 40) : Met l yX3_hasNumber wsX3_hasNumber ({ frames := 0, cells := 0, slots := 0, locals := 0 }) (zPc B kr kp D (zTy cI cJ cZ) (zWT cI cJ h (n, L) (kt, km, kl) (pt, pm, pl) (nu, le, ow, fo, run, wc, lc, tr, cl, tm, ms) (yl, yc, yt, co, pa, su, sc) mc ++ R) [.ref (h 1), .int i]) (zQi B D (zWT cI cJ h (n, L) (kt, km, kl) (pt, pm, pl) (nu, le, ow, fo, run, wc, lc, tr, cl, tm, ms) (yl, yc, yt, co, pa, su, sc) mc ++ R) 0) 0 0 (zAb B) := by
  refine Met.ofW (cc := cX3_hasNumber) (maxL := 2) (ret := (some .boolean)) (by decide) rfl ?_
  intro p e s m args below meth c s₁ B0 hml hv
  obtain ⟨rfl, hP, hD, hK, hE, hB⟩ := hv
  have hx := B0.exec
  have hb := B0.bytes
  have hr := B0.returns
  have hts := atoms_spec (ws := wsX3_hasNumber) B0.pre
  have hown : s.vm.findClass RX3 = some m.cls := findClass_of_methodNamed B0.named
  have hlocks := B0.notSynchronized
  have hA : ∀ q : Nat, s.heap.size ≤ q → zAb B q := fun q hq => Nat.le_trans hB hq
  have hS : va_S (zAb B) s.heap s.heap [] := va_S.rf
  have hl := lv_entry ([.ref (h 1), .int i]) (n := 2) (Nat.le_of_ble_eq_true rfl)
  rw [lg_entry_eq]
  generalize (lg_sl ([.ref (h 1), .int i]) ++ List.replicate (2 - (lg_sl ([.ref (h 1), .int i])).length) Slot.unset).toArray = ls at hl ⊢
  have hl : lv_has ls 2 [(0, .ref (h 1)), (1, .int i)] := hl
  have hinX3 : ∀ w ∈ wsX30, w ∈ wsX3_hasNumber := fun _ h => List.mem_cons_of_mem _ (List.mem_append_right _ h)
  have hP : va_P D vwCl (zWT cI cJ h (n, L) (kt, km, kl) (pt, pm, pl) (nu, le, ow, fo, run, wc, lc, tr, cl, tm, ms) (yl, yc, yt, co, pa, su, sc) mc ++ R) s.heap := hP
  have hD : va_D (zAb B) (zWT cI cJ h (n, L) (kt, km, kl) (pt, pm, pl) (nu, le, ow, fo, run, wc, lc, tr, cl, tm, ms) (yl, yc, yt, co, pa, su, sc) mc ++ R) := hD
  refine lv_iload_n hx hb dX3_hasNumber_0 rfl (lv_at hl 1 rfl) ?_
  refine lv_if_lt (tgt := 16) hx hb dX3_hasNumber_1 (by decide) (fun c_1 => ?_) (fun c_1 => ?_)
  · skip
    refine lv_iconst (v := 0) hx hb dX3_hasNumber_16 (by decide) ?_
    exact W.zret (v := 0) hx hb hr rfl (fun t ht hW => ⟨⟨_, (), rfl, rfl, by rw [ht]; exact hP, hD⟩, hS.F ht⟩) hS.2.2 dX3_hasNumber_17
  · skip
    refine lv_iload_n hx hb dX3_hasNumber_4 rfl (lv_at hl 1 rfl) ?_
    refine lv_aload_n hx hb dX3_hasNumber_5 rfl (lv_at hl 0 rfl) ?_
    refine va_get (ci := 3) (v := .int (nI n)) (C := RX3) (T := TX3) (N := 2) hx hb hts hinX3 hown hK hP 1 rfl rfl 1 (by decide) (hts (.fieldLink RX3 15 "TypingTutor$WordList" "count" "I") (List.mem_of_getElem? (i := 1) rfl)) (fun _ h9 => h9) rfl dX3_hasNumber_6 ?_
    refine lv_icmp_ge (tgt := 16) hx hb dX3_hasNumber_9 (by decide) (fun c_2 => ?_) (fun c_2 => ?_)
    · skip
      refine lv_iconst (v := 0) hx hb dX3_hasNumber_16 (by decide) ?_
      exact W.zret (v := 0) hx hb hr rfl (fun t ht hW => ⟨⟨_, (), rfl, rfl, by rw [ht]; exact hP, hD⟩, hS.F ht⟩) hS.2.2 dX3_hasNumber_17
    · skip
      exact hi.elim (fun q => absurd q c_1) (fun q => absurd q c_2)

set_option maxHeartbeats 4000000 in
set_option maxRecDepth 100000 in
theorem c_X3_wordAt {l : Launch} {B kr kp : Nat} {D : va_G} {cI cJ cZ : ClassId} {h : Nat → Nat} {R : va_W} {n : Nat} {L : Nat → Int64} {kt : Nat → Int32} {km : Nat → Int32} {kl : Nat → Int32} {pt : Nat → Int32} {pm : Nat → Int32} {pl : Nat → Int32} {nu : Nat → Int32} {le : Nat → Int32} {ow : Nat → Int32} {fo : Nat → Int32} {run : Bool} {wc : Nat} {lc : Nat} {tr : Nat} {cl : Nat} {tm : Nat} {ms : Nat} {yl : Nat → Int32} {yc : Nat → Int32} {yt : Nat → Int32} {co : Nat} {pa : Int32} {su : Nat} {sc : Nat} {mc : Nat → Int32} {k : Nat}   (hk : k < 40) : Met l yX3_wordAt wsX3_wordAt ({ frames := 0, cells := 0, slots := 0, locals := 0 }) (zPc B kr kp D (zTy cI cJ cZ) (zWT cI cJ h (n, L) (kt, km, kl) (pt, pm, pl) (nu, le, ow, fo, run, wc, lc, tr, cl, tm, ms) (yl, yc, yt, co, pa, su, sc) mc ++ R) [.ref (h 1), .int (nI k)]) (zQl B D (zWT cI cJ h (n, L) (kt, km, kl) (pt, pm, pl) (nu, le, ow, fo, run, wc, lc, tr, cl, tm, ms) (yl, yc, yt, co, pa, su, sc) mc ++ R) (L k)) 0 0 (zAb B) := by
  refine Met.ofW (cc := cX3_wordAt) (maxL := 2) (ret := (some .long)) (by decide) rfl ?_
  intro p e s m args below meth c s₁ B0 hml hv
  obtain ⟨rfl, hP, hD, hK, hE, hB⟩ := hv
  have hx := B0.exec
  have hb := B0.bytes
  have hr := B0.returns
  have hts := atoms_spec (ws := wsX3_wordAt) B0.pre
  have hown : s.vm.findClass RX3 = some m.cls := findClass_of_methodNamed B0.named
  have hlocks := B0.notSynchronized
  have hA : ∀ q : Nat, s.heap.size ≤ q → zAb B q := fun q hq => Nat.le_trans hB hq
  have hS : va_S (zAb B) s.heap s.heap [] := va_S.rf
  have hl := lv_entry ([.ref (h 1), .int (nI k)]) (n := 2) (Nat.le_of_ble_eq_true rfl)
  rw [lg_entry_eq]
  generalize (lg_sl ([.ref (h 1), .int (nI k)]) ++ List.replicate (2 - (lg_sl ([.ref (h 1), .int (nI k)])).length) Slot.unset).toArray = ls at hl ⊢
  have hl : lv_has ls 2 [(0, .ref (h 1)), (1, .int (nI k))] := hl
  have hinX3 : ∀ w ∈ wsX30, w ∈ wsX3_wordAt := fun _ h => List.mem_cons_of_mem _ (List.mem_append_right _ h)
  have hP : va_P D vwCl (zWT cI cJ h (n, L) (kt, km, kl) (pt, pm, pl) (nu, le, ow, fo, run, wc, lc, tr, cl, tm, ms) (yl, yc, yt, co, pa, su, sc) mc ++ R) s.heap := hP
  have hD : va_D (zAb B) (zWT cI cJ h (n, L) (kt, km, kl) (pt, pm, pl) (nu, le, ow, fo, run, wc, lc, tr, cl, tm, ms) (yl, yc, yt, co, pa, su, sc) mc ++ R) := hD
  refine lv_iload_n hx hb dX3_wordAt_0 rfl (lv_at hl 1 rfl) ?_
  refine lv_if_lt (tgt := 22) hx hb dX3_wordAt_1 (by decide) (fun c_1 => ?_) (fun c_1 => ?_)
  · skip
    have c_1 : k < 0 := (nI_ltI (a := k) (b := 0) (by omega) (by omega)).mp c_1
    exfalso; first | omega | (revert c_1; decide) | (exact absurd rfl c_1) | simp_all
  · skip
    have c_1 : ¬ k < 0 := fun hh => c_1 ((nI_ltI (a := k) (b := 0) (by omega) (by omega)).mpr hh)
    refine lv_iload_n hx hb dX3_wordAt_4 rfl (lv_at hl 1 rfl) ?_
    refine lv_aload_n hx hb dX3_wordAt_5 rfl (lv_at hl 0 rfl) ?_
    refine va_get (ci := 3) (v := .ref (h 2)) (C := RX3) (T := TX3) (N := 2) hx hb hts hinX3 hown hK hP 1 rfl rfl 0 (by decide) (hts (.fieldLink RX3 9 "TypingTutor$WordList" "words" "[J") (List.mem_of_getElem? (i := 1) rfl)) (fun _ h9 => h9) rfl dX3_wordAt_6 ?_
    refine va_alen hx hb hK hP 2 1 rfl rfl (v := 40) rfl dX3_wordAt_9 ?_
    refine lv_icmp_ge (tgt := 22) hx hb dX3_wordAt_10 (by decide) (fun c_2 => ?_) (fun c_2 => ?_)
    · skip
      have c_2 : 40 ≤ k := (nI_leI (a := 40) (b := k) (by omega) (by omega)).mp c_2
      exfalso; first | omega | (revert c_2; decide) | (exact absurd rfl c_2) | simp_all
    · skip
      have c_2 : ¬ 40 ≤ k := fun hh => c_2 ((nI_leI (a := 40) (b := k) (by omega) (by omega)).mpr hh)
      refine lv_aload_n hx hb dX3_wordAt_13 rfl (lv_at hl 0 rfl) ?_
      refine va_get (ci := 3) (v := .ref (h 2)) (C := RX3) (T := TX3) (N := 2) hx hb hts hinX3 hown hK hP 1 rfl rfl 0 (by decide) (hts (.fieldLink RX3 9 "TypingTutor$WordList" "words" "[J") (List.mem_of_getElem? (i := 1) rfl)) (fun _ h9 => h9) rfl dX3_wordAt_14 ?_
      refine lv_iload_n hx hb dX3_wordAt_17 rfl (lv_at hl 1 rfl) ?_
      refine va_lald hx hb hK hP 2 1 rfl rfl (vp_in_nI (n := k) (by omega) (by omega)) dX3_wordAt_18 ?_
      rw [pk_cl (x := (nI k)) k (rfl) (by omega)]
      refine lv_goto (tgt := 23) hx hb dX3_wordAt_19 (by decide) ?_
      exact W.lret (v := (L k)) hx hb hr (fun t ht hW => ⟨⟨_, (), rfl, rfl, by rw [ht]; exact hP, hD⟩, hS.F ht⟩) hS.2.2 dX3_wordAt_23

set_option maxHeartbeats 4000000 in
set_option maxRecDepth 100000 in
theorem c_X3_append {l : Launch} {B kr kp : Nat} {D : va_G} {cI cJ cZ : ClassId} {h : Nat → Nat} {R : va_W} {n : Nat} {L : Nat → Int64} {kt : Nat → Int32} {km : Nat → Int32} {kl : Nat → Int32} {pt : Nat → Int32} {pm : Nat → Int32} {pl : Nat → Int32} {nu : Nat → Int32} {le : Nat → Int32} {ow : Nat → Int32} {fo : Nat → Int32} {run : Bool} {wc : Nat} {lc : Nat} {tr : Nat} {cl : Nat} {tm : Nat} {ms : Nat} {yl : Nat → Int32} {yc : Nat → Int32} {yt : Nat → Int32} {co : Nat} {pa : Int32} {su : Nat} {sc : Nat} {mc : Nat → Int32} {w : Int64}   (hn : n < 40) : Met l yX3_append wsX3_append ({ frames := 0, cells := 0, slots := 0, locals := 0 }) (zPc B kr kp D (zTy cI cJ cZ) (zWT cI cJ h (n, L) (kt, km, kl) (pt, pm, pl) (nu, le, ow, fo, run, wc, lc, tr, cl, tm, ms) (yl, yc, yt, co, pa, su, sc) mc ++ R) [.ref (h 1), .long w]) (zQi B D (zWT cI cJ h ((n + 1), (vp_updL L n w)) (kt, km, kl) (pt, pm, pl) (nu, le, ow, fo, run, wc, lc, tr, cl, tm, ms) (yl, yc, yt, co, pa, su, sc) mc ++ R) (nI n)) 0 0 (zAb B) := by
  refine Met.ofW (cc := cX3_append) (maxL := 3) (ret := (some .int)) (by decide) rfl ?_
  intro p e s m args below meth c s₁ B0 hml hv
  obtain ⟨rfl, hP, hD, hK, hE, hB⟩ := hv
  have hx := B0.exec
  have hb := B0.bytes
  have hr := B0.returns
  have hts := atoms_spec (ws := wsX3_append) B0.pre
  have hown : s.vm.findClass RX3 = some m.cls := findClass_of_methodNamed B0.named
  have hlocks := B0.notSynchronized
  have hA : ∀ q : Nat, s.heap.size ≤ q → zAb B q := fun q hq => Nat.le_trans hB hq
  have hS : va_S (zAb B) s.heap s.heap [] := va_S.rf
  have hl := lv_entry ([.ref (h 1), .long w]) (n := 3) (Nat.le_of_ble_eq_true rfl)
  rw [lg_entry_eq]
  generalize (lg_sl ([.ref (h 1), .long w]) ++ List.replicate (3 - (lg_sl ([.ref (h 1), .long w])).length) Slot.unset).toArray = ls at hl ⊢
  have hl : lv_has ls 3 [(0, .ref (h 1)), (1, .long w)] := hl
  have hinX3 : ∀ w ∈ wsX30, w ∈ wsX3_append := fun _ h => List.mem_cons_of_mem _ (List.mem_append_right _ h)
  have hP : va_P D vwCl (zWT cI cJ h (n, L) (kt, km, kl) (pt, pm, pl) (nu, le, ow, fo, run, wc, lc, tr, cl, tm, ms) (yl, yc, yt, co, pa, su, sc) mc ++ R) s.heap := hP
  have hD : va_D (zAb B) (zWT cI cJ h (n, L) (kt, km, kl) (pt, pm, pl) (nu, le, ow, fo, run, wc, lc, tr, cl, tm, ms) (yl, yc, yt, co, pa, su, sc) mc ++ R) := hD
  refine lv_aload_n hx hb dX3_append_0 rfl (lv_at hl 0 rfl) ?_
  refine va_get (ci := 3) (v := .int (nI n)) (C := RX3) (T := TX3) (N := 2) hx hb hts hinX3 hown hK hP 1 rfl rfl 1 (by decide) (hts (.fieldLink RX3 15 "TypingTutor$WordList" "count" "I") (List.mem_of_getElem? (i := 1) rfl)) (fun _ h9 => h9) rfl dX3_append_1 ?_
  refine lv_if_lt (tgt := 19) hx hb dX3_append_4 (by decide) (fun c_1 => ?_) (fun c_1 => ?_)
  · skip
    have c_1 : n < 0 := (nI_ltI (a := n) (b := 0) (by omega) (by omega)).mp c_1
    exfalso; first | omega | (revert c_1; decide) | (exact absurd rfl c_1) | simp_all
  · skip
    have c_1 : ¬ n < 0 := fun hh => c_1 ((nI_ltI (a := n) (b := 0) (by omega) (by omega)).mpr hh)
    refine lv_aload_n hx hb dX3_append_7 rfl (lv_at hl 0 rfl) ?_
    refine va_get (ci := 3) (v := .int (nI n)) (C := RX3) (T := TX3) (N := 2) hx hb hts hinX3 hown hK hP 1 rfl rfl 1 (by decide) (hts (.fieldLink RX3 15 "TypingTutor$WordList" "count" "I") (List.mem_of_getElem? (i := 1) rfl)) (fun _ h9 => h9) rfl dX3_append_8 ?_
    refine lv_aload_n hx hb dX3_append_11 rfl (lv_at hl 0 rfl) ?_
    refine va_get (ci := 3) (v := .ref (h 2)) (C := RX3) (T := TX3) (N := 2) hx hb hts hinX3 hown hK hP 1 rfl rfl 0 (by decide) (hts (.fieldLink RX3 9 "TypingTutor$WordList" "words" "[J") (List.mem_of_getElem? (i := 2) rfl)) (fun _ h9 => h9) rfl dX3_append_12 ?_
    refine va_alen hx hb hK hP 2 1 rfl rfl (v := 40) rfl dX3_append_15 ?_
    refine lv_icmp_lt (tgt := 21) hx hb dX3_append_16 (by decide) (fun c_2 => ?_) (fun c_2 => ?_)
    · skip
      have c_2 : n < 40 := (nI_ltI (a := n) (b := 40) (by omega) (by omega)).mp c_2
      refine lv_aload_n hx hb dX3_append_21 rfl (lv_at hl 0 rfl) ?_
      refine va_get (ci := 3) (v := .ref (h 2)) (C := RX3) (T := TX3) (N := 2) hx hb hts hinX3 hown hK hP 1 rfl rfl 0 (by decide) (hts (.fieldLink RX3 9 "TypingTutor$WordList" "words" "[J") (List.mem_of_getElem? (i := 2) rfl)) (fun _ h9 => h9) rfl dX3_append_22 ?_
      refine lv_aload_n hx hb dX3_append_25 rfl (lv_at hl 0 rfl) ?_
      refine va_get (ci := 3) (v := .int (nI n)) (C := RX3) (T := TX3) (N := 2) hx hb hts hinX3 hown hK hP 1 rfl rfl 1 (by decide) (hts (.fieldLink RX3 15 "TypingTutor$WordList" "count" "I") (List.mem_of_getElem? (i := 1) rfl)) (fun _ h9 => h9) rfl dX3_append_26 ?_
      refine lv_lload_n hx hb dX3_append_29 rfl (lv_at hl 1 rfl) ?_
      refine va_last hx hb hK hP hD hS 2 1 rfl rfl (vp_in_nI (n := n) (by omega) (by omega)) dX3_append_30 (fun H locs hP hD hS => ?_)
      rw [pk_cl (x := (nI n)) n (rfl) (by omega)] at hP hD
      have hP : va_P D vwCl (zWT cI cJ h (n, (vp_updL L n w)) (kt, km, kl) (pt, pm, pl) (nu, le, ow, fo, run, wc, lc, tr, cl, tm, ms) (yl, yc, yt, co, pa, su, sc) mc ++ R) _ := hP
      have hD : va_D (zAb B) (zWT cI cJ h (n, (vp_updL L n w)) (kt, km, kl) (pt, pm, pl) (nu, le, ow, fo, run, wc, lc, tr, cl, tm, ms) (yl, yc, yt, co, pa, su, sc) mc ++ R) := hD
      refine lv_aload_n hx hb dX3_append_31 rfl (lv_at hl 0 rfl) ?_
      refine lv_dup hx hb dX3_append_32 rfl ?_
      refine va_get (ci := 3) (v := .int (nI n)) (C := RX3) (T := TX3) (N := 2) hx hb hts hinX3 hown hK hP 1 rfl rfl 1 (by decide) (hts (.fieldLink RX3 15 "TypingTutor$WordList" "count" "I") (List.mem_of_getElem? (i := 1) rfl)) (fun _ h9 => h9) rfl dX3_append_33 ?_
      refine lv_iconst (v := 1) hx hb dX3_append_36 (by decide) ?_
      refine lv_iadd hx hb dX3_append_37 ?_
      refine lv_topi (fun v_3 ev_3 => ?_)
      obtain rfl : v_3 = (nI (n + 1)) := ev_3.trans (nI_add n 1)
      refine va_put (ci := 3) (v := .int (nI (n + 1))) (ty := .int) (C := RX3) (T := TX3) (N := 2) hx hb hts hinX3 tyX3 tyX3_ok nmX3 hown hK hP hD hS 1 rfl rfl 1 (by decide) (hts (.fieldLink RX3 15 "TypingTutor$WordList" "count" "I") (List.mem_of_getElem? (i := 1) rfl)) (fun _ h9 => h9) rfl (by decide +kernel) rfl rfl (Nat.le_of_ble_eq_true rfl) dX3_append_38 (fun H locs hP hD hS => ?_)
      have hP : va_P D vwCl (zWT cI cJ h ((n + 1), (vp_updL L n w)) (kt, km, kl) (pt, pm, pl) (nu, le, ow, fo, run, wc, lc, tr, cl, tm, ms) (yl, yc, yt, co, pa, su, sc) mc ++ R) _ := hP
      have hD : va_D (zAb B) (zWT cI cJ h ((n + 1), (vp_updL L n w)) (kt, km, kl) (pt, pm, pl) (nu, le, ow, fo, run, wc, lc, tr, cl, tm, ms) (yl, yc, yt, co, pa, su, sc) mc ++ R) := hD
      refine lv_aload_n hx hb dX3_append_41 rfl (lv_at hl 0 rfl) ?_
      refine va_get (ci := 3) (v := .int (nI (n + 1))) (C := RX3) (T := TX3) (N := 2) hx hb hts hinX3 hown hK hP 1 rfl rfl 1 (by decide) (hts (.fieldLink RX3 15 "TypingTutor$WordList" "count" "I") (List.mem_of_getElem? (i := 1) rfl)) (fun _ h9 => h9) rfl dX3_append_42 ?_
      refine lv_iconst (v := 1) hx hb dX3_append_45 (by decide) ?_
      refine lv_isub hx hb dX3_append_46 ?_
      refine lv_topi (fun v_4 ev_4 => ?_)
      obtain rfl : v_4 = (nI n) := ev_4.trans ((pk_sub (a := (n + 1)) (b := 1) (by omega)).trans (congrArg nI (by omega)))
      exact W.iret (v := (nI n)) hx hb hr (fun t ht hW => ⟨⟨_, (), rfl, rfl, by rw [ht]; exact hP, hD⟩, hS.F ht⟩) hS.2.2 dX3_append_47
    · skip
      have c_2 : ¬ n < 40 := fun hh => c_2 ((nI_ltI (a := n) (b := 40) (by omega) (by omega)).mpr hh)
      exfalso; first | omega | (revert c_2; decide) | (exact absurd rfl c_2) | simp_all

set_option maxHeartbeats 4000000 in
set_option maxRecDepth 100000 in
theorem c_X3_holds {l : Launch} {B kr kp : Nat} {D : va_G} {cI cJ cZ : ClassId} {h : Nat → Nat} {R : va_W} {n : Nat} {L : Nat → Int64} {kt : Nat → Int32} {km : Nat → Int32} {kl : Nat → Int32} {pt : Nat → Int32} {pm : Nat → Int32} {pl : Nat → Int32} {nu : Nat → Int32} {le : Nat → Int32} {ow : Nat → Int32} {fo : Nat → Int32} {run : Bool} {wc : Nat} {lc : Nat} {tr : Nat} {cl : Nat} {tm : Nat} {ms : Nat} {yl : Nat → Int32} {yc : Nat → Int32} {yt : Nat → Int32} {co : Nat} {pa : Int32} {su : Nat} {sc : Nat} {mc : Nat → Int32} {w : Int64}   (hn : n ≤ 40) : Met l yX3_holds wsX3_holds ({ frames := 1, cells := 0, slots := 0, locals := 21 }) (zPc B kr kp D (zTy cI cJ cZ) (zWT cI cJ h (n, L) (kt, km, kl) (pt, pm, pl) (nu, le, ow, fo, run, wc, lc, tr, cl, tm, ms) (yl, yc, yt, co, pa, su, sc) mc ++ R) [.ref (h 1), .long w]) (zQi B D (zWT cI cJ h (n, L) (kt, km, kl) (pt, pm, pl) (nu, le, ow, fo, run, wc, lc, tr, cl, tm, ms) (yl, yc, yt, co, pa, su, sc) mc ++ R) (zb (zhd L w n))) 0 0 (zAb B) := by
  refine Met.ofW (cc := cX3_holds) (maxL := 4) (ret := (some .boolean)) (by decide) rfl ?_
  intro p e s m args below meth c s₁ B0 hml hv
  obtain ⟨rfl, hP, hD, hK, hE, hB⟩ := hv
  have hx := B0.exec
  have hb := B0.bytes
  have hr := B0.returns
  have hts := atoms_spec (ws := wsX3_holds) B0.pre
  have hown : s.vm.findClass RX3 = some m.cls := findClass_of_methodNamed B0.named
  have hlocks := B0.notSynchronized
  have hA : ∀ q : Nat, s.heap.size ≤ q → zAb B q := fun q hq => Nat.le_trans hB hq
  have hS : va_S (zAb B) s.heap s.heap [] := va_S.rf
  have hl := lv_entry ([.ref (h 1), .long w]) (n := 4) (Nat.le_of_ble_eq_true rfl)
  rw [lg_entry_eq]
  generalize (lg_sl ([.ref (h 1), .long w]) ++ List.replicate (4 - (lg_sl ([.ref (h 1), .long w])).length) Slot.unset).toArray = ls at hl ⊢
  have hl : lv_has ls 4 [(0, .ref (h 1)), (1, .long w)] := hl
  have hinX3 : ∀ w ∈ wsX30, w ∈ wsX3_holds := fun _ h => List.mem_cons_of_mem _ (List.mem_append_right _ h)
  have hP : va_P D vwCl (zWT cI cJ h (n, L) (kt, km, kl) (pt, pm, pl) (nu, le, ow, fo, run, wc, lc, tr, cl, tm, ms) (yl, yc, yt, co, pa, su, sc) mc ++ R) s.heap := hP
  have hD : va_D (zAb B) (zWT cI cJ h (n, L) (kt, km, kl) (pt, pm, pl) (nu, le, ow, fo, run, wc, lc, tr, cl, tm, ms) (yl, yc, yt, co, pa, su, sc) mc ++ R) := hD
  refine lv_iconst (v := 0) hx hb dX3_holds_0 (by decide) ?_
  refine lv_istore_n (lv' := [(3, .int 0), (0, .ref (h 1)), (1, .long w)]) hx hb dX3_holds_1 rfl hl (by decide) rfl (fun ls hl => ?_)
  refine zloop (σ := (Nat)) (nL := 4) (fun x9 => (zWT cI cJ h (n, L) (kt, km, kl) (pt, pm, pl) (nu, le, ow, fo, run, wc, lc, tr, cl, tm, ms) (yl, yc, yt, co, pa, su, sc) mc ++ R)) (fun x9 => [(3, .int (nI x9)), (0, .ref (h 1)), (1, .long w)]) (fun x9 => []) (fun x9 => x9 ≤ n ∧ zhd L w x9 = false) (fun x9 => n - x9) ?_ (0) (⟨by omega, rfl⟩) _ _ _ hP hD hS (lv_sub hl [0, 1, 2] rfl)
  rintro j hI ih H locs ls hP hD hS hl
  try dsimp only at hI ih hP hD hS hl ⊢
  refine lv_iload_n hx hb dX3_holds_2 rfl (lv_at hl 0 rfl) ?_
  refine lv_aload_n hx hb dX3_holds_3 rfl (lv_at hl 1 rfl) ?_
  refine va_get (ci := 3) (v := .int (nI n)) (C := RX3) (T := TX3) (N := 2) hx hb hts hinX3 hown hK hP 1 rfl rfl 1 (by decide) (hts (.fieldLink RX3 15 "TypingTutor$WordList" "count" "I") (List.mem_of_getElem? (i := 1) rfl)) (fun _ h9 => h9) rfl dX3_holds_4 ?_
  refine lv_icmp_ge (tgt := 28) hx hb dX3_holds_7 (by decide) (fun c_1 => ?_) (fun c_1 => ?_)
  · skip
    have c_1 : n ≤ j := (nI_leI (a := n) (b := j) (by omega) (by omega)).mp c_1
    refine lv_iconst (v := 0) hx hb dX3_holds_28 (by decide) ?_
    exact W.zret (v := 0) hx hb hr rfl (fun t ht hW => ⟨⟨_, (), rfl, zb_f (by have e9 : j = n := (by omega); exact e9 ▸ hI.2), by rw [ht]; exact hP, hD⟩, hS.F ht⟩) hS.2.2 dX3_holds_29
  · skip
    have c_1 : ¬ n ≤ j := fun hh => c_1 ((nI_leI (a := n) (b := j) (by omega) (by omega)).mpr hh)
    refine lv_aload_n hx hb dX3_holds_10 rfl (lv_at hl 1 rfl) ?_
    refine lv_iload_n hx hb dX3_holds_11 rfl (lv_at hl 0 rfl) ?_
    refine zcl (zrV (As := [.int (nI j)]) (rest := []) ⟨hx, hb, hml, hown, hts⟩ (zV 1 hP hD hK hE hB hS rfl rfl) (c_X3_wordAt (k := j) (by omega)) (cwV 1 hts gX3_holds_X3_wordAt rfl rfl rfl hdv_X3_wordAt ⟨Nat.le_of_ble_eq_true rfl, Nat.le_of_ble_eq_true rfl⟩) rfl rfl hl.1 rfl (lv_room (Nat.le_of_ble_eq_true rfl)) dX3_holds_12 ⟨Nat.le_of_ble_eq_true rfl, Nat.le_of_ble_eq_true rfl⟩) hS (fun H locs hP hD hS => ?_)
    have hP : va_P D vwCl (zWT cI cJ h (n, L) (kt, km, kl) (pt, pm, pl) (nu, le, ow, fo, run, wc, lc, tr, cl, tm, ms) (yl, yc, yt, co, pa, su, sc) mc ++ R) _ := hP
    have hD : va_D (zAb B) (zWT cI cJ h (n, L) (kt, km, kl) (pt, pm, pl) (nu, le, ow, fo, run, wc, lc, tr, cl, tm, ms) (yl, yc, yt, co, pa, su, sc) mc ++ R) := hD
    refine lv_lload_n hx hb dX3_holds_15 rfl (lv_at hl 2 rfl) ?_
    refine W.lcmp hx hb dX3_holds_16 ?_
    refine lv_if_ne (tgt := 22) hx hb dX3_holds_17 (by decide) (fun c_2 => ?_) (fun c_2 => ?_)
    · skip
      have c_2 : ¬ (L j) = w := fun hh => c_2 ((lg_cmp_eq _ _).mpr hh)
      refine lv_iinc (v := (nI (j + 1))) (lv' := [(3, .int (nI (j + 1))), (0, .ref (h 1)), (1, .long w)]) hx hb dX3_holds_22 hl (k := 0) rfl (nI_add j 1) (by decide) rfl (fun ls hl => ?_)
      refine lv_goto (tgt := 2) hx hb dX3_holds_25 (by decide) ?_
      exact ih ((j + 1)) (⟨by omega, zhd_not hI.2 (by assumption)⟩) (by omega) _ _ _ hP hD hS (lv_sub hl [0, 1, 2] rfl)
    · skip
      have c_2 : (L j) = w := (lg_cmp_eq _ _).mp c_2
      refine lv_iconst (v := 1) hx hb dX3_holds_20 (by decide) ?_
      exact W.zret (v := 1) hx hb hr rfl (fun t ht hW => ⟨⟨_, (), rfl, zb_t (zhd_in (by assumption) (by omega)), by rw [ht]; exact hP, hD⟩, hS.F ht⟩) hS.2.2 dX3_holds_21

set_option maxHeartbeats 4000000 in
set_option maxRecDepth 100000 in
theorem c_X1_triesOf_k {l : Launch} {B kr kp : Nat} {D : va_G} {cI cJ cZ : ClassId} {h : Nat → Nat} {R : va_W} {n : Nat} {L : Nat → Int64} {kt : Nat → Int32} {km : Nat → Int32} {kl : Nat → Int32} {pt : Nat → Int32} {pm : Nat → Int32} {pl : Nat → Int32} {nu : Nat → Int32} {le : Nat → Int32} {ow : Nat → Int32} {fo : Nat → Int32} {run : Bool} {wc : Nat} {lc : Nat} {tr : Nat} {cl : Nat} {tm : Nat} {ms : Nat} {yl : Nat → Int32} {yc : Nat → Int32} {yt : Nat → Int32} {co : Nat} {pa : Int32} {su : Nat} {sc : Nat} {mc : Nat → Int32} {i : Int32}    : Met l yX1_triesOf wsX1_triesOf ({ frames := 1, cells := 0, slots := 0, locals := 21 }) (zPc B kr kp D (zTy cI cJ cZ) (zWT cI cJ h (n, L) (kt, km, kl) (pt, pm, pl) (nu, le, ow, fo, run, wc, lc, tr, cl, tm, ms) (yl, yc, yt, co, pa, su, sc) mc ++ R) [.ref (h 3), .int i]) (zQi B D (zWT cI cJ h (n, L) (kt, km, kl) (pt, pm, pl) (nu, le, ow, fo, run, wc, lc, tr, cl, tm, ms) (yl, yc, yt, co, pa, su, sc) mc ++ R) (zrd 26 kt i)) 0 0 (zAb B) := by
  refine Met.ofW (cc := cX1_triesOf) (maxL := 2) (ret := (some .int)) (by decide) rfl ?_
  intro p e s m args below meth c s₁ B0 hml hv
  obtain ⟨rfl, hP, hD, hK, hE, hB⟩ := hv
  have hx := B0.exec
  have hb := B0.bytes
  have hr := B0.returns
  have hts := atoms_spec (ws := wsX1_triesOf) B0.pre
  have hown : s.vm.findClass RX1 = some m.cls := findClass_of_methodNamed B0.named
  have hlocks := B0.notSynchronized
  have hA : ∀ q : Nat, s.heap.size ≤ q → zAb B q := fun q hq => Nat.le_trans hB hq
  have hS : va_S (zAb B) s.heap s.heap [] := va_S.rf
  have hl := lv_entry ([.ref (h 3), .int i]) (n := 2) (Nat.le_of_ble_eq_true rfl)
  rw [lg_entry_eq]
  generalize (lg_sl ([.ref (h 3), .int i]) ++ List.replicate (2 - (lg_sl ([.ref (h 3), .int i])).length) Slot.unset).toArray = ls at hl ⊢
  have hl : lv_has ls 2 [(0, .ref (h 3)), (1, .int i)] := hl
  have hinX1 : ∀ w ∈ wsX10, w ∈ wsX1_triesOf := fun _ h => List.mem_cons_of_mem _ (List.mem_append_right _ h)
  have hP : va_P D vwCl (zWT cI cJ h (n, L) (kt, km, kl) (pt, pm, pl) (nu, le, ow, fo, run, wc, lc, tr, cl, tm, ms) (yl, yc, yt, co, pa, su, sc) mc ++ R) s.heap := hP
  have hD : va_D (zAb B) (zWT cI cJ h (n, L) (kt, km, kl) (pt, pm, pl) (nu, le, ow, fo, run, wc, lc, tr, cl, tm, ms) (yl, yc, yt, co, pa, su, sc) mc ++ R) := hD
  refine lv_aload_n hx hb dX1_triesOf_0 rfl (lv_at hl 0 rfl) ?_
  refine va_get (ci := 1) (v := .ref (h 4)) (C := RX1) (T := TX1) (N := 3) hx hb hts hinX1 hown hK hP 3 rfl rfl 0 (by decide) (hts (.fieldLink RX1 15 "TypingTutor$Knowledge" "tries" "[I") (List.mem_of_getElem? (i := 1) rfl)) (fun _ h9 => h9) rfl dX1_triesOf_1 ?_
  refine lv_iload_n hx hb dX1_triesOf_4 rfl (lv_at hl 1 rfl) ?_
  refine zci (zrSN (As := [.ref (h 4), .int i]) (rest := []) ⟨hx, hb, hml, hown, hts⟩ (zS hP hD hK hE hB hS) (c_X4_read (q0 := 4) rfl (by omega)) ⟨va_cnB 2 hts gX1_triesOf_X4_read_n33 rfl rfl rfl (hE.1 _ (List.mem_of_getElem? (i := 5) rfl)) (hts (.initialized RX4) (List.mem_of_getElem? (i := 3) rfl)) hds_X4_read ⟨Nat.le_of_ble_eq_true rfl, Nat.le_of_ble_eq_true rfl⟩, (hts (.static yX4_read) (List.mem_of_getElem? (i := 2) rfl)), trivial⟩ rfl rfl hl.1 rfl (lv_room (Nat.le_of_ble_eq_true rfl)) dX1_triesOf_5 ⟨Nat.le_of_ble_eq_true rfl, Nat.le_of_ble_eq_true rfl⟩) hS (fun H locs hP hD hS => ?_)
  have hP : va_P D vwCl (zWT cI cJ h (n, L) (kt, km, kl) (pt, pm, pl) (nu, le, ow, fo, run, wc, lc, tr, cl, tm, ms) (yl, yc, yt, co, pa, su, sc) mc ++ R) _ := hP
  have hD : va_D (zAb B) (zWT cI cJ h (n, L) (kt, km, kl) (pt, pm, pl) (nu, le, ow, fo, run, wc, lc, tr, cl, tm, ms) (yl, yc, yt, co, pa, su, sc) mc ++ R) := hD
  exact W.iret (v := (zrd 26 kt i)) hx hb hr (fun t ht hW => ⟨⟨_, (), rfl, rfl, by rw [ht]; exact hP, hD⟩, hS.F ht⟩) hS.2.2 dX1_triesOf_8

set_option maxHeartbeats 4000000 in
set_option maxRecDepth 100000 in
theorem c_X1_levelOf_k {l : Launch} {B kr kp : Nat} {D : va_G} {cI cJ cZ : ClassId} {h : Nat → Nat} {R : va_W} {n : Nat} {L : Nat → Int64} {kt : Nat → Int32} {km : Nat → Int32} {kl : Nat → Int32} {pt : Nat → Int32} {pm : Nat → Int32} {pl : Nat → Int32} {nu : Nat → Int32} {le : Nat → Int32} {ow : Nat → Int32} {fo : Nat → Int32} {run : Bool} {wc : Nat} {lc : Nat} {tr : Nat} {cl : Nat} {tm : Nat} {ms : Nat} {yl : Nat → Int32} {yc : Nat → Int32} {yt : Nat → Int32} {co : Nat} {pa : Int32} {su : Nat} {sc : Nat} {mc : Nat → Int32} {i : Int32}    : Met l yX1_levelOf wsX1_levelOf ({ frames := 1, cells := 0, slots := 0, locals := 21 }) (zPc B kr kp D (zTy cI cJ cZ) (zWT cI cJ h (n, L) (kt, km, kl) (pt, pm, pl) (nu, le, ow, fo, run, wc, lc, tr, cl, tm, ms) (yl, yc, yt, co, pa, su, sc) mc ++ R) [.ref (h 3), .int i]) (zQi B D (zWT cI cJ h (n, L) (kt, km, kl) (pt, pm, pl) (nu, le, ow, fo, run, wc, lc, tr, cl, tm, ms) (yl, yc, yt, co, pa, su, sc) mc ++ R) (zrd 26 kl i)) 0 0 (zAb B) := by
  refine Met.ofW (cc := cX1_levelOf) (maxL := 2) (ret := (some .int)) (by decide) rfl ?_
  intro p e s m args below meth c s₁ B0 hml hv
  obtain ⟨rfl, hP, hD, hK, hE, hB⟩ := hv
  have hx := B0.exec
  have hb := B0.bytes
  have hr := B0.returns
  have hts := atoms_spec (ws := wsX1_levelOf) B0.pre
  have hown : s.vm.findClass RX1 = some m.cls := findClass_of_methodNamed B0.named
  have hlocks := B0.notSynchronized
  have hA : ∀ q : Nat, s.heap.size ≤ q → zAb B q := fun q hq => Nat.le_trans hB hq
  have hS : va_S (zAb B) s.heap s.heap [] := va_S.rf
  have hl := lv_entry ([.ref (h 3), .int i]) (n := 2) (Nat.le_of_ble_eq_true rfl)
  rw [lg_entry_eq]
  generalize (lg_sl ([.ref (h 3), .int i]) ++ List.replicate (2 - (lg_sl ([.ref (h 3), .int i])).length) Slot.unset).toArray = ls at hl ⊢
  have hl : lv_has ls 2 [(0, .ref (h 3)), (1, .int i)] := hl
  have hinX1 : ∀ w ∈ wsX10, w ∈ wsX1_levelOf := fun _ h => List.mem_cons_of_mem _ (List.mem_append_right _ h)
  have hP : va_P D vwCl (zWT cI cJ h (n, L) (kt, km, kl) (pt, pm, pl) (nu, le, ow, fo, run, wc, lc, tr, cl, tm, ms) (yl, yc, yt, co, pa, su, sc) mc ++ R) s.heap := hP
  have hD : va_D (zAb B) (zWT cI cJ h (n, L) (kt, km, kl) (pt, pm, pl) (nu, le, ow, fo, run, wc, lc, tr, cl, tm, ms) (yl, yc, yt, co, pa, su, sc) mc ++ R) := hD
  refine lv_aload_n hx hb dX1_levelOf_0 rfl (lv_at hl 0 rfl) ?_
  refine va_get (ci := 1) (v := .ref (h 6)) (C := RX1) (T := TX1) (N := 3) hx hb hts hinX1 hown hK hP 3 rfl rfl 2 (by decide) (hts (.fieldLink RX1 24 "TypingTutor$Knowledge" "levels" "[I") (List.mem_of_getElem? (i := 1) rfl)) (fun _ h9 => h9) rfl dX1_levelOf_1 ?_
  refine lv_iload_n hx hb dX1_levelOf_4 rfl (lv_at hl 1 rfl) ?_
  refine zci (zrSN (As := [.ref (h 6), .int i]) (rest := []) ⟨hx, hb, hml, hown, hts⟩ (zS hP hD hK hE hB hS) (c_X4_read (q0 := 6) rfl (by omega)) ⟨va_cnB 2 hts gX1_levelOf_X4_read_n33 rfl rfl rfl (hE.1 _ (List.mem_of_getElem? (i := 5) rfl)) (hts (.initialized RX4) (List.mem_of_getElem? (i := 3) rfl)) hds_X4_read ⟨Nat.le_of_ble_eq_true rfl, Nat.le_of_ble_eq_true rfl⟩, (hts (.static yX4_read) (List.mem_of_getElem? (i := 2) rfl)), trivial⟩ rfl rfl hl.1 rfl (lv_room (Nat.le_of_ble_eq_true rfl)) dX1_levelOf_5 ⟨Nat.le_of_ble_eq_true rfl, Nat.le_of_ble_eq_true rfl⟩) hS (fun H locs hP hD hS => ?_)
  have hP : va_P D vwCl (zWT cI cJ h (n, L) (kt, km, kl) (pt, pm, pl) (nu, le, ow, fo, run, wc, lc, tr, cl, tm, ms) (yl, yc, yt, co, pa, su, sc) mc ++ R) _ := hP
  have hD : va_D (zAb B) (zWT cI cJ h (n, L) (kt, km, kl) (pt, pm, pl) (nu, le, ow, fo, run, wc, lc, tr, cl, tm, ms) (yl, yc, yt, co, pa, su, sc) mc ++ R) := hD
  exact W.iret (v := (zrd 26 kl i)) hx hb hr (fun t ht hW => ⟨⟨_, (), rfl, rfl, by rw [ht]; exact hP, hD⟩, hS.F ht⟩) hS.2.2 dX1_levelOf_8

set_option maxHeartbeats 4000000 in
set_option maxRecDepth 100000 in
theorem c_X1_tell_k0 {l : Launch} {B kr kp : Nat} {D : va_G} {cI cJ cZ : ClassId} {h : Nat → Nat} {R : va_W} {n : Nat} {L : Nat → Int64} {kt : Nat → Int32} {km : Nat → Int32} {kl : Nat → Int32} {pt : Nat → Int32} {pm : Nat → Int32} {pl : Nat → Int32} {nu : Nat → Int32} {le : Nat → Int32} {ow : Nat → Int32} {fo : Nat → Int32} {run : Bool} {wc : Nat} {lc : Nat} {tr : Nat} {cl : Nat} {tm : Nat} {ms : Nat} {yl : Nat → Int32} {yc : Nat → Int32} {yt : Nat → Int32} {co : Nat} {pa : Int32} {su : Nat} {sc : Nat} {mc : Nat → Int32} {k : Nat}   (hk : k < 26) : Met l yX1_tell wsX1_tell ({ frames := 1, cells := 0, slots := 0, locals := 21 }) (zPc B kr kp D (zTy cI cJ cZ) (zWT cI cJ h (n, L) (kt, km, kl) (pt, pm, pl) (nu, le, ow, fo, run, wc, lc, tr, cl, tm, ms) (yl, yc, yt, co, pa, su, sc) mc ++ R) [.ref (h 3), .int (nI k), .int 0]) (zQi B D (zWT cI cJ h (n, L) (kt, km, kl) (pt, pm, pl) (nu, le, ow, fo, run, wc, lc, tr, cl, tm, ms) (yl, yc, yt, co, pa, su, sc) mc ++ R) (kt k)) 0 0 (zAb B) := by
  refine Met.ofW (cc := cX1_tell) (maxL := 3) (ret := (some .int)) (by decide) rfl ?_
  intro p e s m args below meth c s₁ B0 hml hv
  obtain ⟨rfl, hP, hD, hK, hE, hB⟩ := hv
  have hx := B0.exec
  have hb := B0.bytes
  have hr := B0.returns
  have hts := atoms_spec (ws := wsX1_tell) B0.pre
  have hown : s.vm.findClass RX1 = some m.cls := findClass_of_methodNamed B0.named
  have hlocks := B0.notSynchronized
  have hA : ∀ q : Nat, s.heap.size ≤ q → zAb B q := fun q hq => Nat.le_trans hB hq
  have hS : va_S (zAb B) s.heap s.heap [] := va_S.rf
  have hl := lv_entry ([.ref (h 3), .int (nI k), .int 0]) (n := 3) (Nat.le_of_ble_eq_true rfl)
  rw [lg_entry_eq]
  generalize (lg_sl ([.ref (h 3), .int (nI k), .int 0]) ++ List.replicate (3 - (lg_sl ([.ref (h 3), .int (nI k), .int 0])).length) Slot.unset).toArray = ls at hl ⊢
  have hl : lv_has ls 3 [(0, .ref (h 3)), (1, .int (nI k)), (2, .int 0)] := hl
  have hinX1 : ∀ w ∈ wsX10, w ∈ wsX1_tell := fun _ h => List.mem_cons_of_mem _ (List.mem_append_right _ h)
  have hP : va_P D vwCl (zWT cI cJ h (n, L) (kt, km, kl) (pt, pm, pl) (nu, le, ow, fo, run, wc, lc, tr, cl, tm, ms) (yl, yc, yt, co, pa, su, sc) mc ++ R) s.heap := hP
  have hD : va_D (zAb B) (zWT cI cJ h (n, L) (kt, km, kl) (pt, pm, pl) (nu, le, ow, fo, run, wc, lc, tr, cl, tm, ms) (yl, yc, yt, co, pa, su, sc) mc ++ R) := hD
  refine lv_iload_n hx hb dX1_tell_0 rfl (lv_at hl 2 rfl) ?_
  refine lv_lookup (x := 0) (off := 27) (tgt := 28) hx hb dX1_tell_1 (by decide) (by decide) (by decide) ?_
  refine lv_aload_n hx hb dX1_tell_28 rfl (lv_at hl 0 rfl) ?_
  refine va_get (ci := 1) (v := .ref (h 4)) (C := RX1) (T := TX1) (N := 3) hx hb hts hinX1 hown hK hP 3 rfl rfl 0 (by decide) (hts (.fieldLink RX1 15 "TypingTutor$Knowledge" "tries" "[I") (List.mem_of_getElem? (i := 1) rfl)) (fun _ h9 => h9) rfl dX1_tell_29 ?_
  refine lv_iload_n hx hb dX1_tell_32 rfl (lv_at hl 1 rfl) ?_
  refine zci (zrSN (As := [.ref (h 4), .int (nI k)]) (rest := []) ⟨hx, hb, hml, hown, hts⟩ (zS hP hD hK hE hB hS) (c_X4_read (q0 := 4) rfl (by omega)) ⟨va_cnB 2 hts gX1_tell_X4_read_n33 rfl rfl rfl (hE.1 _ (List.mem_of_getElem? (i := 5) rfl)) (hts (.initialized RX4) (List.mem_of_getElem? (i := 5) rfl)) hds_X4_read ⟨Nat.le_of_ble_eq_true rfl, Nat.le_of_ble_eq_true rfl⟩, (hts (.static yX4_read) (List.mem_of_getElem? (i := 4) rfl)), trivial⟩ rfl rfl hl.1 rfl (lv_room (Nat.le_of_ble_eq_true rfl)) dX1_tell_33 ⟨Nat.le_of_ble_eq_true rfl, Nat.le_of_ble_eq_true rfl⟩) hS (fun H locs hP hD hS => ?_)
  have hP : va_P D vwCl (zWT cI cJ h (n, L) (kt, km, kl) (pt, pm, pl) (nu, le, ow, fo, run, wc, lc, tr, cl, tm, ms) (yl, yc, yt, co, pa, su, sc) mc ++ R) _ := hP
  have hD : va_D (zAb B) (zWT cI cJ h (n, L) (kt, km, kl) (pt, pm, pl) (nu, le, ow, fo, run, wc, lc, tr, cl, tm, ms) (yl, yc, yt, co, pa, su, sc) mc ++ R) := hD
  rw [show (zrd 26 kt (nI k)) = (kt k) from (zrd_in (n := 26) (k := k) (f := kt) (by omega) (by omega))]
  exact W.iret (v := (kt k)) hx hb hr (fun t ht hW => ⟨⟨_, (), rfl, rfl, by rw [ht]; exact hP, hD⟩, hS.F ht⟩) hS.2.2 dX1_tell_36

set_option maxHeartbeats 4000000 in
set_option maxRecDepth 100000 in
theorem c_X1_tell_k1 {l : Launch} {B kr kp : Nat} {D : va_G} {cI cJ cZ : ClassId} {h : Nat → Nat} {R : va_W} {n : Nat} {L : Nat → Int64} {kt : Nat → Int32} {km : Nat → Int32} {kl : Nat → Int32} {pt : Nat → Int32} {pm : Nat → Int32} {pl : Nat → Int32} {nu : Nat → Int32} {le : Nat → Int32} {ow : Nat → Int32} {fo : Nat → Int32} {run : Bool} {wc : Nat} {lc : Nat} {tr : Nat} {cl : Nat} {tm : Nat} {ms : Nat} {yl : Nat → Int32} {yc : Nat → Int32} {yt : Nat → Int32} {co : Nat} {pa : Int32} {su : Nat} {sc : Nat} {mc : Nat → Int32} {k : Nat}   (hk : k < 26) : Met l yX1_tell wsX1_tell ({ frames := 1, cells := 0, slots := 0, locals := 21 }) (zPc B kr kp D (zTy cI cJ cZ) (zWT cI cJ h (n, L) (kt, km, kl) (pt, pm, pl) (nu, le, ow, fo, run, wc, lc, tr, cl, tm, ms) (yl, yc, yt, co, pa, su, sc) mc ++ R) [.ref (h 3), .int (nI k), .int 1]) (zQi B D (zWT cI cJ h (n, L) (kt, km, kl) (pt, pm, pl) (nu, le, ow, fo, run, wc, lc, tr, cl, tm, ms) (yl, yc, yt, co, pa, su, sc) mc ++ R) (km k)) 0 0 (zAb B) := by
  refine Met.ofW (cc := cX1_tell) (maxL := 3) (ret := (some .int)) (by decide) rfl ?_
  intro p e s m args below meth c s₁ B0 hml hv
  obtain ⟨rfl, hP, hD, hK, hE, hB⟩ := hv
  have hx := B0.exec
  have hb := B0.bytes
  have hr := B0.returns
  have hts := atoms_spec (ws := wsX1_tell) B0.pre
  have hown : s.vm.findClass RX1 = some m.cls := findClass_of_methodNamed B0.named
  have hlocks := B0.notSynchronized
  have hA : ∀ q : Nat, s.heap.size ≤ q → zAb B q := fun q hq => Nat.le_trans hB hq
  have hS : va_S (zAb B) s.heap s.heap [] := va_S.rf
  have hl := lv_entry ([.ref (h 3), .int (nI k), .int 1]) (n := 3) (Nat.le_of_ble_eq_true rfl)
  rw [lg_entry_eq]
  generalize (lg_sl ([.ref (h 3), .int (nI k), .int 1]) ++ List.replicate (3 - (lg_sl ([.ref (h 3), .int (nI k), .int 1])).length) Slot.unset).toArray = ls at hl ⊢
  have hl : lv_has ls 3 [(0, .ref (h 3)), (1, .int (nI k)), (2, .int 1)] := hl
  have hinX1 : ∀ w ∈ wsX10, w ∈ wsX1_tell := fun _ h => List.mem_cons_of_mem _ (List.mem_append_right _ h)
  have hP : va_P D vwCl (zWT cI cJ h (n, L) (kt, km, kl) (pt, pm, pl) (nu, le, ow, fo, run, wc, lc, tr, cl, tm, ms) (yl, yc, yt, co, pa, su, sc) mc ++ R) s.heap := hP
  have hD : va_D (zAb B) (zWT cI cJ h (n, L) (kt, km, kl) (pt, pm, pl) (nu, le, ow, fo, run, wc, lc, tr, cl, tm, ms) (yl, yc, yt, co, pa, su, sc) mc ++ R) := hD
  refine lv_iload_n hx hb dX1_tell_0 rfl (lv_at hl 2 rfl) ?_
  refine lv_lookup (x := 1) (off := 36) (tgt := 37) hx hb dX1_tell_1 (by decide) (by decide) (by decide) ?_
  refine lv_aload_n hx hb dX1_tell_37 rfl (lv_at hl 0 rfl) ?_
  refine va_get (ci := 1) (v := .ref (h 5)) (C := RX1) (T := TX1) (N := 3) hx hb hts hinX1 hown hK hP 3 rfl rfl 1 (by decide) (hts (.fieldLink RX1 21 "TypingTutor$Knowledge" "misses" "[I") (List.mem_of_getElem? (i := 2) rfl)) (fun _ h9 => h9) rfl dX1_tell_38 ?_
  refine lv_iload_n hx hb dX1_tell_41 rfl (lv_at hl 1 rfl) ?_
  refine zci (zrSN (As := [.ref (h 5), .int (nI k)]) (rest := []) ⟨hx, hb, hml, hown, hts⟩ (zS hP hD hK hE hB hS) (c_X4_read (q0 := 5) rfl (by omega)) ⟨va_cnB 2 hts gX1_tell_X4_read_n33 rfl rfl rfl (hE.1 _ (List.mem_of_getElem? (i := 5) rfl)) (hts (.initialized RX4) (List.mem_of_getElem? (i := 5) rfl)) hds_X4_read ⟨Nat.le_of_ble_eq_true rfl, Nat.le_of_ble_eq_true rfl⟩, (hts (.static yX4_read) (List.mem_of_getElem? (i := 4) rfl)), trivial⟩ rfl rfl hl.1 rfl (lv_room (Nat.le_of_ble_eq_true rfl)) dX1_tell_42 ⟨Nat.le_of_ble_eq_true rfl, Nat.le_of_ble_eq_true rfl⟩) hS (fun H locs hP hD hS => ?_)
  have hP : va_P D vwCl (zWT cI cJ h (n, L) (kt, km, kl) (pt, pm, pl) (nu, le, ow, fo, run, wc, lc, tr, cl, tm, ms) (yl, yc, yt, co, pa, su, sc) mc ++ R) _ := hP
  have hD : va_D (zAb B) (zWT cI cJ h (n, L) (kt, km, kl) (pt, pm, pl) (nu, le, ow, fo, run, wc, lc, tr, cl, tm, ms) (yl, yc, yt, co, pa, su, sc) mc ++ R) := hD
  rw [show (zrd 26 km (nI k)) = (km k) from (zrd_in (n := 26) (k := k) (f := km) (by omega) (by omega))]
  exact W.iret (v := (km k)) hx hb hr (fun t ht hW => ⟨⟨_, (), rfl, rfl, by rw [ht]; exact hP, hD⟩, hS.F ht⟩) hS.2.2 dX1_tell_45

set_option maxHeartbeats 4000000 in
set_option maxRecDepth 100000 in
theorem c_X1_tell_k2 {l : Launch} {B kr kp : Nat} {D : va_G} {cI cJ cZ : ClassId} {h : Nat → Nat} {R : va_W} {n : Nat} {L : Nat → Int64} {kt : Nat → Int32} {km : Nat → Int32} {kl : Nat → Int32} {pt : Nat → Int32} {pm : Nat → Int32} {pl : Nat → Int32} {nu : Nat → Int32} {le : Nat → Int32} {ow : Nat → Int32} {fo : Nat → Int32} {run : Bool} {wc : Nat} {lc : Nat} {tr : Nat} {cl : Nat} {tm : Nat} {ms : Nat} {yl : Nat → Int32} {yc : Nat → Int32} {yt : Nat → Int32} {co : Nat} {pa : Int32} {su : Nat} {sc : Nat} {mc : Nat → Int32} {k : Nat}   (hk : k < 26) : Met l yX1_tell wsX1_tell ({ frames := 1, cells := 0, slots := 0, locals := 21 }) (zPc B kr kp D (zTy cI cJ cZ) (zWT cI cJ h (n, L) (kt, km, kl) (pt, pm, pl) (nu, le, ow, fo, run, wc, lc, tr, cl, tm, ms) (yl, yc, yt, co, pa, su, sc) mc ++ R) [.ref (h 3), .int (nI k), .int 2]) (zQi B D (zWT cI cJ h (n, L) (kt, km, kl) (pt, pm, pl) (nu, le, ow, fo, run, wc, lc, tr, cl, tm, ms) (yl, yc, yt, co, pa, su, sc) mc ++ R) (kl k)) 0 0 (zAb B) := by
  refine Met.ofW (cc := cX1_tell) (maxL := 3) (ret := (some .int)) (by decide) rfl ?_
  intro p e s m args below meth c s₁ B0 hml hv
  obtain ⟨rfl, hP, hD, hK, hE, hB⟩ := hv
  have hx := B0.exec
  have hb := B0.bytes
  have hr := B0.returns
  have hts := atoms_spec (ws := wsX1_tell) B0.pre
  have hown : s.vm.findClass RX1 = some m.cls := findClass_of_methodNamed B0.named
  have hlocks := B0.notSynchronized
  have hA : ∀ q : Nat, s.heap.size ≤ q → zAb B q := fun q hq => Nat.le_trans hB hq
  have hS : va_S (zAb B) s.heap s.heap [] := va_S.rf
  have hl := lv_entry ([.ref (h 3), .int (nI k), .int 2]) (n := 3) (Nat.le_of_ble_eq_true rfl)
  rw [lg_entry_eq]
  generalize (lg_sl ([.ref (h 3), .int (nI k), .int 2]) ++ List.replicate (3 - (lg_sl ([.ref (h 3), .int (nI k), .int 2])).length) Slot.unset).toArray = ls at hl ⊢
  have hl : lv_has ls 3 [(0, .ref (h 3)), (1, .int (nI k)), (2, .int 2)] := hl
  have hinX1 : ∀ w ∈ wsX10, w ∈ wsX1_tell := fun _ h => List.mem_cons_of_mem _ (List.mem_append_right _ h)
  have hP : va_P D vwCl (zWT cI cJ h (n, L) (kt, km, kl) (pt, pm, pl) (nu, le, ow, fo, run, wc, lc, tr, cl, tm, ms) (yl, yc, yt, co, pa, su, sc) mc ++ R) s.heap := hP
  have hD : va_D (zAb B) (zWT cI cJ h (n, L) (kt, km, kl) (pt, pm, pl) (nu, le, ow, fo, run, wc, lc, tr, cl, tm, ms) (yl, yc, yt, co, pa, su, sc) mc ++ R) := hD
  refine lv_iload_n hx hb dX1_tell_0 rfl (lv_at hl 2 rfl) ?_
  refine lv_lookup (x := 2) (off := 45) (tgt := 46) hx hb dX1_tell_1 (by decide) (by decide) (by decide) ?_
  refine lv_aload_n hx hb dX1_tell_46 rfl (lv_at hl 0 rfl) ?_
  refine va_get (ci := 1) (v := .ref (h 6)) (C := RX1) (T := TX1) (N := 3) hx hb hts hinX1 hown hK hP 3 rfl rfl 2 (by decide) (hts (.fieldLink RX1 24 "TypingTutor$Knowledge" "levels" "[I") (List.mem_of_getElem? (i := 3) rfl)) (fun _ h9 => h9) rfl dX1_tell_47 ?_
  refine lv_iload_n hx hb dX1_tell_50 rfl (lv_at hl 1 rfl) ?_
  refine zci (zrSN (As := [.ref (h 6), .int (nI k)]) (rest := []) ⟨hx, hb, hml, hown, hts⟩ (zS hP hD hK hE hB hS) (c_X4_read (q0 := 6) rfl (by omega)) ⟨va_cnB 2 hts gX1_tell_X4_read_n33 rfl rfl rfl (hE.1 _ (List.mem_of_getElem? (i := 5) rfl)) (hts (.initialized RX4) (List.mem_of_getElem? (i := 5) rfl)) hds_X4_read ⟨Nat.le_of_ble_eq_true rfl, Nat.le_of_ble_eq_true rfl⟩, (hts (.static yX4_read) (List.mem_of_getElem? (i := 4) rfl)), trivial⟩ rfl rfl hl.1 rfl (lv_room (Nat.le_of_ble_eq_true rfl)) dX1_tell_51 ⟨Nat.le_of_ble_eq_true rfl, Nat.le_of_ble_eq_true rfl⟩) hS (fun H locs hP hD hS => ?_)
  have hP : va_P D vwCl (zWT cI cJ h (n, L) (kt, km, kl) (pt, pm, pl) (nu, le, ow, fo, run, wc, lc, tr, cl, tm, ms) (yl, yc, yt, co, pa, su, sc) mc ++ R) _ := hP
  have hD : va_D (zAb B) (zWT cI cJ h (n, L) (kt, km, kl) (pt, pm, pl) (nu, le, ow, fo, run, wc, lc, tr, cl, tm, ms) (yl, yc, yt, co, pa, su, sc) mc ++ R) := hD
  rw [show (zrd 26 kl (nI k)) = (kl k) from (zrd_in (n := 26) (k := k) (f := kl) (by omega) (by omega))]
  exact W.iret (v := (kl k)) hx hb hr (fun t ht hW => ⟨⟨_, (), rfl, rfl, by rw [ht]; exact hP, hD⟩, hS.F ht⟩) hS.2.2 dX1_tell_54

set_option maxHeartbeats 4000000 in
set_option maxRecDepth 100000 in
theorem c_X1_learn_k {l : Launch} {B kr kp : Nat} {D : va_G} {cI cJ cZ : ClassId} {h : Nat → Nat} {R : va_W} {n : Nat} {L : Nat → Int64} {kt : Nat → Int32} {km : Nat → Int32} {kl : Nat → Int32} {pt : Nat → Int32} {pm : Nat → Int32} {pl : Nat → Int32} {nu : Nat → Int32} {le : Nat → Int32} {ow : Nat → Int32} {fo : Nat → Int32} {run : Bool} {wc : Nat} {lc : Nat} {tr : Nat} {cl : Nat} {tm : Nat} {ms : Nat} {yl : Nat → Int32} {yc : Nat → Int32} {yt : Nat → Int32} {co : Nat} {pa : Int32} {su : Nat} {sc : Nat} {mc : Nat → Int32} {k : Nat} {b : Bool} {time : Int32}   (hk : k < 26) : Met l yX1_learn wsX1_learn ({ frames := 1, cells := 0, slots := 0, locals := 24 }) (zPc B kr kp D (zTy cI cJ cZ) (zWT cI cJ h (n, L) (kt, km, kl) (pt, pm, pl) (nu, le, ow, fo, run, wc, lc, tr, cl, tm, ms) (yl, yc, yt, co, pa, su, sc) mc ++ R) [.ref (h 3), .int (nI k), .int (zb b), .int time]) (zQv B D (zWT cI cJ h (n, L) ((zkt kt k), (zkm b km k), (zkl b kl k time)) (pt, pm, pl) (nu, le, ow, fo, run, wc, lc, tr, cl, tm, ms) (yl, yc, yt, co, pa, su, sc) mc ++ R)) 0 0 (zAb B) := by
  cases b with
  | true =>
    refine Met.ofW (cc := cX1_learn) (maxL := 6) (ret := none) (by decide) rfl ?_
    intro p e s m args below meth c s₁ B0 hml hv
    obtain ⟨rfl, hP, hD, hK, hE, hB⟩ := hv
    have hx := B0.exec
    have hb := B0.bytes
    have hr := B0.returns
    have hts := atoms_spec (ws := wsX1_learn) B0.pre
    have hown : s.vm.findClass RX1 = some m.cls := findClass_of_methodNamed B0.named
    have hlocks := B0.notSynchronized
    have hA : ∀ q : Nat, s.heap.size ≤ q → zAb B q := fun q hq => Nat.le_trans hB hq
    have hS : va_S (zAb B) s.heap s.heap [] := va_S.rf
    have hl := lv_entry ([.ref (h 3), .int (nI k), .int (zb true), .int time]) (n := 6) (Nat.le_of_ble_eq_true rfl)
    rw [lg_entry_eq]
    generalize (lg_sl ([.ref (h 3), .int (nI k), .int (zb true), .int time]) ++ List.replicate (6 - (lg_sl ([.ref (h 3), .int (nI k), .int (zb true), .int time])).length) Slot.unset).toArray = ls at hl ⊢
    have hl : lv_has ls 6 [(0, .ref (h 3)), (1, .int (nI k)), (2, .int 1), (3, .int time)] := hl
    have hinX1 : ∀ w ∈ wsX10, w ∈ wsX1_learn := fun _ h => List.mem_cons_of_mem _ (List.mem_append_right _ h)
    have hP : va_P D vwCl (zWT cI cJ h (n, L) (kt, km, kl) (pt, pm, pl) (nu, le, ow, fo, run, wc, lc, tr, cl, tm, ms) (yl, yc, yt, co, pa, su, sc) mc ++ R) s.heap := hP
    have hD : va_D (zAb B) (zWT cI cJ h (n, L) (kt, km, kl) (pt, pm, pl) (nu, le, ow, fo, run, wc, lc, tr, cl, tm, ms) (yl, yc, yt, co, pa, su, sc) mc ++ R) := hD
    refine lv_iload_n hx hb dX1_learn_0 rfl (lv_at hl 2 rfl) ?_
    refine lv_if_eq (tgt := 18) hx hb dX1_learn_1 (by decide) (fun c_1 => ?_) (fun c_1 => ?_)
    · skip
      exfalso; first | omega | (revert c_1; decide) | (exact absurd rfl c_1) | simp_all
    · skip
      refine lv_iconst (v := 0) hx hb dX1_learn_4 (by decide) ?_
      refine lv_sipush (v := 1000) hx hb dX1_learn_5 (by decide) ?_
      refine lv_iload_n hx hb dX1_learn_8 rfl (lv_at hl 3 rfl) ?_
      refine lv_iconst (v := 5) hx hb dX1_learn_9 (by decide) ?_
      refine lv_idiv hx hb dX1_learn_10 (by decide) ?_
      refine lv_isub hx hb dX1_learn_11 ?_
      refine va_mmax hx hb (hml.trans hl.1.symm) hown (hts (.methodLink RX1 9 Lib.Math.max.name) (List.mem_of_getElem? (i := 1) rfl)) (hts (.static Lib.Math.max.name) (List.mem_of_getElem? (i := 2) rfl)) (hts (.initialized "java/lang/Math") (List.mem_of_getElem? (i := 3) rfl)) (hts (.code Lib.Math.max.name Lib.Math.max.code 2 (some .int)) (List.mem_of_getElem? (i := 4) rfl)) (Nat.le_of_ble_eq_true rfl) (Nat.le_of_ble_eq_true rfl) (Nat.zero_le _) (Nat.zero_le _) dX1_learn_12 ?_
      refine lv_goto (tgt := 19) hx hb dX1_learn_15 (by decide) ?_
      refine lv_istore (lv' := [(4, .int (if 0 < (1000 - (time / 5)) then (1000 - (time / 5)) else 0)), (0, .ref (h 3)), (1, .int (nI k)), (2, .int 1), (3, .int time)]) hx hb dX1_learn_19 hl (by decide) rfl (fun ls hl => ?_)
      refine lv_aload_n hx hb dX1_learn_21 rfl (lv_at hl 1 rfl) ?_
      refine va_get (ci := 1) (v := .ref (h 6)) (C := RX1) (T := TX1) (N := 3) hx hb hts hinX1 hown hK hP 3 rfl rfl 2 (by decide) (hts (.fieldLink RX1 24 "TypingTutor$Knowledge" "levels" "[I") (List.mem_of_getElem? (i := 5) rfl)) (fun _ h9 => h9) rfl dX1_learn_22 ?_
      refine lv_iload_n hx hb dX1_learn_25 rfl (lv_at hl 2 rfl) ?_
      refine zci (zrSN (As := [.ref (h 6), .int (nI k)]) (rest := []) ⟨hx, hb, hml, hown, hts⟩ (zS hP hD hK hE hB hS) (c_X4_read (q0 := 6) rfl (by omega)) ⟨va_cnB 2 hts gX1_learn_X4_read_n33 rfl rfl rfl (hE.1 _ (List.mem_of_getElem? (i := 5) rfl)) (hts (.initialized RX4) (List.mem_of_getElem? (i := 9) rfl)) hds_X4_read ⟨Nat.le_of_ble_eq_true rfl, Nat.le_of_ble_eq_true rfl⟩, (hts (.static yX4_read) (List.mem_of_getElem? (i := 8) rfl)), trivial⟩ rfl rfl hl.1 rfl (lv_room (Nat.le_of_ble_eq_true rfl)) dX1_learn_26 ⟨Nat.le_of_ble_eq_true rfl, Nat.le_of_ble_eq_true rfl⟩) hS (fun H locs hP hD hS => ?_)
      have hP : va_P D vwCl (zWT cI cJ h (n, L) (kt, km, kl) (pt, pm, pl) (nu, le, ow, fo, run, wc, lc, tr, cl, tm, ms) (yl, yc, yt, co, pa, su, sc) mc ++ R) _ := hP
      have hD : va_D (zAb B) (zWT cI cJ h (n, L) (kt, km, kl) (pt, pm, pl) (nu, le, ow, fo, run, wc, lc, tr, cl, tm, ms) (yl, yc, yt, co, pa, su, sc) mc ++ R) := hD
      rw [show (zrd 26 kl (nI k)) = (kl k) from (zrd_in (n := 26) (k := k) (f := kl) (by omega) (by omega))]
      refine lv_istore (lv' := [(5, .int (kl k)), (4, .int (if 0 < (1000 - (time / 5)) then (1000 - (time / 5)) else 0)), (0, .ref (h 3)), (1, .int (nI k)), (2, .int 1), (3, .int time)]) hx hb dX1_learn_29 hl (by decide) rfl (fun ls hl => ?_)
      refine lv_aload_n hx hb dX1_learn_31 rfl (lv_at hl 2 rfl) ?_
      refine va_get (ci := 1) (v := .ref (h 4)) (C := RX1) (T := TX1) (N := 3) hx hb hts hinX1 hown hK hP 3 rfl rfl 0 (by decide) (hts (.fieldLink RX1 15 "TypingTutor$Knowledge" "tries" "[I") (List.mem_of_getElem? (i := 6) rfl)) (fun _ h9 => h9) rfl dX1_learn_32 ?_
      refine lv_iload_n hx hb dX1_learn_35 rfl (lv_at hl 3 rfl) ?_
      refine lv_aload_n hx hb dX1_learn_36 rfl (lv_at hl 2 rfl) ?_
      refine va_get (ci := 1) (v := .ref (h 4)) (C := RX1) (T := TX1) (N := 3) hx hb hts hinX1 hown hK hP 3 rfl rfl 0 (by decide) (hts (.fieldLink RX1 15 "TypingTutor$Knowledge" "tries" "[I") (List.mem_of_getElem? (i := 6) rfl)) (fun _ h9 => h9) rfl dX1_learn_37 ?_
      refine lv_iload_n hx hb dX1_learn_40 rfl (lv_at hl 3 rfl) ?_
      refine zci (zrSN (As := [.ref (h 4), .int (nI k)]) (rest := [.int (nI k), .ref (h 4)]) ⟨hx, hb, hml, hown, hts⟩ (zS hP hD hK hE hB hS) (c_X4_read (q0 := 4) rfl (by omega)) ⟨va_cnB 2 hts gX1_learn_X4_read_n33 rfl rfl rfl (hE.1 _ (List.mem_of_getElem? (i := 5) rfl)) (hts (.initialized RX4) (List.mem_of_getElem? (i := 9) rfl)) hds_X4_read ⟨Nat.le_of_ble_eq_true rfl, Nat.le_of_ble_eq_true rfl⟩, (hts (.static yX4_read) (List.mem_of_getElem? (i := 8) rfl)), trivial⟩ rfl rfl hl.1 rfl (lv_room (Nat.le_of_ble_eq_true rfl)) dX1_learn_41 ⟨Nat.le_of_ble_eq_true rfl, Nat.le_of_ble_eq_true rfl⟩) hS (fun H locs hP hD hS => ?_)
      have hP : va_P D vwCl (zWT cI cJ h (n, L) (kt, km, kl) (pt, pm, pl) (nu, le, ow, fo, run, wc, lc, tr, cl, tm, ms) (yl, yc, yt, co, pa, su, sc) mc ++ R) _ := hP
      have hD : va_D (zAb B) (zWT cI cJ h (n, L) (kt, km, kl) (pt, pm, pl) (nu, le, ow, fo, run, wc, lc, tr, cl, tm, ms) (yl, yc, yt, co, pa, su, sc) mc ++ R) := hD
      rw [show (zrd 26 kt (nI k)) = (kt k) from (zrd_in (n := 26) (k := k) (f := kt) (by omega) (by omega))]
      refine lv_iconst (v := 1) hx hb dX1_learn_44 (by decide) ?_
      refine lv_iadd hx hb dX1_learn_45 ?_
      refine zcv (zrSN (As := [.ref (h 4), .int (nI k), .int ((kt k) + 1)]) (rest := []) ⟨hx, hb, hml, hown, hts⟩ (zS hP hD hK hE hB hS) (c_X4_write (q0 := 4) rfl (by omega)) ⟨va_cnB 3 hts gX1_learn_X4_write_n37 rfl rfl rfl (hE.1 _ (List.mem_of_getElem? (i := 6) rfl)) (hts (.initialized RX4) (List.mem_of_getElem? (i := 9) rfl)) hds_X4_write ⟨Nat.le_of_ble_eq_true rfl, Nat.le_of_ble_eq_true rfl⟩, (hts (.static yX4_write) (List.mem_of_getElem? (i := 11) rfl)), trivial⟩ rfl rfl hl.1 rfl (lv_room (Nat.le_of_ble_eq_true rfl)) dX1_learn_46 ⟨Nat.le_of_ble_eq_true rfl, Nat.le_of_ble_eq_true rfl⟩) hS (fun H locs hP hD hS => ?_)
      have hP : va_P D vwCl (zWT cI cJ h (n, L) ((zwr 26 kt (nI k) ((kt k) + 1)), km, kl) (pt, pm, pl) (nu, le, ow, fo, run, wc, lc, tr, cl, tm, ms) (yl, yc, yt, co, pa, su, sc) mc ++ R) _ := hP
      have hD : va_D (zAb B) (zWT cI cJ h (n, L) ((zwr 26 kt (nI k) ((kt k) + 1)), km, kl) (pt, pm, pl) (nu, le, ow, fo, run, wc, lc, tr, cl, tm, ms) (yl, yc, yt, co, pa, su, sc) mc ++ R) := hD
      rw [show (zwr 26 kt (nI k) ((kt k) + 1)) = (upd kt k ((kt k) + 1)) from (zwr_in (n := 26) (k := k) (f := kt) (v := ((kt k) + 1)) (by omega) (by omega))] at hP hD
      have hP : va_P D vwCl (zWT cI cJ h (n, L) ((upd kt k ((kt k) + 1)), km, kl) (pt, pm, pl) (nu, le, ow, fo, run, wc, lc, tr, cl, tm, ms) (yl, yc, yt, co, pa, su, sc) mc ++ R) _ := hP
      have hD : va_D (zAb B) (zWT cI cJ h (n, L) ((upd kt k ((kt k) + 1)), km, kl) (pt, pm, pl) (nu, le, ow, fo, run, wc, lc, tr, cl, tm, ms) (yl, yc, yt, co, pa, su, sc) mc ++ R) := hD
      refine lv_iload_n hx hb dX1_learn_49 rfl (lv_at hl 4 rfl) ?_
      refine lv_if_ne (tgt := 71) hx hb dX1_learn_50 (by decide) (fun c_2 => ?_) (fun c_2 => ?_)
      · skip
        refine lv_aload_n hx hb dX1_learn_71 rfl (lv_at hl 2 rfl) ?_
        refine va_get (ci := 1) (v := .ref (h 6)) (C := RX1) (T := TX1) (N := 3) hx hb hts hinX1 hown hK hP 3 rfl rfl 2 (by decide) (hts (.fieldLink RX1 24 "TypingTutor$Knowledge" "levels" "[I") (List.mem_of_getElem? (i := 5) rfl)) (fun _ h9 => h9) rfl dX1_learn_72 ?_
        refine lv_iload_n hx hb dX1_learn_75 rfl (lv_at hl 3 rfl) ?_
        refine lv_iload hx hb dX1_learn_76 (lv_at hl 0 rfl) ?_
        refine lv_iload hx hb dX1_learn_78 (lv_at hl 1 rfl) ?_
        refine lv_iload hx hb dX1_learn_80 (lv_at hl 0 rfl) ?_
        refine lv_isub hx hb dX1_learn_82 ?_
        refine lv_iconst (v := 4) hx hb dX1_learn_83 (by decide) ?_
        refine lv_idiv hx hb dX1_learn_84 (by decide) ?_
        refine lv_iadd hx hb dX1_learn_85 ?_
        refine zcv (zrSN (As := [.ref (h 6), .int (nI k), .int ((kl k) + (((if 0 < (1000 - (time / 5)) then (1000 - (time / 5)) else 0) - (kl k)) / 4))]) (rest := []) ⟨hx, hb, hml, hown, hts⟩ (zS hP hD hK hE hB hS) (c_X4_write (q0 := 6) rfl (by omega)) ⟨va_cnB 3 hts gX1_learn_X4_write_n37 rfl rfl rfl (hE.1 _ (List.mem_of_getElem? (i := 6) rfl)) (hts (.initialized RX4) (List.mem_of_getElem? (i := 9) rfl)) hds_X4_write ⟨Nat.le_of_ble_eq_true rfl, Nat.le_of_ble_eq_true rfl⟩, (hts (.static yX4_write) (List.mem_of_getElem? (i := 11) rfl)), trivial⟩ rfl rfl hl.1 rfl (lv_room (Nat.le_of_ble_eq_true rfl)) dX1_learn_86 ⟨Nat.le_of_ble_eq_true rfl, Nat.le_of_ble_eq_true rfl⟩) hS (fun H locs hP hD hS => ?_)
        have hP : va_P D vwCl (zWT cI cJ h (n, L) ((upd kt k ((kt k) + 1)), km, (zwr 26 kl (nI k) ((kl k) + (((if 0 < (1000 - (time / 5)) then (1000 - (time / 5)) else 0) - (kl k)) / 4)))) (pt, pm, pl) (nu, le, ow, fo, run, wc, lc, tr, cl, tm, ms) (yl, yc, yt, co, pa, su, sc) mc ++ R) _ := hP
        have hD : va_D (zAb B) (zWT cI cJ h (n, L) ((upd kt k ((kt k) + 1)), km, (zwr 26 kl (nI k) ((kl k) + (((if 0 < (1000 - (time / 5)) then (1000 - (time / 5)) else 0) - (kl k)) / 4)))) (pt, pm, pl) (nu, le, ow, fo, run, wc, lc, tr, cl, tm, ms) (yl, yc, yt, co, pa, su, sc) mc ++ R) := hD
        rw [show (zwr 26 kl (nI k) ((kl k) + (((if 0 < (1000 - (time / 5)) then (1000 - (time / 5)) else 0) - (kl k)) / 4))) = (upd kl k ((kl k) + (((if 0 < (1000 - (time / 5)) then (1000 - (time / 5)) else 0) - (kl k)) / 4))) from (zwr_in (n := 26) (k := k) (f := kl) (v := ((kl k) + (((if 0 < (1000 - (time / 5)) then (1000 - (time / 5)) else 0) - (kl k)) / 4))) (by omega) (by omega))] at hP hD
        have hP : va_P D vwCl (zWT cI cJ h (n, L) ((upd kt k ((kt k) + 1)), km, (upd kl k ((kl k) + (((if 0 < (1000 - (time / 5)) then (1000 - (time / 5)) else 0) - (kl k)) / 4)))) (pt, pm, pl) (nu, le, ow, fo, run, wc, lc, tr, cl, tm, ms) (yl, yc, yt, co, pa, su, sc) mc ++ R) _ := hP
        have hD : va_D (zAb B) (zWT cI cJ h (n, L) ((upd kt k ((kt k) + 1)), km, (upd kl k ((kl k) + (((if 0 < (1000 - (time / 5)) then (1000 - (time / 5)) else 0) - (kl k)) / 4)))) (pt, pm, pl) (nu, le, ow, fo, run, wc, lc, tr, cl, tm, ms) (yl, yc, yt, co, pa, su, sc) mc ++ R) := hD
        exact W.vret hx hb hr (fun t ht hW => ⟨⟨(), rfl, trivial, by rw [ht]; exact hP, hD⟩, hS.F ht⟩) hS.2.2 dX1_learn_89
      · skip
        exfalso; first | omega | (revert c_2; decide) | (exact absurd rfl c_2) | simp_all
  | false =>
    refine Met.ofW (cc := cX1_learn) (maxL := 6) (ret := none) (by decide) rfl ?_
    intro p e s m args below meth c s₁ B0 hml hv
    obtain ⟨rfl, hP, hD, hK, hE, hB⟩ := hv
    have hx := B0.exec
    have hb := B0.bytes
    have hr := B0.returns
    have hts := atoms_spec (ws := wsX1_learn) B0.pre
    have hown : s.vm.findClass RX1 = some m.cls := findClass_of_methodNamed B0.named
    have hlocks := B0.notSynchronized
    have hA : ∀ q : Nat, s.heap.size ≤ q → zAb B q := fun q hq => Nat.le_trans hB hq
    have hS : va_S (zAb B) s.heap s.heap [] := va_S.rf
    have hl := lv_entry ([.ref (h 3), .int (nI k), .int (zb false), .int time]) (n := 6) (Nat.le_of_ble_eq_true rfl)
    rw [lg_entry_eq]
    generalize (lg_sl ([.ref (h 3), .int (nI k), .int (zb false), .int time]) ++ List.replicate (6 - (lg_sl ([.ref (h 3), .int (nI k), .int (zb false), .int time])).length) Slot.unset).toArray = ls at hl ⊢
    have hl : lv_has ls 6 [(0, .ref (h 3)), (1, .int (nI k)), (2, .int 0), (3, .int time)] := hl
    have hinX1 : ∀ w ∈ wsX10, w ∈ wsX1_learn := fun _ h => List.mem_cons_of_mem _ (List.mem_append_right _ h)
    have hP : va_P D vwCl (zWT cI cJ h (n, L) (kt, km, kl) (pt, pm, pl) (nu, le, ow, fo, run, wc, lc, tr, cl, tm, ms) (yl, yc, yt, co, pa, su, sc) mc ++ R) s.heap := hP
    have hD : va_D (zAb B) (zWT cI cJ h (n, L) (kt, km, kl) (pt, pm, pl) (nu, le, ow, fo, run, wc, lc, tr, cl, tm, ms) (yl, yc, yt, co, pa, su, sc) mc ++ R) := hD
    refine lv_iload_n hx hb dX1_learn_0 rfl (lv_at hl 2 rfl) ?_
    refine lv_if_eq (tgt := 18) hx hb dX1_learn_1 (by decide) (fun c_3 => ?_) (fun c_3 => ?_)
    · skip
      refine lv_iconst (v := 0) hx hb dX1_learn_18 (by decide) ?_
      refine lv_istore (lv' := [(4, .int 0), (0, .ref (h 3)), (1, .int (nI k)), (2, .int 0), (3, .int time)]) hx hb dX1_learn_19 hl (by decide) rfl (fun ls hl => ?_)
      refine lv_aload_n hx hb dX1_learn_21 rfl (lv_at hl 1 rfl) ?_
      refine va_get (ci := 1) (v := .ref (h 6)) (C := RX1) (T := TX1) (N := 3) hx hb hts hinX1 hown hK hP 3 rfl rfl 2 (by decide) (hts (.fieldLink RX1 24 "TypingTutor$Knowledge" "levels" "[I") (List.mem_of_getElem? (i := 5) rfl)) (fun _ h9 => h9) rfl dX1_learn_22 ?_
      refine lv_iload_n hx hb dX1_learn_25 rfl (lv_at hl 2 rfl) ?_
      refine zci (zrSN (As := [.ref (h 6), .int (nI k)]) (rest := []) ⟨hx, hb, hml, hown, hts⟩ (zS hP hD hK hE hB hS) (c_X4_read (q0 := 6) rfl (by omega)) ⟨va_cnB 2 hts gX1_learn_X4_read_n33 rfl rfl rfl (hE.1 _ (List.mem_of_getElem? (i := 5) rfl)) (hts (.initialized RX4) (List.mem_of_getElem? (i := 9) rfl)) hds_X4_read ⟨Nat.le_of_ble_eq_true rfl, Nat.le_of_ble_eq_true rfl⟩, (hts (.static yX4_read) (List.mem_of_getElem? (i := 8) rfl)), trivial⟩ rfl rfl hl.1 rfl (lv_room (Nat.le_of_ble_eq_true rfl)) dX1_learn_26 ⟨Nat.le_of_ble_eq_true rfl, Nat.le_of_ble_eq_true rfl⟩) hS (fun H locs hP hD hS => ?_)
      have hP : va_P D vwCl (zWT cI cJ h (n, L) (kt, km, kl) (pt, pm, pl) (nu, le, ow, fo, run, wc, lc, tr, cl, tm, ms) (yl, yc, yt, co, pa, su, sc) mc ++ R) _ := hP
      have hD : va_D (zAb B) (zWT cI cJ h (n, L) (kt, km, kl) (pt, pm, pl) (nu, le, ow, fo, run, wc, lc, tr, cl, tm, ms) (yl, yc, yt, co, pa, su, sc) mc ++ R) := hD
      rw [show (zrd 26 kl (nI k)) = (kl k) from (zrd_in (n := 26) (k := k) (f := kl) (by omega) (by omega))]
      refine lv_istore (lv' := [(5, .int (kl k)), (4, .int 0), (0, .ref (h 3)), (1, .int (nI k)), (2, .int 0), (3, .int time)]) hx hb dX1_learn_29 hl (by decide) rfl (fun ls hl => ?_)
      refine lv_aload_n hx hb dX1_learn_31 rfl (lv_at hl 2 rfl) ?_
      refine va_get (ci := 1) (v := .ref (h 4)) (C := RX1) (T := TX1) (N := 3) hx hb hts hinX1 hown hK hP 3 rfl rfl 0 (by decide) (hts (.fieldLink RX1 15 "TypingTutor$Knowledge" "tries" "[I") (List.mem_of_getElem? (i := 6) rfl)) (fun _ h9 => h9) rfl dX1_learn_32 ?_
      refine lv_iload_n hx hb dX1_learn_35 rfl (lv_at hl 3 rfl) ?_
      refine lv_aload_n hx hb dX1_learn_36 rfl (lv_at hl 2 rfl) ?_
      refine va_get (ci := 1) (v := .ref (h 4)) (C := RX1) (T := TX1) (N := 3) hx hb hts hinX1 hown hK hP 3 rfl rfl 0 (by decide) (hts (.fieldLink RX1 15 "TypingTutor$Knowledge" "tries" "[I") (List.mem_of_getElem? (i := 6) rfl)) (fun _ h9 => h9) rfl dX1_learn_37 ?_
      refine lv_iload_n hx hb dX1_learn_40 rfl (lv_at hl 3 rfl) ?_
      refine zci (zrSN (As := [.ref (h 4), .int (nI k)]) (rest := [.int (nI k), .ref (h 4)]) ⟨hx, hb, hml, hown, hts⟩ (zS hP hD hK hE hB hS) (c_X4_read (q0 := 4) rfl (by omega)) ⟨va_cnB 2 hts gX1_learn_X4_read_n33 rfl rfl rfl (hE.1 _ (List.mem_of_getElem? (i := 5) rfl)) (hts (.initialized RX4) (List.mem_of_getElem? (i := 9) rfl)) hds_X4_read ⟨Nat.le_of_ble_eq_true rfl, Nat.le_of_ble_eq_true rfl⟩, (hts (.static yX4_read) (List.mem_of_getElem? (i := 8) rfl)), trivial⟩ rfl rfl hl.1 rfl (lv_room (Nat.le_of_ble_eq_true rfl)) dX1_learn_41 ⟨Nat.le_of_ble_eq_true rfl, Nat.le_of_ble_eq_true rfl⟩) hS (fun H locs hP hD hS => ?_)
      have hP : va_P D vwCl (zWT cI cJ h (n, L) (kt, km, kl) (pt, pm, pl) (nu, le, ow, fo, run, wc, lc, tr, cl, tm, ms) (yl, yc, yt, co, pa, su, sc) mc ++ R) _ := hP
      have hD : va_D (zAb B) (zWT cI cJ h (n, L) (kt, km, kl) (pt, pm, pl) (nu, le, ow, fo, run, wc, lc, tr, cl, tm, ms) (yl, yc, yt, co, pa, su, sc) mc ++ R) := hD
      rw [show (zrd 26 kt (nI k)) = (kt k) from (zrd_in (n := 26) (k := k) (f := kt) (by omega) (by omega))]
      refine lv_iconst (v := 1) hx hb dX1_learn_44 (by decide) ?_
      refine lv_iadd hx hb dX1_learn_45 ?_
      refine zcv (zrSN (As := [.ref (h 4), .int (nI k), .int ((kt k) + 1)]) (rest := []) ⟨hx, hb, hml, hown, hts⟩ (zS hP hD hK hE hB hS) (c_X4_write (q0 := 4) rfl (by omega)) ⟨va_cnB 3 hts gX1_learn_X4_write_n37 rfl rfl rfl (hE.1 _ (List.mem_of_getElem? (i := 6) rfl)) (hts (.initialized RX4) (List.mem_of_getElem? (i := 9) rfl)) hds_X4_write ⟨Nat.le_of_ble_eq_true rfl, Nat.le_of_ble_eq_true rfl⟩, (hts (.static yX4_write) (List.mem_of_getElem? (i := 11) rfl)), trivial⟩ rfl rfl hl.1 rfl (lv_room (Nat.le_of_ble_eq_true rfl)) dX1_learn_46 ⟨Nat.le_of_ble_eq_true rfl, Nat.le_of_ble_eq_true rfl⟩) hS (fun H locs hP hD hS => ?_)
      have hP : va_P D vwCl (zWT cI cJ h (n, L) ((zwr 26 kt (nI k) ((kt k) + 1)), km, kl) (pt, pm, pl) (nu, le, ow, fo, run, wc, lc, tr, cl, tm, ms) (yl, yc, yt, co, pa, su, sc) mc ++ R) _ := hP
      have hD : va_D (zAb B) (zWT cI cJ h (n, L) ((zwr 26 kt (nI k) ((kt k) + 1)), km, kl) (pt, pm, pl) (nu, le, ow, fo, run, wc, lc, tr, cl, tm, ms) (yl, yc, yt, co, pa, su, sc) mc ++ R) := hD
      rw [show (zwr 26 kt (nI k) ((kt k) + 1)) = (upd kt k ((kt k) + 1)) from (zwr_in (n := 26) (k := k) (f := kt) (v := ((kt k) + 1)) (by omega) (by omega))] at hP hD
      have hP : va_P D vwCl (zWT cI cJ h (n, L) ((upd kt k ((kt k) + 1)), km, kl) (pt, pm, pl) (nu, le, ow, fo, run, wc, lc, tr, cl, tm, ms) (yl, yc, yt, co, pa, su, sc) mc ++ R) _ := hP
      have hD : va_D (zAb B) (zWT cI cJ h (n, L) ((upd kt k ((kt k) + 1)), km, kl) (pt, pm, pl) (nu, le, ow, fo, run, wc, lc, tr, cl, tm, ms) (yl, yc, yt, co, pa, su, sc) mc ++ R) := hD
      refine lv_iload_n hx hb dX1_learn_49 rfl (lv_at hl 4 rfl) ?_
      refine lv_if_ne (tgt := 71) hx hb dX1_learn_50 (by decide) (fun c_4 => ?_) (fun c_4 => ?_)
      · skip
        exfalso; first | omega | (revert c_4; decide) | (exact absurd rfl c_4) | simp_all
      · skip
        refine lv_aload_n hx hb dX1_learn_53 rfl (lv_at hl 2 rfl) ?_
        refine va_get (ci := 1) (v := .ref (h 5)) (C := RX1) (T := TX1) (N := 3) hx hb hts hinX1 hown hK hP 3 rfl rfl 1 (by decide) (hts (.fieldLink RX1 21 "TypingTutor$Knowledge" "misses" "[I") (List.mem_of_getElem? (i := 7) rfl)) (fun _ h9 => h9) rfl dX1_learn_54 ?_
        refine lv_iload_n hx hb dX1_learn_57 rfl (lv_at hl 3 rfl) ?_
        refine lv_aload_n hx hb dX1_learn_58 rfl (lv_at hl 2 rfl) ?_
        refine va_get (ci := 1) (v := .ref (h 5)) (C := RX1) (T := TX1) (N := 3) hx hb hts hinX1 hown hK hP 3 rfl rfl 1 (by decide) (hts (.fieldLink RX1 21 "TypingTutor$Knowledge" "misses" "[I") (List.mem_of_getElem? (i := 7) rfl)) (fun _ h9 => h9) rfl dX1_learn_59 ?_
        refine lv_iload_n hx hb dX1_learn_62 rfl (lv_at hl 3 rfl) ?_
        refine zci (zrSN (As := [.ref (h 5), .int (nI k)]) (rest := [.int (nI k), .ref (h 5)]) ⟨hx, hb, hml, hown, hts⟩ (zS hP hD hK hE hB hS) (c_X4_read (q0 := 5) rfl (by omega)) ⟨va_cnB 2 hts gX1_learn_X4_read_n33 rfl rfl rfl (hE.1 _ (List.mem_of_getElem? (i := 5) rfl)) (hts (.initialized RX4) (List.mem_of_getElem? (i := 9) rfl)) hds_X4_read ⟨Nat.le_of_ble_eq_true rfl, Nat.le_of_ble_eq_true rfl⟩, (hts (.static yX4_read) (List.mem_of_getElem? (i := 8) rfl)), trivial⟩ rfl rfl hl.1 rfl (lv_room (Nat.le_of_ble_eq_true rfl)) dX1_learn_63 ⟨Nat.le_of_ble_eq_true rfl, Nat.le_of_ble_eq_true rfl⟩) hS (fun H locs hP hD hS => ?_)
        have hP : va_P D vwCl (zWT cI cJ h (n, L) ((upd kt k ((kt k) + 1)), km, kl) (pt, pm, pl) (nu, le, ow, fo, run, wc, lc, tr, cl, tm, ms) (yl, yc, yt, co, pa, su, sc) mc ++ R) _ := hP
        have hD : va_D (zAb B) (zWT cI cJ h (n, L) ((upd kt k ((kt k) + 1)), km, kl) (pt, pm, pl) (nu, le, ow, fo, run, wc, lc, tr, cl, tm, ms) (yl, yc, yt, co, pa, su, sc) mc ++ R) := hD
        rw [show (zrd 26 km (nI k)) = (km k) from (zrd_in (n := 26) (k := k) (f := km) (by omega) (by omega))]
        refine lv_iconst (v := 1) hx hb dX1_learn_66 (by decide) ?_
        refine lv_iadd hx hb dX1_learn_67 ?_
        refine zcv (zrSN (As := [.ref (h 5), .int (nI k), .int ((km k) + 1)]) (rest := []) ⟨hx, hb, hml, hown, hts⟩ (zS hP hD hK hE hB hS) (c_X4_write (q0 := 5) rfl (by omega)) ⟨va_cnB 3 hts gX1_learn_X4_write_n37 rfl rfl rfl (hE.1 _ (List.mem_of_getElem? (i := 6) rfl)) (hts (.initialized RX4) (List.mem_of_getElem? (i := 9) rfl)) hds_X4_write ⟨Nat.le_of_ble_eq_true rfl, Nat.le_of_ble_eq_true rfl⟩, (hts (.static yX4_write) (List.mem_of_getElem? (i := 11) rfl)), trivial⟩ rfl rfl hl.1 rfl (lv_room (Nat.le_of_ble_eq_true rfl)) dX1_learn_68 ⟨Nat.le_of_ble_eq_true rfl, Nat.le_of_ble_eq_true rfl⟩) hS (fun H locs hP hD hS => ?_)
        have hP : va_P D vwCl (zWT cI cJ h (n, L) ((upd kt k ((kt k) + 1)), (zwr 26 km (nI k) ((km k) + 1)), kl) (pt, pm, pl) (nu, le, ow, fo, run, wc, lc, tr, cl, tm, ms) (yl, yc, yt, co, pa, su, sc) mc ++ R) _ := hP
        have hD : va_D (zAb B) (zWT cI cJ h (n, L) ((upd kt k ((kt k) + 1)), (zwr 26 km (nI k) ((km k) + 1)), kl) (pt, pm, pl) (nu, le, ow, fo, run, wc, lc, tr, cl, tm, ms) (yl, yc, yt, co, pa, su, sc) mc ++ R) := hD
        rw [show (zwr 26 km (nI k) ((km k) + 1)) = (upd km k ((km k) + 1)) from (zwr_in (n := 26) (k := k) (f := km) (v := ((km k) + 1)) (by omega) (by omega))] at hP hD
        have hP : va_P D vwCl (zWT cI cJ h (n, L) ((upd kt k ((kt k) + 1)), (upd km k ((km k) + 1)), kl) (pt, pm, pl) (nu, le, ow, fo, run, wc, lc, tr, cl, tm, ms) (yl, yc, yt, co, pa, su, sc) mc ++ R) _ := hP
        have hD : va_D (zAb B) (zWT cI cJ h (n, L) ((upd kt k ((kt k) + 1)), (upd km k ((km k) + 1)), kl) (pt, pm, pl) (nu, le, ow, fo, run, wc, lc, tr, cl, tm, ms) (yl, yc, yt, co, pa, su, sc) mc ++ R) := hD
        refine lv_aload_n hx hb dX1_learn_71 rfl (lv_at hl 2 rfl) ?_
        refine va_get (ci := 1) (v := .ref (h 6)) (C := RX1) (T := TX1) (N := 3) hx hb hts hinX1 hown hK hP 3 rfl rfl 2 (by decide) (hts (.fieldLink RX1 24 "TypingTutor$Knowledge" "levels" "[I") (List.mem_of_getElem? (i := 5) rfl)) (fun _ h9 => h9) rfl dX1_learn_72 ?_
        refine lv_iload_n hx hb dX1_learn_75 rfl (lv_at hl 3 rfl) ?_
        refine lv_iload hx hb dX1_learn_76 (lv_at hl 0 rfl) ?_
        refine lv_iload hx hb dX1_learn_78 (lv_at hl 1 rfl) ?_
        refine lv_iload hx hb dX1_learn_80 (lv_at hl 0 rfl) ?_
        refine lv_isub hx hb dX1_learn_82 ?_
        refine lv_iconst (v := 4) hx hb dX1_learn_83 (by decide) ?_
        refine lv_idiv hx hb dX1_learn_84 (by decide) ?_
        refine lv_iadd hx hb dX1_learn_85 ?_
        refine zcv (zrSN (As := [.ref (h 6), .int (nI k), .int ((kl k) + ((0 - (kl k)) / 4))]) (rest := []) ⟨hx, hb, hml, hown, hts⟩ (zS hP hD hK hE hB hS) (c_X4_write (q0 := 6) rfl (by omega)) ⟨va_cnB 3 hts gX1_learn_X4_write_n37 rfl rfl rfl (hE.1 _ (List.mem_of_getElem? (i := 6) rfl)) (hts (.initialized RX4) (List.mem_of_getElem? (i := 9) rfl)) hds_X4_write ⟨Nat.le_of_ble_eq_true rfl, Nat.le_of_ble_eq_true rfl⟩, (hts (.static yX4_write) (List.mem_of_getElem? (i := 11) rfl)), trivial⟩ rfl rfl hl.1 rfl (lv_room (Nat.le_of_ble_eq_true rfl)) dX1_learn_86 ⟨Nat.le_of_ble_eq_true rfl, Nat.le_of_ble_eq_true rfl⟩) hS (fun H locs hP hD hS => ?_)
        have hP : va_P D vwCl (zWT cI cJ h (n, L) ((upd kt k ((kt k) + 1)), (upd km k ((km k) + 1)), (zwr 26 kl (nI k) ((kl k) + ((0 - (kl k)) / 4)))) (pt, pm, pl) (nu, le, ow, fo, run, wc, lc, tr, cl, tm, ms) (yl, yc, yt, co, pa, su, sc) mc ++ R) _ := hP
        have hD : va_D (zAb B) (zWT cI cJ h (n, L) ((upd kt k ((kt k) + 1)), (upd km k ((km k) + 1)), (zwr 26 kl (nI k) ((kl k) + ((0 - (kl k)) / 4)))) (pt, pm, pl) (nu, le, ow, fo, run, wc, lc, tr, cl, tm, ms) (yl, yc, yt, co, pa, su, sc) mc ++ R) := hD
        rw [show (zwr 26 kl (nI k) ((kl k) + ((0 - (kl k)) / 4))) = (upd kl k ((kl k) + ((0 - (kl k)) / 4))) from (zwr_in (n := 26) (k := k) (f := kl) (v := ((kl k) + ((0 - (kl k)) / 4))) (by omega) (by omega))] at hP hD
        have hP : va_P D vwCl (zWT cI cJ h (n, L) ((upd kt k ((kt k) + 1)), (upd km k ((km k) + 1)), (upd kl k ((kl k) + ((0 - (kl k)) / 4)))) (pt, pm, pl) (nu, le, ow, fo, run, wc, lc, tr, cl, tm, ms) (yl, yc, yt, co, pa, su, sc) mc ++ R) _ := hP
        have hD : va_D (zAb B) (zWT cI cJ h (n, L) ((upd kt k ((kt k) + 1)), (upd km k ((km k) + 1)), (upd kl k ((kl k) + ((0 - (kl k)) / 4)))) (pt, pm, pl) (nu, le, ow, fo, run, wc, lc, tr, cl, tm, ms) (yl, yc, yt, co, pa, su, sc) mc ++ R) := hD
        exact W.vret hx hb hr (fun t ht hW => ⟨⟨(), rfl, trivial, by rw [ht]; exact hP, hD⟩, hS.F ht⟩) hS.2.2 dX1_learn_89
    · skip
      exfalso; first | omega | (revert c_3; decide) | (exact absurd rfl c_3) | simp_all

set_option maxHeartbeats 4000000 in
set_option maxRecDepth 100000 in
theorem c_X1_triesOf_p {l : Launch} {B kr kp : Nat} {D : va_G} {cI cJ cZ : ClassId} {h : Nat → Nat} {R : va_W} {n : Nat} {L : Nat → Int64} {kt : Nat → Int32} {km : Nat → Int32} {kl : Nat → Int32} {pt : Nat → Int32} {pm : Nat → Int32} {pl : Nat → Int32} {nu : Nat → Int32} {le : Nat → Int32} {ow : Nat → Int32} {fo : Nat → Int32} {run : Bool} {wc : Nat} {lc : Nat} {tr : Nat} {cl : Nat} {tm : Nat} {ms : Nat} {yl : Nat → Int32} {yc : Nat → Int32} {yt : Nat → Int32} {co : Nat} {pa : Int32} {su : Nat} {sc : Nat} {mc : Nat → Int32} {i : Int32}    : Met l yX1_triesOf wsX1_triesOf ({ frames := 1, cells := 0, slots := 0, locals := 21 }) (zPc B kr kp D (zTy cI cJ cZ) (zWT cI cJ h (n, L) (kt, km, kl) (pt, pm, pl) (nu, le, ow, fo, run, wc, lc, tr, cl, tm, ms) (yl, yc, yt, co, pa, su, sc) mc ++ R) [.ref (h 7), .int i]) (zQi B D (zWT cI cJ h (n, L) (kt, km, kl) (pt, pm, pl) (nu, le, ow, fo, run, wc, lc, tr, cl, tm, ms) (yl, yc, yt, co, pa, su, sc) mc ++ R) (zrd 676 pt i)) 0 0 (zAb B) := by
  refine Met.ofW (cc := cX1_triesOf) (maxL := 2) (ret := (some .int)) (by decide) rfl ?_
  intro p e s m args below meth c s₁ B0 hml hv
  obtain ⟨rfl, hP, hD, hK, hE, hB⟩ := hv
  have hx := B0.exec
  have hb := B0.bytes
  have hr := B0.returns
  have hts := atoms_spec (ws := wsX1_triesOf) B0.pre
  have hown : s.vm.findClass RX1 = some m.cls := findClass_of_methodNamed B0.named
  have hlocks := B0.notSynchronized
  have hA : ∀ q : Nat, s.heap.size ≤ q → zAb B q := fun q hq => Nat.le_trans hB hq
  have hS : va_S (zAb B) s.heap s.heap [] := va_S.rf
  have hl := lv_entry ([.ref (h 7), .int i]) (n := 2) (Nat.le_of_ble_eq_true rfl)
  rw [lg_entry_eq]
  generalize (lg_sl ([.ref (h 7), .int i]) ++ List.replicate (2 - (lg_sl ([.ref (h 7), .int i])).length) Slot.unset).toArray = ls at hl ⊢
  have hl : lv_has ls 2 [(0, .ref (h 7)), (1, .int i)] := hl
  have hinX1 : ∀ w ∈ wsX10, w ∈ wsX1_triesOf := fun _ h => List.mem_cons_of_mem _ (List.mem_append_right _ h)
  have hP : va_P D vwCl (zWT cI cJ h (n, L) (kt, km, kl) (pt, pm, pl) (nu, le, ow, fo, run, wc, lc, tr, cl, tm, ms) (yl, yc, yt, co, pa, su, sc) mc ++ R) s.heap := hP
  have hD : va_D (zAb B) (zWT cI cJ h (n, L) (kt, km, kl) (pt, pm, pl) (nu, le, ow, fo, run, wc, lc, tr, cl, tm, ms) (yl, yc, yt, co, pa, su, sc) mc ++ R) := hD
  refine lv_aload_n hx hb dX1_triesOf_0 rfl (lv_at hl 0 rfl) ?_
  refine va_get (ci := 1) (v := .ref (h 8)) (C := RX1) (T := TX1) (N := 3) hx hb hts hinX1 hown hK hP 7 rfl rfl 0 (by decide) (hts (.fieldLink RX1 15 "TypingTutor$Knowledge" "tries" "[I") (List.mem_of_getElem? (i := 1) rfl)) (fun _ h9 => h9) rfl dX1_triesOf_1 ?_
  refine lv_iload_n hx hb dX1_triesOf_4 rfl (lv_at hl 1 rfl) ?_
  refine zci (zrSN (As := [.ref (h 8), .int i]) (rest := []) ⟨hx, hb, hml, hown, hts⟩ (zS hP hD hK hE hB hS) (c_X4_read (q0 := 8) rfl (by omega)) ⟨va_cnB 2 hts gX1_triesOf_X4_read_n33 rfl rfl rfl (hE.1 _ (List.mem_of_getElem? (i := 5) rfl)) (hts (.initialized RX4) (List.mem_of_getElem? (i := 3) rfl)) hds_X4_read ⟨Nat.le_of_ble_eq_true rfl, Nat.le_of_ble_eq_true rfl⟩, (hts (.static yX4_read) (List.mem_of_getElem? (i := 2) rfl)), trivial⟩ rfl rfl hl.1 rfl (lv_room (Nat.le_of_ble_eq_true rfl)) dX1_triesOf_5 ⟨Nat.le_of_ble_eq_true rfl, Nat.le_of_ble_eq_true rfl⟩) hS (fun H locs hP hD hS => ?_)
  have hP : va_P D vwCl (zWT cI cJ h (n, L) (kt, km, kl) (pt, pm, pl) (nu, le, ow, fo, run, wc, lc, tr, cl, tm, ms) (yl, yc, yt, co, pa, su, sc) mc ++ R) _ := hP
  have hD : va_D (zAb B) (zWT cI cJ h (n, L) (kt, km, kl) (pt, pm, pl) (nu, le, ow, fo, run, wc, lc, tr, cl, tm, ms) (yl, yc, yt, co, pa, su, sc) mc ++ R) := hD
  exact W.iret (v := (zrd 676 pt i)) hx hb hr (fun t ht hW => ⟨⟨_, (), rfl, rfl, by rw [ht]; exact hP, hD⟩, hS.F ht⟩) hS.2.2 dX1_triesOf_8

set_option maxHeartbeats 4000000 in
set_option maxRecDepth 100000 in
theorem c_X1_levelOf_p {l : Launch} {B kr kp : Nat} {D : va_G} {cI cJ cZ : ClassId} {h : Nat → Nat} {R : va_W} {n : Nat} {L : Nat → Int64} {kt : Nat → Int32} {km : Nat → Int32} {kl : Nat → Int32} {pt : Nat → Int32} {pm : Nat → Int32} {pl : Nat → Int32} {nu : Nat → Int32} {le : Nat → Int32} {ow : Nat → Int32} {fo : Nat → Int32} {run : Bool} {wc : Nat} {lc : Nat} {tr : Nat} {cl : Nat} {tm : Nat} {ms : Nat} {yl : Nat → Int32} {yc : Nat → Int32} {yt : Nat → Int32} {co : Nat} {pa : Int32} {su : Nat} {sc : Nat} {mc : Nat → Int32} {i : Int32}    : Met l yX1_levelOf wsX1_levelOf ({ frames := 1, cells := 0, slots := 0, locals := 21 }) (zPc B kr kp D (zTy cI cJ cZ) (zWT cI cJ h (n, L) (kt, km, kl) (pt, pm, pl) (nu, le, ow, fo, run, wc, lc, tr, cl, tm, ms) (yl, yc, yt, co, pa, su, sc) mc ++ R) [.ref (h 7), .int i]) (zQi B D (zWT cI cJ h (n, L) (kt, km, kl) (pt, pm, pl) (nu, le, ow, fo, run, wc, lc, tr, cl, tm, ms) (yl, yc, yt, co, pa, su, sc) mc ++ R) (zrd 676 pl i)) 0 0 (zAb B) := by
  refine Met.ofW (cc := cX1_levelOf) (maxL := 2) (ret := (some .int)) (by decide) rfl ?_
  intro p e s m args below meth c s₁ B0 hml hv
  obtain ⟨rfl, hP, hD, hK, hE, hB⟩ := hv
  have hx := B0.exec
  have hb := B0.bytes
  have hr := B0.returns
  have hts := atoms_spec (ws := wsX1_levelOf) B0.pre
  have hown : s.vm.findClass RX1 = some m.cls := findClass_of_methodNamed B0.named
  have hlocks := B0.notSynchronized
  have hA : ∀ q : Nat, s.heap.size ≤ q → zAb B q := fun q hq => Nat.le_trans hB hq
  have hS : va_S (zAb B) s.heap s.heap [] := va_S.rf
  have hl := lv_entry ([.ref (h 7), .int i]) (n := 2) (Nat.le_of_ble_eq_true rfl)
  rw [lg_entry_eq]
  generalize (lg_sl ([.ref (h 7), .int i]) ++ List.replicate (2 - (lg_sl ([.ref (h 7), .int i])).length) Slot.unset).toArray = ls at hl ⊢
  have hl : lv_has ls 2 [(0, .ref (h 7)), (1, .int i)] := hl
  have hinX1 : ∀ w ∈ wsX10, w ∈ wsX1_levelOf := fun _ h => List.mem_cons_of_mem _ (List.mem_append_right _ h)
  have hP : va_P D vwCl (zWT cI cJ h (n, L) (kt, km, kl) (pt, pm, pl) (nu, le, ow, fo, run, wc, lc, tr, cl, tm, ms) (yl, yc, yt, co, pa, su, sc) mc ++ R) s.heap := hP
  have hD : va_D (zAb B) (zWT cI cJ h (n, L) (kt, km, kl) (pt, pm, pl) (nu, le, ow, fo, run, wc, lc, tr, cl, tm, ms) (yl, yc, yt, co, pa, su, sc) mc ++ R) := hD
  refine lv_aload_n hx hb dX1_levelOf_0 rfl (lv_at hl 0 rfl) ?_
  refine va_get (ci := 1) (v := .ref (h 10)) (C := RX1) (T := TX1) (N := 3) hx hb hts hinX1 hown hK hP 7 rfl rfl 2 (by decide) (hts (.fieldLink RX1 24 "TypingTutor$Knowledge" "levels" "[I") (List.mem_of_getElem? (i := 1) rfl)) (fun _ h9 => h9) rfl dX1_levelOf_1 ?_
  refine lv_iload_n hx hb dX1_levelOf_4 rfl (lv_at hl 1 rfl) ?_
  refine zci (zrSN (As := [.ref (h 10), .int i]) (rest := []) ⟨hx, hb, hml, hown, hts⟩ (zS hP hD hK hE hB hS) (c_X4_read (q0 := 10) rfl (by omega)) ⟨va_cnB 2 hts gX1_levelOf_X4_read_n33 rfl rfl rfl (hE.1 _ (List.mem_of_getElem? (i := 5) rfl)) (hts (.initialized RX4) (List.mem_of_getElem? (i := 3) rfl)) hds_X4_read ⟨Nat.le_of_ble_eq_true rfl, Nat.le_of_ble_eq_true rfl⟩, (hts (.static yX4_read) (List.mem_of_getElem? (i := 2) rfl)), trivial⟩ rfl rfl hl.1 rfl (lv_room (Nat.le_of_ble_eq_true rfl)) dX1_levelOf_5 ⟨Nat.le_of_ble_eq_true rfl, Nat.le_of_ble_eq_true rfl⟩) hS (fun H locs hP hD hS => ?_)
  have hP : va_P D vwCl (zWT cI cJ h (n, L) (kt, km, kl) (pt, pm, pl) (nu, le, ow, fo, run, wc, lc, tr, cl, tm, ms) (yl, yc, yt, co, pa, su, sc) mc ++ R) _ := hP
  have hD : va_D (zAb B) (zWT cI cJ h (n, L) (kt, km, kl) (pt, pm, pl) (nu, le, ow, fo, run, wc, lc, tr, cl, tm, ms) (yl, yc, yt, co, pa, su, sc) mc ++ R) := hD
  exact W.iret (v := (zrd 676 pl i)) hx hb hr (fun t ht hW => ⟨⟨_, (), rfl, rfl, by rw [ht]; exact hP, hD⟩, hS.F ht⟩) hS.2.2 dX1_levelOf_8

set_option maxHeartbeats 4000000 in
set_option maxRecDepth 100000 in
theorem c_X1_tell_p0 {l : Launch} {B kr kp : Nat} {D : va_G} {cI cJ cZ : ClassId} {h : Nat → Nat} {R : va_W} {n : Nat} {L : Nat → Int64} {kt : Nat → Int32} {km : Nat → Int32} {kl : Nat → Int32} {pt : Nat → Int32} {pm : Nat → Int32} {pl : Nat → Int32} {nu : Nat → Int32} {le : Nat → Int32} {ow : Nat → Int32} {fo : Nat → Int32} {run : Bool} {wc : Nat} {lc : Nat} {tr : Nat} {cl : Nat} {tm : Nat} {ms : Nat} {yl : Nat → Int32} {yc : Nat → Int32} {yt : Nat → Int32} {co : Nat} {pa : Int32} {su : Nat} {sc : Nat} {mc : Nat → Int32} {k : Nat}   (hk : k < 676) : Met l yX1_tell wsX1_tell ({ frames := 1, cells := 0, slots := 0, locals := 21 }) (zPc B kr kp D (zTy cI cJ cZ) (zWT cI cJ h (n, L) (kt, km, kl) (pt, pm, pl) (nu, le, ow, fo, run, wc, lc, tr, cl, tm, ms) (yl, yc, yt, co, pa, su, sc) mc ++ R) [.ref (h 7), .int (nI k), .int 0]) (zQi B D (zWT cI cJ h (n, L) (kt, km, kl) (pt, pm, pl) (nu, le, ow, fo, run, wc, lc, tr, cl, tm, ms) (yl, yc, yt, co, pa, su, sc) mc ++ R) (pt k)) 0 0 (zAb B) := by
  refine Met.ofW (cc := cX1_tell) (maxL := 3) (ret := (some .int)) (by decide) rfl ?_
  intro p e s m args below meth c s₁ B0 hml hv
  obtain ⟨rfl, hP, hD, hK, hE, hB⟩ := hv
  have hx := B0.exec
  have hb := B0.bytes
  have hr := B0.returns
  have hts := atoms_spec (ws := wsX1_tell) B0.pre
  have hown : s.vm.findClass RX1 = some m.cls := findClass_of_methodNamed B0.named
  have hlocks := B0.notSynchronized
  have hA : ∀ q : Nat, s.heap.size ≤ q → zAb B q := fun q hq => Nat.le_trans hB hq
  have hS : va_S (zAb B) s.heap s.heap [] := va_S.rf
  have hl := lv_entry ([.ref (h 7), .int (nI k), .int 0]) (n := 3) (Nat.le_of_ble_eq_true rfl)
  rw [lg_entry_eq]
  generalize (lg_sl ([.ref (h 7), .int (nI k), .int 0]) ++ List.replicate (3 - (lg_sl ([.ref (h 7), .int (nI k), .int 0])).length) Slot.unset).toArray = ls at hl ⊢
  have hl : lv_has ls 3 [(0, .ref (h 7)), (1, .int (nI k)), (2, .int 0)] := hl
  have hinX1 : ∀ w ∈ wsX10, w ∈ wsX1_tell := fun _ h => List.mem_cons_of_mem _ (List.mem_append_right _ h)
  have hP : va_P D vwCl (zWT cI cJ h (n, L) (kt, km, kl) (pt, pm, pl) (nu, le, ow, fo, run, wc, lc, tr, cl, tm, ms) (yl, yc, yt, co, pa, su, sc) mc ++ R) s.heap := hP
  have hD : va_D (zAb B) (zWT cI cJ h (n, L) (kt, km, kl) (pt, pm, pl) (nu, le, ow, fo, run, wc, lc, tr, cl, tm, ms) (yl, yc, yt, co, pa, su, sc) mc ++ R) := hD
  refine lv_iload_n hx hb dX1_tell_0 rfl (lv_at hl 2 rfl) ?_
  refine lv_lookup (x := 0) (off := 27) (tgt := 28) hx hb dX1_tell_1 (by decide) (by decide) (by decide) ?_
  refine lv_aload_n hx hb dX1_tell_28 rfl (lv_at hl 0 rfl) ?_
  refine va_get (ci := 1) (v := .ref (h 8)) (C := RX1) (T := TX1) (N := 3) hx hb hts hinX1 hown hK hP 7 rfl rfl 0 (by decide) (hts (.fieldLink RX1 15 "TypingTutor$Knowledge" "tries" "[I") (List.mem_of_getElem? (i := 1) rfl)) (fun _ h9 => h9) rfl dX1_tell_29 ?_
  refine lv_iload_n hx hb dX1_tell_32 rfl (lv_at hl 1 rfl) ?_
  refine zci (zrSN (As := [.ref (h 8), .int (nI k)]) (rest := []) ⟨hx, hb, hml, hown, hts⟩ (zS hP hD hK hE hB hS) (c_X4_read (q0 := 8) rfl (by omega)) ⟨va_cnB 2 hts gX1_tell_X4_read_n33 rfl rfl rfl (hE.1 _ (List.mem_of_getElem? (i := 5) rfl)) (hts (.initialized RX4) (List.mem_of_getElem? (i := 5) rfl)) hds_X4_read ⟨Nat.le_of_ble_eq_true rfl, Nat.le_of_ble_eq_true rfl⟩, (hts (.static yX4_read) (List.mem_of_getElem? (i := 4) rfl)), trivial⟩ rfl rfl hl.1 rfl (lv_room (Nat.le_of_ble_eq_true rfl)) dX1_tell_33 ⟨Nat.le_of_ble_eq_true rfl, Nat.le_of_ble_eq_true rfl⟩) hS (fun H locs hP hD hS => ?_)
  have hP : va_P D vwCl (zWT cI cJ h (n, L) (kt, km, kl) (pt, pm, pl) (nu, le, ow, fo, run, wc, lc, tr, cl, tm, ms) (yl, yc, yt, co, pa, su, sc) mc ++ R) _ := hP
  have hD : va_D (zAb B) (zWT cI cJ h (n, L) (kt, km, kl) (pt, pm, pl) (nu, le, ow, fo, run, wc, lc, tr, cl, tm, ms) (yl, yc, yt, co, pa, su, sc) mc ++ R) := hD
  rw [show (zrd 676 pt (nI k)) = (pt k) from (zrd_in (n := 676) (k := k) (f := pt) (by omega) (by omega))]
  exact W.iret (v := (pt k)) hx hb hr (fun t ht hW => ⟨⟨_, (), rfl, rfl, by rw [ht]; exact hP, hD⟩, hS.F ht⟩) hS.2.2 dX1_tell_36

set_option maxHeartbeats 4000000 in
set_option maxRecDepth 100000 in
theorem c_X1_tell_p1 {l : Launch} {B kr kp : Nat} {D : va_G} {cI cJ cZ : ClassId} {h : Nat → Nat} {R : va_W} {n : Nat} {L : Nat → Int64} {kt : Nat → Int32} {km : Nat → Int32} {kl : Nat → Int32} {pt : Nat → Int32} {pm : Nat → Int32} {pl : Nat → Int32} {nu : Nat → Int32} {le : Nat → Int32} {ow : Nat → Int32} {fo : Nat → Int32} {run : Bool} {wc : Nat} {lc : Nat} {tr : Nat} {cl : Nat} {tm : Nat} {ms : Nat} {yl : Nat → Int32} {yc : Nat → Int32} {yt : Nat → Int32} {co : Nat} {pa : Int32} {su : Nat} {sc : Nat} {mc : Nat → Int32} {k : Nat}   (hk : k < 676) : Met l yX1_tell wsX1_tell ({ frames := 1, cells := 0, slots := 0, locals := 21 }) (zPc B kr kp D (zTy cI cJ cZ) (zWT cI cJ h (n, L) (kt, km, kl) (pt, pm, pl) (nu, le, ow, fo, run, wc, lc, tr, cl, tm, ms) (yl, yc, yt, co, pa, su, sc) mc ++ R) [.ref (h 7), .int (nI k), .int 1]) (zQi B D (zWT cI cJ h (n, L) (kt, km, kl) (pt, pm, pl) (nu, le, ow, fo, run, wc, lc, tr, cl, tm, ms) (yl, yc, yt, co, pa, su, sc) mc ++ R) (pm k)) 0 0 (zAb B) := by
  refine Met.ofW (cc := cX1_tell) (maxL := 3) (ret := (some .int)) (by decide) rfl ?_
  intro p e s m args below meth c s₁ B0 hml hv
  obtain ⟨rfl, hP, hD, hK, hE, hB⟩ := hv
  have hx := B0.exec
  have hb := B0.bytes
  have hr := B0.returns
  have hts := atoms_spec (ws := wsX1_tell) B0.pre
  have hown : s.vm.findClass RX1 = some m.cls := findClass_of_methodNamed B0.named
  have hlocks := B0.notSynchronized
  have hA : ∀ q : Nat, s.heap.size ≤ q → zAb B q := fun q hq => Nat.le_trans hB hq
  have hS : va_S (zAb B) s.heap s.heap [] := va_S.rf
  have hl := lv_entry ([.ref (h 7), .int (nI k), .int 1]) (n := 3) (Nat.le_of_ble_eq_true rfl)
  rw [lg_entry_eq]
  generalize (lg_sl ([.ref (h 7), .int (nI k), .int 1]) ++ List.replicate (3 - (lg_sl ([.ref (h 7), .int (nI k), .int 1])).length) Slot.unset).toArray = ls at hl ⊢
  have hl : lv_has ls 3 [(0, .ref (h 7)), (1, .int (nI k)), (2, .int 1)] := hl
  have hinX1 : ∀ w ∈ wsX10, w ∈ wsX1_tell := fun _ h => List.mem_cons_of_mem _ (List.mem_append_right _ h)
  have hP : va_P D vwCl (zWT cI cJ h (n, L) (kt, km, kl) (pt, pm, pl) (nu, le, ow, fo, run, wc, lc, tr, cl, tm, ms) (yl, yc, yt, co, pa, su, sc) mc ++ R) s.heap := hP
  have hD : va_D (zAb B) (zWT cI cJ h (n, L) (kt, km, kl) (pt, pm, pl) (nu, le, ow, fo, run, wc, lc, tr, cl, tm, ms) (yl, yc, yt, co, pa, su, sc) mc ++ R) := hD
  refine lv_iload_n hx hb dX1_tell_0 rfl (lv_at hl 2 rfl) ?_
  refine lv_lookup (x := 1) (off := 36) (tgt := 37) hx hb dX1_tell_1 (by decide) (by decide) (by decide) ?_
  refine lv_aload_n hx hb dX1_tell_37 rfl (lv_at hl 0 rfl) ?_
  refine va_get (ci := 1) (v := .ref (h 9)) (C := RX1) (T := TX1) (N := 3) hx hb hts hinX1 hown hK hP 7 rfl rfl 1 (by decide) (hts (.fieldLink RX1 21 "TypingTutor$Knowledge" "misses" "[I") (List.mem_of_getElem? (i := 2) rfl)) (fun _ h9 => h9) rfl dX1_tell_38 ?_
  refine lv_iload_n hx hb dX1_tell_41 rfl (lv_at hl 1 rfl) ?_
  refine zci (zrSN (As := [.ref (h 9), .int (nI k)]) (rest := []) ⟨hx, hb, hml, hown, hts⟩ (zS hP hD hK hE hB hS) (c_X4_read (q0 := 9) rfl (by omega)) ⟨va_cnB 2 hts gX1_tell_X4_read_n33 rfl rfl rfl (hE.1 _ (List.mem_of_getElem? (i := 5) rfl)) (hts (.initialized RX4) (List.mem_of_getElem? (i := 5) rfl)) hds_X4_read ⟨Nat.le_of_ble_eq_true rfl, Nat.le_of_ble_eq_true rfl⟩, (hts (.static yX4_read) (List.mem_of_getElem? (i := 4) rfl)), trivial⟩ rfl rfl hl.1 rfl (lv_room (Nat.le_of_ble_eq_true rfl)) dX1_tell_42 ⟨Nat.le_of_ble_eq_true rfl, Nat.le_of_ble_eq_true rfl⟩) hS (fun H locs hP hD hS => ?_)
  have hP : va_P D vwCl (zWT cI cJ h (n, L) (kt, km, kl) (pt, pm, pl) (nu, le, ow, fo, run, wc, lc, tr, cl, tm, ms) (yl, yc, yt, co, pa, su, sc) mc ++ R) _ := hP
  have hD : va_D (zAb B) (zWT cI cJ h (n, L) (kt, km, kl) (pt, pm, pl) (nu, le, ow, fo, run, wc, lc, tr, cl, tm, ms) (yl, yc, yt, co, pa, su, sc) mc ++ R) := hD
  rw [show (zrd 676 pm (nI k)) = (pm k) from (zrd_in (n := 676) (k := k) (f := pm) (by omega) (by omega))]
  exact W.iret (v := (pm k)) hx hb hr (fun t ht hW => ⟨⟨_, (), rfl, rfl, by rw [ht]; exact hP, hD⟩, hS.F ht⟩) hS.2.2 dX1_tell_45

set_option maxHeartbeats 4000000 in
set_option maxRecDepth 100000 in
theorem c_X1_tell_p2 {l : Launch} {B kr kp : Nat} {D : va_G} {cI cJ cZ : ClassId} {h : Nat → Nat} {R : va_W} {n : Nat} {L : Nat → Int64} {kt : Nat → Int32} {km : Nat → Int32} {kl : Nat → Int32} {pt : Nat → Int32} {pm : Nat → Int32} {pl : Nat → Int32} {nu : Nat → Int32} {le : Nat → Int32} {ow : Nat → Int32} {fo : Nat → Int32} {run : Bool} {wc : Nat} {lc : Nat} {tr : Nat} {cl : Nat} {tm : Nat} {ms : Nat} {yl : Nat → Int32} {yc : Nat → Int32} {yt : Nat → Int32} {co : Nat} {pa : Int32} {su : Nat} {sc : Nat} {mc : Nat → Int32} {k : Nat}   (hk : k < 676) : Met l yX1_tell wsX1_tell ({ frames := 1, cells := 0, slots := 0, locals := 21 }) (zPc B kr kp D (zTy cI cJ cZ) (zWT cI cJ h (n, L) (kt, km, kl) (pt, pm, pl) (nu, le, ow, fo, run, wc, lc, tr, cl, tm, ms) (yl, yc, yt, co, pa, su, sc) mc ++ R) [.ref (h 7), .int (nI k), .int 2]) (zQi B D (zWT cI cJ h (n, L) (kt, km, kl) (pt, pm, pl) (nu, le, ow, fo, run, wc, lc, tr, cl, tm, ms) (yl, yc, yt, co, pa, su, sc) mc ++ R) (pl k)) 0 0 (zAb B) := by
  refine Met.ofW (cc := cX1_tell) (maxL := 3) (ret := (some .int)) (by decide) rfl ?_
  intro p e s m args below meth c s₁ B0 hml hv
  obtain ⟨rfl, hP, hD, hK, hE, hB⟩ := hv
  have hx := B0.exec
  have hb := B0.bytes
  have hr := B0.returns
  have hts := atoms_spec (ws := wsX1_tell) B0.pre
  have hown : s.vm.findClass RX1 = some m.cls := findClass_of_methodNamed B0.named
  have hlocks := B0.notSynchronized
  have hA : ∀ q : Nat, s.heap.size ≤ q → zAb B q := fun q hq => Nat.le_trans hB hq
  have hS : va_S (zAb B) s.heap s.heap [] := va_S.rf
  have hl := lv_entry ([.ref (h 7), .int (nI k), .int 2]) (n := 3) (Nat.le_of_ble_eq_true rfl)
  rw [lg_entry_eq]
  generalize (lg_sl ([.ref (h 7), .int (nI k), .int 2]) ++ List.replicate (3 - (lg_sl ([.ref (h 7), .int (nI k), .int 2])).length) Slot.unset).toArray = ls at hl ⊢
  have hl : lv_has ls 3 [(0, .ref (h 7)), (1, .int (nI k)), (2, .int 2)] := hl
  have hinX1 : ∀ w ∈ wsX10, w ∈ wsX1_tell := fun _ h => List.mem_cons_of_mem _ (List.mem_append_right _ h)
  have hP : va_P D vwCl (zWT cI cJ h (n, L) (kt, km, kl) (pt, pm, pl) (nu, le, ow, fo, run, wc, lc, tr, cl, tm, ms) (yl, yc, yt, co, pa, su, sc) mc ++ R) s.heap := hP
  have hD : va_D (zAb B) (zWT cI cJ h (n, L) (kt, km, kl) (pt, pm, pl) (nu, le, ow, fo, run, wc, lc, tr, cl, tm, ms) (yl, yc, yt, co, pa, su, sc) mc ++ R) := hD
  refine lv_iload_n hx hb dX1_tell_0 rfl (lv_at hl 2 rfl) ?_
  refine lv_lookup (x := 2) (off := 45) (tgt := 46) hx hb dX1_tell_1 (by decide) (by decide) (by decide) ?_
  refine lv_aload_n hx hb dX1_tell_46 rfl (lv_at hl 0 rfl) ?_
  refine va_get (ci := 1) (v := .ref (h 10)) (C := RX1) (T := TX1) (N := 3) hx hb hts hinX1 hown hK hP 7 rfl rfl 2 (by decide) (hts (.fieldLink RX1 24 "TypingTutor$Knowledge" "levels" "[I") (List.mem_of_getElem? (i := 3) rfl)) (fun _ h9 => h9) rfl dX1_tell_47 ?_
  refine lv_iload_n hx hb dX1_tell_50 rfl (lv_at hl 1 rfl) ?_
  refine zci (zrSN (As := [.ref (h 10), .int (nI k)]) (rest := []) ⟨hx, hb, hml, hown, hts⟩ (zS hP hD hK hE hB hS) (c_X4_read (q0 := 10) rfl (by omega)) ⟨va_cnB 2 hts gX1_tell_X4_read_n33 rfl rfl rfl (hE.1 _ (List.mem_of_getElem? (i := 5) rfl)) (hts (.initialized RX4) (List.mem_of_getElem? (i := 5) rfl)) hds_X4_read ⟨Nat.le_of_ble_eq_true rfl, Nat.le_of_ble_eq_true rfl⟩, (hts (.static yX4_read) (List.mem_of_getElem? (i := 4) rfl)), trivial⟩ rfl rfl hl.1 rfl (lv_room (Nat.le_of_ble_eq_true rfl)) dX1_tell_51 ⟨Nat.le_of_ble_eq_true rfl, Nat.le_of_ble_eq_true rfl⟩) hS (fun H locs hP hD hS => ?_)
  have hP : va_P D vwCl (zWT cI cJ h (n, L) (kt, km, kl) (pt, pm, pl) (nu, le, ow, fo, run, wc, lc, tr, cl, tm, ms) (yl, yc, yt, co, pa, su, sc) mc ++ R) _ := hP
  have hD : va_D (zAb B) (zWT cI cJ h (n, L) (kt, km, kl) (pt, pm, pl) (nu, le, ow, fo, run, wc, lc, tr, cl, tm, ms) (yl, yc, yt, co, pa, su, sc) mc ++ R) := hD
  rw [show (zrd 676 pl (nI k)) = (pl k) from (zrd_in (n := 676) (k := k) (f := pl) (by omega) (by omega))]
  exact W.iret (v := (pl k)) hx hb hr (fun t ht hW => ⟨⟨_, (), rfl, rfl, by rw [ht]; exact hP, hD⟩, hS.F ht⟩) hS.2.2 dX1_tell_54

set_option maxHeartbeats 4000000 in
set_option maxRecDepth 100000 in
theorem c_X1_learn_p {l : Launch} {B kr kp : Nat} {D : va_G} {cI cJ cZ : ClassId} {h : Nat → Nat} {R : va_W} {n : Nat} {L : Nat → Int64} {kt : Nat → Int32} {km : Nat → Int32} {kl : Nat → Int32} {pt : Nat → Int32} {pm : Nat → Int32} {pl : Nat → Int32} {nu : Nat → Int32} {le : Nat → Int32} {ow : Nat → Int32} {fo : Nat → Int32} {run : Bool} {wc : Nat} {lc : Nat} {tr : Nat} {cl : Nat} {tm : Nat} {ms : Nat} {yl : Nat → Int32} {yc : Nat → Int32} {yt : Nat → Int32} {co : Nat} {pa : Int32} {su : Nat} {sc : Nat} {mc : Nat → Int32} {k : Nat} {b : Bool} {time : Int32}   (hk : k < 676) : Met l yX1_learn wsX1_learn ({ frames := 1, cells := 0, slots := 0, locals := 24 }) (zPc B kr kp D (zTy cI cJ cZ) (zWT cI cJ h (n, L) (kt, km, kl) (pt, pm, pl) (nu, le, ow, fo, run, wc, lc, tr, cl, tm, ms) (yl, yc, yt, co, pa, su, sc) mc ++ R) [.ref (h 7), .int (nI k), .int (zb b), .int time]) (zQv B D (zWT cI cJ h (n, L) (kt, km, kl) ((zkt pt k), (zkm b pm k), (zkl b pl k time)) (nu, le, ow, fo, run, wc, lc, tr, cl, tm, ms) (yl, yc, yt, co, pa, su, sc) mc ++ R)) 0 0 (zAb B) := by
  cases b with
  | true =>
    refine Met.ofW (cc := cX1_learn) (maxL := 6) (ret := none) (by decide) rfl ?_
    intro p e s m args below meth c s₁ B0 hml hv
    obtain ⟨rfl, hP, hD, hK, hE, hB⟩ := hv
    have hx := B0.exec
    have hb := B0.bytes
    have hr := B0.returns
    have hts := atoms_spec (ws := wsX1_learn) B0.pre
    have hown : s.vm.findClass RX1 = some m.cls := findClass_of_methodNamed B0.named
    have hlocks := B0.notSynchronized
    have hA : ∀ q : Nat, s.heap.size ≤ q → zAb B q := fun q hq => Nat.le_trans hB hq
    have hS : va_S (zAb B) s.heap s.heap [] := va_S.rf
    have hl := lv_entry ([.ref (h 7), .int (nI k), .int (zb true), .int time]) (n := 6) (Nat.le_of_ble_eq_true rfl)
    rw [lg_entry_eq]
    generalize (lg_sl ([.ref (h 7), .int (nI k), .int (zb true), .int time]) ++ List.replicate (6 - (lg_sl ([.ref (h 7), .int (nI k), .int (zb true), .int time])).length) Slot.unset).toArray = ls at hl ⊢
    have hl : lv_has ls 6 [(0, .ref (h 7)), (1, .int (nI k)), (2, .int 1), (3, .int time)] := hl
    have hinX1 : ∀ w ∈ wsX10, w ∈ wsX1_learn := fun _ h => List.mem_cons_of_mem _ (List.mem_append_right _ h)
    have hP : va_P D vwCl (zWT cI cJ h (n, L) (kt, km, kl) (pt, pm, pl) (nu, le, ow, fo, run, wc, lc, tr, cl, tm, ms) (yl, yc, yt, co, pa, su, sc) mc ++ R) s.heap := hP
    have hD : va_D (zAb B) (zWT cI cJ h (n, L) (kt, km, kl) (pt, pm, pl) (nu, le, ow, fo, run, wc, lc, tr, cl, tm, ms) (yl, yc, yt, co, pa, su, sc) mc ++ R) := hD
    refine lv_iload_n hx hb dX1_learn_0 rfl (lv_at hl 2 rfl) ?_
    refine lv_if_eq (tgt := 18) hx hb dX1_learn_1 (by decide) (fun c_1 => ?_) (fun c_1 => ?_)
    · skip
      exfalso; first | omega | (revert c_1; decide) | (exact absurd rfl c_1) | simp_all
    · skip
      refine lv_iconst (v := 0) hx hb dX1_learn_4 (by decide) ?_
      refine lv_sipush (v := 1000) hx hb dX1_learn_5 (by decide) ?_
      refine lv_iload_n hx hb dX1_learn_8 rfl (lv_at hl 3 rfl) ?_
      refine lv_iconst (v := 5) hx hb dX1_learn_9 (by decide) ?_
      refine lv_idiv hx hb dX1_learn_10 (by decide) ?_
      refine lv_isub hx hb dX1_learn_11 ?_
      refine va_mmax hx hb (hml.trans hl.1.symm) hown (hts (.methodLink RX1 9 Lib.Math.max.name) (List.mem_of_getElem? (i := 1) rfl)) (hts (.static Lib.Math.max.name) (List.mem_of_getElem? (i := 2) rfl)) (hts (.initialized "java/lang/Math") (List.mem_of_getElem? (i := 3) rfl)) (hts (.code Lib.Math.max.name Lib.Math.max.code 2 (some .int)) (List.mem_of_getElem? (i := 4) rfl)) (Nat.le_of_ble_eq_true rfl) (Nat.le_of_ble_eq_true rfl) (Nat.zero_le _) (Nat.zero_le _) dX1_learn_12 ?_
      refine lv_goto (tgt := 19) hx hb dX1_learn_15 (by decide) ?_
      refine lv_istore (lv' := [(4, .int (if 0 < (1000 - (time / 5)) then (1000 - (time / 5)) else 0)), (0, .ref (h 7)), (1, .int (nI k)), (2, .int 1), (3, .int time)]) hx hb dX1_learn_19 hl (by decide) rfl (fun ls hl => ?_)
      refine lv_aload_n hx hb dX1_learn_21 rfl (lv_at hl 1 rfl) ?_
      refine va_get (ci := 1) (v := .ref (h 10)) (C := RX1) (T := TX1) (N := 3) hx hb hts hinX1 hown hK hP 7 rfl rfl 2 (by decide) (hts (.fieldLink RX1 24 "TypingTutor$Knowledge" "levels" "[I") (List.mem_of_getElem? (i := 5) rfl)) (fun _ h9 => h9) rfl dX1_learn_22 ?_
      refine lv_iload_n hx hb dX1_learn_25 rfl (lv_at hl 2 rfl) ?_
      refine zci (zrSN (As := [.ref (h 10), .int (nI k)]) (rest := []) ⟨hx, hb, hml, hown, hts⟩ (zS hP hD hK hE hB hS) (c_X4_read (q0 := 10) rfl (by omega)) ⟨va_cnB 2 hts gX1_learn_X4_read_n33 rfl rfl rfl (hE.1 _ (List.mem_of_getElem? (i := 5) rfl)) (hts (.initialized RX4) (List.mem_of_getElem? (i := 9) rfl)) hds_X4_read ⟨Nat.le_of_ble_eq_true rfl, Nat.le_of_ble_eq_true rfl⟩, (hts (.static yX4_read) (List.mem_of_getElem? (i := 8) rfl)), trivial⟩ rfl rfl hl.1 rfl (lv_room (Nat.le_of_ble_eq_true rfl)) dX1_learn_26 ⟨Nat.le_of_ble_eq_true rfl, Nat.le_of_ble_eq_true rfl⟩) hS (fun H locs hP hD hS => ?_)
      have hP : va_P D vwCl (zWT cI cJ h (n, L) (kt, km, kl) (pt, pm, pl) (nu, le, ow, fo, run, wc, lc, tr, cl, tm, ms) (yl, yc, yt, co, pa, su, sc) mc ++ R) _ := hP
      have hD : va_D (zAb B) (zWT cI cJ h (n, L) (kt, km, kl) (pt, pm, pl) (nu, le, ow, fo, run, wc, lc, tr, cl, tm, ms) (yl, yc, yt, co, pa, su, sc) mc ++ R) := hD
      rw [show (zrd 676 pl (nI k)) = (pl k) from (zrd_in (n := 676) (k := k) (f := pl) (by omega) (by omega))]
      refine lv_istore (lv' := [(5, .int (pl k)), (4, .int (if 0 < (1000 - (time / 5)) then (1000 - (time / 5)) else 0)), (0, .ref (h 7)), (1, .int (nI k)), (2, .int 1), (3, .int time)]) hx hb dX1_learn_29 hl (by decide) rfl (fun ls hl => ?_)
      refine lv_aload_n hx hb dX1_learn_31 rfl (lv_at hl 2 rfl) ?_
      refine va_get (ci := 1) (v := .ref (h 8)) (C := RX1) (T := TX1) (N := 3) hx hb hts hinX1 hown hK hP 7 rfl rfl 0 (by decide) (hts (.fieldLink RX1 15 "TypingTutor$Knowledge" "tries" "[I") (List.mem_of_getElem? (i := 6) rfl)) (fun _ h9 => h9) rfl dX1_learn_32 ?_
      refine lv_iload_n hx hb dX1_learn_35 rfl (lv_at hl 3 rfl) ?_
      refine lv_aload_n hx hb dX1_learn_36 rfl (lv_at hl 2 rfl) ?_
      refine va_get (ci := 1) (v := .ref (h 8)) (C := RX1) (T := TX1) (N := 3) hx hb hts hinX1 hown hK hP 7 rfl rfl 0 (by decide) (hts (.fieldLink RX1 15 "TypingTutor$Knowledge" "tries" "[I") (List.mem_of_getElem? (i := 6) rfl)) (fun _ h9 => h9) rfl dX1_learn_37 ?_
      refine lv_iload_n hx hb dX1_learn_40 rfl (lv_at hl 3 rfl) ?_
      refine zci (zrSN (As := [.ref (h 8), .int (nI k)]) (rest := [.int (nI k), .ref (h 8)]) ⟨hx, hb, hml, hown, hts⟩ (zS hP hD hK hE hB hS) (c_X4_read (q0 := 8) rfl (by omega)) ⟨va_cnB 2 hts gX1_learn_X4_read_n33 rfl rfl rfl (hE.1 _ (List.mem_of_getElem? (i := 5) rfl)) (hts (.initialized RX4) (List.mem_of_getElem? (i := 9) rfl)) hds_X4_read ⟨Nat.le_of_ble_eq_true rfl, Nat.le_of_ble_eq_true rfl⟩, (hts (.static yX4_read) (List.mem_of_getElem? (i := 8) rfl)), trivial⟩ rfl rfl hl.1 rfl (lv_room (Nat.le_of_ble_eq_true rfl)) dX1_learn_41 ⟨Nat.le_of_ble_eq_true rfl, Nat.le_of_ble_eq_true rfl⟩) hS (fun H locs hP hD hS => ?_)
      have hP : va_P D vwCl (zWT cI cJ h (n, L) (kt, km, kl) (pt, pm, pl) (nu, le, ow, fo, run, wc, lc, tr, cl, tm, ms) (yl, yc, yt, co, pa, su, sc) mc ++ R) _ := hP
      have hD : va_D (zAb B) (zWT cI cJ h (n, L) (kt, km, kl) (pt, pm, pl) (nu, le, ow, fo, run, wc, lc, tr, cl, tm, ms) (yl, yc, yt, co, pa, su, sc) mc ++ R) := hD
      rw [show (zrd 676 pt (nI k)) = (pt k) from (zrd_in (n := 676) (k := k) (f := pt) (by omega) (by omega))]
      refine lv_iconst (v := 1) hx hb dX1_learn_44 (by decide) ?_
      refine lv_iadd hx hb dX1_learn_45 ?_
      refine zcv (zrSN (As := [.ref (h 8), .int (nI k), .int ((pt k) + 1)]) (rest := []) ⟨hx, hb, hml, hown, hts⟩ (zS hP hD hK hE hB hS) (c_X4_write (q0 := 8) rfl (by omega)) ⟨va_cnB 3 hts gX1_learn_X4_write_n37 rfl rfl rfl (hE.1 _ (List.mem_of_getElem? (i := 6) rfl)) (hts (.initialized RX4) (List.mem_of_getElem? (i := 9) rfl)) hds_X4_write ⟨Nat.le_of_ble_eq_true rfl, Nat.le_of_ble_eq_true rfl⟩, (hts (.static yX4_write) (List.mem_of_getElem? (i := 11) rfl)), trivial⟩ rfl rfl hl.1 rfl (lv_room (Nat.le_of_ble_eq_true rfl)) dX1_learn_46 ⟨Nat.le_of_ble_eq_true rfl, Nat.le_of_ble_eq_true rfl⟩) hS (fun H locs hP hD hS => ?_)
      have hP : va_P D vwCl (zWT cI cJ h (n, L) (kt, km, kl) ((zwr 676 pt (nI k) ((pt k) + 1)), pm, pl) (nu, le, ow, fo, run, wc, lc, tr, cl, tm, ms) (yl, yc, yt, co, pa, su, sc) mc ++ R) _ := hP
      have hD : va_D (zAb B) (zWT cI cJ h (n, L) (kt, km, kl) ((zwr 676 pt (nI k) ((pt k) + 1)), pm, pl) (nu, le, ow, fo, run, wc, lc, tr, cl, tm, ms) (yl, yc, yt, co, pa, su, sc) mc ++ R) := hD
      rw [show (zwr 676 pt (nI k) ((pt k) + 1)) = (upd pt k ((pt k) + 1)) from (zwr_in (n := 676) (k := k) (f := pt) (v := ((pt k) + 1)) (by omega) (by omega))] at hP hD
      have hP : va_P D vwCl (zWT cI cJ h (n, L) (kt, km, kl) ((upd pt k ((pt k) + 1)), pm, pl) (nu, le, ow, fo, run, wc, lc, tr, cl, tm, ms) (yl, yc, yt, co, pa, su, sc) mc ++ R) _ := hP
      have hD : va_D (zAb B) (zWT cI cJ h (n, L) (kt, km, kl) ((upd pt k ((pt k) + 1)), pm, pl) (nu, le, ow, fo, run, wc, lc, tr, cl, tm, ms) (yl, yc, yt, co, pa, su, sc) mc ++ R) := hD
      refine lv_iload_n hx hb dX1_learn_49 rfl (lv_at hl 4 rfl) ?_
      refine lv_if_ne (tgt := 71) hx hb dX1_learn_50 (by decide) (fun c_2 => ?_) (fun c_2 => ?_)
      · skip
        refine lv_aload_n hx hb dX1_learn_71 rfl (lv_at hl 2 rfl) ?_
        refine va_get (ci := 1) (v := .ref (h 10)) (C := RX1) (T := TX1) (N := 3) hx hb hts hinX1 hown hK hP 7 rfl rfl 2 (by decide) (hts (.fieldLink RX1 24 "TypingTutor$Knowledge" "levels" "[I") (List.mem_of_getElem? (i := 5) rfl)) (fun _ h9 => h9) rfl dX1_learn_72 ?_
        refine lv_iload_n hx hb dX1_learn_75 rfl (lv_at hl 3 rfl) ?_
        refine lv_iload hx hb dX1_learn_76 (lv_at hl 0 rfl) ?_
        refine lv_iload hx hb dX1_learn_78 (lv_at hl 1 rfl) ?_
        refine lv_iload hx hb dX1_learn_80 (lv_at hl 0 rfl) ?_
        refine lv_isub hx hb dX1_learn_82 ?_
        refine lv_iconst (v := 4) hx hb dX1_learn_83 (by decide) ?_
        refine lv_idiv hx hb dX1_learn_84 (by decide) ?_
        refine lv_iadd hx hb dX1_learn_85 ?_
        refine zcv (zrSN (As := [.ref (h 10), .int (nI k), .int ((pl k) + (((if 0 < (1000 - (time / 5)) then (1000 - (time / 5)) else 0) - (pl k)) / 4))]) (rest := []) ⟨hx, hb, hml, hown, hts⟩ (zS hP hD hK hE hB hS) (c_X4_write (q0 := 10) rfl (by omega)) ⟨va_cnB 3 hts gX1_learn_X4_write_n37 rfl rfl rfl (hE.1 _ (List.mem_of_getElem? (i := 6) rfl)) (hts (.initialized RX4) (List.mem_of_getElem? (i := 9) rfl)) hds_X4_write ⟨Nat.le_of_ble_eq_true rfl, Nat.le_of_ble_eq_true rfl⟩, (hts (.static yX4_write) (List.mem_of_getElem? (i := 11) rfl)), trivial⟩ rfl rfl hl.1 rfl (lv_room (Nat.le_of_ble_eq_true rfl)) dX1_learn_86 ⟨Nat.le_of_ble_eq_true rfl, Nat.le_of_ble_eq_true rfl⟩) hS (fun H locs hP hD hS => ?_)
        have hP : va_P D vwCl (zWT cI cJ h (n, L) (kt, km, kl) ((upd pt k ((pt k) + 1)), pm, (zwr 676 pl (nI k) ((pl k) + (((if 0 < (1000 - (time / 5)) then (1000 - (time / 5)) else 0) - (pl k)) / 4)))) (nu, le, ow, fo, run, wc, lc, tr, cl, tm, ms) (yl, yc, yt, co, pa, su, sc) mc ++ R) _ := hP
        have hD : va_D (zAb B) (zWT cI cJ h (n, L) (kt, km, kl) ((upd pt k ((pt k) + 1)), pm, (zwr 676 pl (nI k) ((pl k) + (((if 0 < (1000 - (time / 5)) then (1000 - (time / 5)) else 0) - (pl k)) / 4)))) (nu, le, ow, fo, run, wc, lc, tr, cl, tm, ms) (yl, yc, yt, co, pa, su, sc) mc ++ R) := hD
        rw [show (zwr 676 pl (nI k) ((pl k) + (((if 0 < (1000 - (time / 5)) then (1000 - (time / 5)) else 0) - (pl k)) / 4))) = (upd pl k ((pl k) + (((if 0 < (1000 - (time / 5)) then (1000 - (time / 5)) else 0) - (pl k)) / 4))) from (zwr_in (n := 676) (k := k) (f := pl) (v := ((pl k) + (((if 0 < (1000 - (time / 5)) then (1000 - (time / 5)) else 0) - (pl k)) / 4))) (by omega) (by omega))] at hP hD
        have hP : va_P D vwCl (zWT cI cJ h (n, L) (kt, km, kl) ((upd pt k ((pt k) + 1)), pm, (upd pl k ((pl k) + (((if 0 < (1000 - (time / 5)) then (1000 - (time / 5)) else 0) - (pl k)) / 4)))) (nu, le, ow, fo, run, wc, lc, tr, cl, tm, ms) (yl, yc, yt, co, pa, su, sc) mc ++ R) _ := hP
        have hD : va_D (zAb B) (zWT cI cJ h (n, L) (kt, km, kl) ((upd pt k ((pt k) + 1)), pm, (upd pl k ((pl k) + (((if 0 < (1000 - (time / 5)) then (1000 - (time / 5)) else 0) - (pl k)) / 4)))) (nu, le, ow, fo, run, wc, lc, tr, cl, tm, ms) (yl, yc, yt, co, pa, su, sc) mc ++ R) := hD
        exact W.vret hx hb hr (fun t ht hW => ⟨⟨(), rfl, trivial, by rw [ht]; exact hP, hD⟩, hS.F ht⟩) hS.2.2 dX1_learn_89
      · skip
        exfalso; first | omega | (revert c_2; decide) | (exact absurd rfl c_2) | simp_all
  | false =>
    refine Met.ofW (cc := cX1_learn) (maxL := 6) (ret := none) (by decide) rfl ?_
    intro p e s m args below meth c s₁ B0 hml hv
    obtain ⟨rfl, hP, hD, hK, hE, hB⟩ := hv
    have hx := B0.exec
    have hb := B0.bytes
    have hr := B0.returns
    have hts := atoms_spec (ws := wsX1_learn) B0.pre
    have hown : s.vm.findClass RX1 = some m.cls := findClass_of_methodNamed B0.named
    have hlocks := B0.notSynchronized
    have hA : ∀ q : Nat, s.heap.size ≤ q → zAb B q := fun q hq => Nat.le_trans hB hq
    have hS : va_S (zAb B) s.heap s.heap [] := va_S.rf
    have hl := lv_entry ([.ref (h 7), .int (nI k), .int (zb false), .int time]) (n := 6) (Nat.le_of_ble_eq_true rfl)
    rw [lg_entry_eq]
    generalize (lg_sl ([.ref (h 7), .int (nI k), .int (zb false), .int time]) ++ List.replicate (6 - (lg_sl ([.ref (h 7), .int (nI k), .int (zb false), .int time])).length) Slot.unset).toArray = ls at hl ⊢
    have hl : lv_has ls 6 [(0, .ref (h 7)), (1, .int (nI k)), (2, .int 0), (3, .int time)] := hl
    have hinX1 : ∀ w ∈ wsX10, w ∈ wsX1_learn := fun _ h => List.mem_cons_of_mem _ (List.mem_append_right _ h)
    have hP : va_P D vwCl (zWT cI cJ h (n, L) (kt, km, kl) (pt, pm, pl) (nu, le, ow, fo, run, wc, lc, tr, cl, tm, ms) (yl, yc, yt, co, pa, su, sc) mc ++ R) s.heap := hP
    have hD : va_D (zAb B) (zWT cI cJ h (n, L) (kt, km, kl) (pt, pm, pl) (nu, le, ow, fo, run, wc, lc, tr, cl, tm, ms) (yl, yc, yt, co, pa, su, sc) mc ++ R) := hD
    refine lv_iload_n hx hb dX1_learn_0 rfl (lv_at hl 2 rfl) ?_
    refine lv_if_eq (tgt := 18) hx hb dX1_learn_1 (by decide) (fun c_3 => ?_) (fun c_3 => ?_)
    · skip
      refine lv_iconst (v := 0) hx hb dX1_learn_18 (by decide) ?_
      refine lv_istore (lv' := [(4, .int 0), (0, .ref (h 7)), (1, .int (nI k)), (2, .int 0), (3, .int time)]) hx hb dX1_learn_19 hl (by decide) rfl (fun ls hl => ?_)
      refine lv_aload_n hx hb dX1_learn_21 rfl (lv_at hl 1 rfl) ?_
      refine va_get (ci := 1) (v := .ref (h 10)) (C := RX1) (T := TX1) (N := 3) hx hb hts hinX1 hown hK hP 7 rfl rfl 2 (by decide) (hts (.fieldLink RX1 24 "TypingTutor$Knowledge" "levels" "[I") (List.mem_of_getElem? (i := 5) rfl)) (fun _ h9 => h9) rfl dX1_learn_22 ?_
      refine lv_iload_n hx hb dX1_learn_25 rfl (lv_at hl 2 rfl) ?_
      refine zci (zrSN (As := [.ref (h 10), .int (nI k)]) (rest := []) ⟨hx, hb, hml, hown, hts⟩ (zS hP hD hK hE hB hS) (c_X4_read (q0 := 10) rfl (by omega)) ⟨va_cnB 2 hts gX1_learn_X4_read_n33 rfl rfl rfl (hE.1 _ (List.mem_of_getElem? (i := 5) rfl)) (hts (.initialized RX4) (List.mem_of_getElem? (i := 9) rfl)) hds_X4_read ⟨Nat.le_of_ble_eq_true rfl, Nat.le_of_ble_eq_true rfl⟩, (hts (.static yX4_read) (List.mem_of_getElem? (i := 8) rfl)), trivial⟩ rfl rfl hl.1 rfl (lv_room (Nat.le_of_ble_eq_true rfl)) dX1_learn_26 ⟨Nat.le_of_ble_eq_true rfl, Nat.le_of_ble_eq_true rfl⟩) hS (fun H locs hP hD hS => ?_)
      have hP : va_P D vwCl (zWT cI cJ h (n, L) (kt, km, kl) (pt, pm, pl) (nu, le, ow, fo, run, wc, lc, tr, cl, tm, ms) (yl, yc, yt, co, pa, su, sc) mc ++ R) _ := hP
      have hD : va_D (zAb B) (zWT cI cJ h (n, L) (kt, km, kl) (pt, pm, pl) (nu, le, ow, fo, run, wc, lc, tr, cl, tm, ms) (yl, yc, yt, co, pa, su, sc) mc ++ R) := hD
      rw [show (zrd 676 pl (nI k)) = (pl k) from (zrd_in (n := 676) (k := k) (f := pl) (by omega) (by omega))]
      refine lv_istore (lv' := [(5, .int (pl k)), (4, .int 0), (0, .ref (h 7)), (1, .int (nI k)), (2, .int 0), (3, .int time)]) hx hb dX1_learn_29 hl (by decide) rfl (fun ls hl => ?_)
      refine lv_aload_n hx hb dX1_learn_31 rfl (lv_at hl 2 rfl) ?_
      refine va_get (ci := 1) (v := .ref (h 8)) (C := RX1) (T := TX1) (N := 3) hx hb hts hinX1 hown hK hP 7 rfl rfl 0 (by decide) (hts (.fieldLink RX1 15 "TypingTutor$Knowledge" "tries" "[I") (List.mem_of_getElem? (i := 6) rfl)) (fun _ h9 => h9) rfl dX1_learn_32 ?_
      refine lv_iload_n hx hb dX1_learn_35 rfl (lv_at hl 3 rfl) ?_
      refine lv_aload_n hx hb dX1_learn_36 rfl (lv_at hl 2 rfl) ?_
      refine va_get (ci := 1) (v := .ref (h 8)) (C := RX1) (T := TX1) (N := 3) hx hb hts hinX1 hown hK hP 7 rfl rfl 0 (by decide) (hts (.fieldLink RX1 15 "TypingTutor$Knowledge" "tries" "[I") (List.mem_of_getElem? (i := 6) rfl)) (fun _ h9 => h9) rfl dX1_learn_37 ?_
      refine lv_iload_n hx hb dX1_learn_40 rfl (lv_at hl 3 rfl) ?_
      refine zci (zrSN (As := [.ref (h 8), .int (nI k)]) (rest := [.int (nI k), .ref (h 8)]) ⟨hx, hb, hml, hown, hts⟩ (zS hP hD hK hE hB hS) (c_X4_read (q0 := 8) rfl (by omega)) ⟨va_cnB 2 hts gX1_learn_X4_read_n33 rfl rfl rfl (hE.1 _ (List.mem_of_getElem? (i := 5) rfl)) (hts (.initialized RX4) (List.mem_of_getElem? (i := 9) rfl)) hds_X4_read ⟨Nat.le_of_ble_eq_true rfl, Nat.le_of_ble_eq_true rfl⟩, (hts (.static yX4_read) (List.mem_of_getElem? (i := 8) rfl)), trivial⟩ rfl rfl hl.1 rfl (lv_room (Nat.le_of_ble_eq_true rfl)) dX1_learn_41 ⟨Nat.le_of_ble_eq_true rfl, Nat.le_of_ble_eq_true rfl⟩) hS (fun H locs hP hD hS => ?_)
      have hP : va_P D vwCl (zWT cI cJ h (n, L) (kt, km, kl) (pt, pm, pl) (nu, le, ow, fo, run, wc, lc, tr, cl, tm, ms) (yl, yc, yt, co, pa, su, sc) mc ++ R) _ := hP
      have hD : va_D (zAb B) (zWT cI cJ h (n, L) (kt, km, kl) (pt, pm, pl) (nu, le, ow, fo, run, wc, lc, tr, cl, tm, ms) (yl, yc, yt, co, pa, su, sc) mc ++ R) := hD
      rw [show (zrd 676 pt (nI k)) = (pt k) from (zrd_in (n := 676) (k := k) (f := pt) (by omega) (by omega))]
      refine lv_iconst (v := 1) hx hb dX1_learn_44 (by decide) ?_
      refine lv_iadd hx hb dX1_learn_45 ?_
      refine zcv (zrSN (As := [.ref (h 8), .int (nI k), .int ((pt k) + 1)]) (rest := []) ⟨hx, hb, hml, hown, hts⟩ (zS hP hD hK hE hB hS) (c_X4_write (q0 := 8) rfl (by omega)) ⟨va_cnB 3 hts gX1_learn_X4_write_n37 rfl rfl rfl (hE.1 _ (List.mem_of_getElem? (i := 6) rfl)) (hts (.initialized RX4) (List.mem_of_getElem? (i := 9) rfl)) hds_X4_write ⟨Nat.le_of_ble_eq_true rfl, Nat.le_of_ble_eq_true rfl⟩, (hts (.static yX4_write) (List.mem_of_getElem? (i := 11) rfl)), trivial⟩ rfl rfl hl.1 rfl (lv_room (Nat.le_of_ble_eq_true rfl)) dX1_learn_46 ⟨Nat.le_of_ble_eq_true rfl, Nat.le_of_ble_eq_true rfl⟩) hS (fun H locs hP hD hS => ?_)
      have hP : va_P D vwCl (zWT cI cJ h (n, L) (kt, km, kl) ((zwr 676 pt (nI k) ((pt k) + 1)), pm, pl) (nu, le, ow, fo, run, wc, lc, tr, cl, tm, ms) (yl, yc, yt, co, pa, su, sc) mc ++ R) _ := hP
      have hD : va_D (zAb B) (zWT cI cJ h (n, L) (kt, km, kl) ((zwr 676 pt (nI k) ((pt k) + 1)), pm, pl) (nu, le, ow, fo, run, wc, lc, tr, cl, tm, ms) (yl, yc, yt, co, pa, su, sc) mc ++ R) := hD
      rw [show (zwr 676 pt (nI k) ((pt k) + 1)) = (upd pt k ((pt k) + 1)) from (zwr_in (n := 676) (k := k) (f := pt) (v := ((pt k) + 1)) (by omega) (by omega))] at hP hD
      have hP : va_P D vwCl (zWT cI cJ h (n, L) (kt, km, kl) ((upd pt k ((pt k) + 1)), pm, pl) (nu, le, ow, fo, run, wc, lc, tr, cl, tm, ms) (yl, yc, yt, co, pa, su, sc) mc ++ R) _ := hP
      have hD : va_D (zAb B) (zWT cI cJ h (n, L) (kt, km, kl) ((upd pt k ((pt k) + 1)), pm, pl) (nu, le, ow, fo, run, wc, lc, tr, cl, tm, ms) (yl, yc, yt, co, pa, su, sc) mc ++ R) := hD
      refine lv_iload_n hx hb dX1_learn_49 rfl (lv_at hl 4 rfl) ?_
      refine lv_if_ne (tgt := 71) hx hb dX1_learn_50 (by decide) (fun c_4 => ?_) (fun c_4 => ?_)
      · skip
        exfalso; first | omega | (revert c_4; decide) | (exact absurd rfl c_4) | simp_all
      · skip
        refine lv_aload_n hx hb dX1_learn_53 rfl (lv_at hl 2 rfl) ?_
        refine va_get (ci := 1) (v := .ref (h 9)) (C := RX1) (T := TX1) (N := 3) hx hb hts hinX1 hown hK hP 7 rfl rfl 1 (by decide) (hts (.fieldLink RX1 21 "TypingTutor$Knowledge" "misses" "[I") (List.mem_of_getElem? (i := 7) rfl)) (fun _ h9 => h9) rfl dX1_learn_54 ?_
        refine lv_iload_n hx hb dX1_learn_57 rfl (lv_at hl 3 rfl) ?_
        refine lv_aload_n hx hb dX1_learn_58 rfl (lv_at hl 2 rfl) ?_
        refine va_get (ci := 1) (v := .ref (h 9)) (C := RX1) (T := TX1) (N := 3) hx hb hts hinX1 hown hK hP 7 rfl rfl 1 (by decide) (hts (.fieldLink RX1 21 "TypingTutor$Knowledge" "misses" "[I") (List.mem_of_getElem? (i := 7) rfl)) (fun _ h9 => h9) rfl dX1_learn_59 ?_
        refine lv_iload_n hx hb dX1_learn_62 rfl (lv_at hl 3 rfl) ?_
        refine zci (zrSN (As := [.ref (h 9), .int (nI k)]) (rest := [.int (nI k), .ref (h 9)]) ⟨hx, hb, hml, hown, hts⟩ (zS hP hD hK hE hB hS) (c_X4_read (q0 := 9) rfl (by omega)) ⟨va_cnB 2 hts gX1_learn_X4_read_n33 rfl rfl rfl (hE.1 _ (List.mem_of_getElem? (i := 5) rfl)) (hts (.initialized RX4) (List.mem_of_getElem? (i := 9) rfl)) hds_X4_read ⟨Nat.le_of_ble_eq_true rfl, Nat.le_of_ble_eq_true rfl⟩, (hts (.static yX4_read) (List.mem_of_getElem? (i := 8) rfl)), trivial⟩ rfl rfl hl.1 rfl (lv_room (Nat.le_of_ble_eq_true rfl)) dX1_learn_63 ⟨Nat.le_of_ble_eq_true rfl, Nat.le_of_ble_eq_true rfl⟩) hS (fun H locs hP hD hS => ?_)
        have hP : va_P D vwCl (zWT cI cJ h (n, L) (kt, km, kl) ((upd pt k ((pt k) + 1)), pm, pl) (nu, le, ow, fo, run, wc, lc, tr, cl, tm, ms) (yl, yc, yt, co, pa, su, sc) mc ++ R) _ := hP
        have hD : va_D (zAb B) (zWT cI cJ h (n, L) (kt, km, kl) ((upd pt k ((pt k) + 1)), pm, pl) (nu, le, ow, fo, run, wc, lc, tr, cl, tm, ms) (yl, yc, yt, co, pa, su, sc) mc ++ R) := hD
        rw [show (zrd 676 pm (nI k)) = (pm k) from (zrd_in (n := 676) (k := k) (f := pm) (by omega) (by omega))]
        refine lv_iconst (v := 1) hx hb dX1_learn_66 (by decide) ?_
        refine lv_iadd hx hb dX1_learn_67 ?_
        refine zcv (zrSN (As := [.ref (h 9), .int (nI k), .int ((pm k) + 1)]) (rest := []) ⟨hx, hb, hml, hown, hts⟩ (zS hP hD hK hE hB hS) (c_X4_write (q0 := 9) rfl (by omega)) ⟨va_cnB 3 hts gX1_learn_X4_write_n37 rfl rfl rfl (hE.1 _ (List.mem_of_getElem? (i := 6) rfl)) (hts (.initialized RX4) (List.mem_of_getElem? (i := 9) rfl)) hds_X4_write ⟨Nat.le_of_ble_eq_true rfl, Nat.le_of_ble_eq_true rfl⟩, (hts (.static yX4_write) (List.mem_of_getElem? (i := 11) rfl)), trivial⟩ rfl rfl hl.1 rfl (lv_room (Nat.le_of_ble_eq_true rfl)) dX1_learn_68 ⟨Nat.le_of_ble_eq_true rfl, Nat.le_of_ble_eq_true rfl⟩) hS (fun H locs hP hD hS => ?_)
        have hP : va_P D vwCl (zWT cI cJ h (n, L) (kt, km, kl) ((upd pt k ((pt k) + 1)), (zwr 676 pm (nI k) ((pm k) + 1)), pl) (nu, le, ow, fo, run, wc, lc, tr, cl, tm, ms) (yl, yc, yt, co, pa, su, sc) mc ++ R) _ := hP
        have hD : va_D (zAb B) (zWT cI cJ h (n, L) (kt, km, kl) ((upd pt k ((pt k) + 1)), (zwr 676 pm (nI k) ((pm k) + 1)), pl) (nu, le, ow, fo, run, wc, lc, tr, cl, tm, ms) (yl, yc, yt, co, pa, su, sc) mc ++ R) := hD
        rw [show (zwr 676 pm (nI k) ((pm k) + 1)) = (upd pm k ((pm k) + 1)) from (zwr_in (n := 676) (k := k) (f := pm) (v := ((pm k) + 1)) (by omega) (by omega))] at hP hD
        have hP : va_P D vwCl (zWT cI cJ h (n, L) (kt, km, kl) ((upd pt k ((pt k) + 1)), (upd pm k ((pm k) + 1)), pl) (nu, le, ow, fo, run, wc, lc, tr, cl, tm, ms) (yl, yc, yt, co, pa, su, sc) mc ++ R) _ := hP
        have hD : va_D (zAb B) (zWT cI cJ h (n, L) (kt, km, kl) ((upd pt k ((pt k) + 1)), (upd pm k ((pm k) + 1)), pl) (nu, le, ow, fo, run, wc, lc, tr, cl, tm, ms) (yl, yc, yt, co, pa, su, sc) mc ++ R) := hD
        refine lv_aload_n hx hb dX1_learn_71 rfl (lv_at hl 2 rfl) ?_
        refine va_get (ci := 1) (v := .ref (h 10)) (C := RX1) (T := TX1) (N := 3) hx hb hts hinX1 hown hK hP 7 rfl rfl 2 (by decide) (hts (.fieldLink RX1 24 "TypingTutor$Knowledge" "levels" "[I") (List.mem_of_getElem? (i := 5) rfl)) (fun _ h9 => h9) rfl dX1_learn_72 ?_
        refine lv_iload_n hx hb dX1_learn_75 rfl (lv_at hl 3 rfl) ?_
        refine lv_iload hx hb dX1_learn_76 (lv_at hl 0 rfl) ?_
        refine lv_iload hx hb dX1_learn_78 (lv_at hl 1 rfl) ?_
        refine lv_iload hx hb dX1_learn_80 (lv_at hl 0 rfl) ?_
        refine lv_isub hx hb dX1_learn_82 ?_
        refine lv_iconst (v := 4) hx hb dX1_learn_83 (by decide) ?_
        refine lv_idiv hx hb dX1_learn_84 (by decide) ?_
        refine lv_iadd hx hb dX1_learn_85 ?_
        refine zcv (zrSN (As := [.ref (h 10), .int (nI k), .int ((pl k) + ((0 - (pl k)) / 4))]) (rest := []) ⟨hx, hb, hml, hown, hts⟩ (zS hP hD hK hE hB hS) (c_X4_write (q0 := 10) rfl (by omega)) ⟨va_cnB 3 hts gX1_learn_X4_write_n37 rfl rfl rfl (hE.1 _ (List.mem_of_getElem? (i := 6) rfl)) (hts (.initialized RX4) (List.mem_of_getElem? (i := 9) rfl)) hds_X4_write ⟨Nat.le_of_ble_eq_true rfl, Nat.le_of_ble_eq_true rfl⟩, (hts (.static yX4_write) (List.mem_of_getElem? (i := 11) rfl)), trivial⟩ rfl rfl hl.1 rfl (lv_room (Nat.le_of_ble_eq_true rfl)) dX1_learn_86 ⟨Nat.le_of_ble_eq_true rfl, Nat.le_of_ble_eq_true rfl⟩) hS (fun H locs hP hD hS => ?_)
        have hP : va_P D vwCl (zWT cI cJ h (n, L) (kt, km, kl) ((upd pt k ((pt k) + 1)), (upd pm k ((pm k) + 1)), (zwr 676 pl (nI k) ((pl k) + ((0 - (pl k)) / 4)))) (nu, le, ow, fo, run, wc, lc, tr, cl, tm, ms) (yl, yc, yt, co, pa, su, sc) mc ++ R) _ := hP
        have hD : va_D (zAb B) (zWT cI cJ h (n, L) (kt, km, kl) ((upd pt k ((pt k) + 1)), (upd pm k ((pm k) + 1)), (zwr 676 pl (nI k) ((pl k) + ((0 - (pl k)) / 4)))) (nu, le, ow, fo, run, wc, lc, tr, cl, tm, ms) (yl, yc, yt, co, pa, su, sc) mc ++ R) := hD
        rw [show (zwr 676 pl (nI k) ((pl k) + ((0 - (pl k)) / 4))) = (upd pl k ((pl k) + ((0 - (pl k)) / 4))) from (zwr_in (n := 676) (k := k) (f := pl) (v := ((pl k) + ((0 - (pl k)) / 4))) (by omega) (by omega))] at hP hD
        have hP : va_P D vwCl (zWT cI cJ h (n, L) (kt, km, kl) ((upd pt k ((pt k) + 1)), (upd pm k ((pm k) + 1)), (upd pl k ((pl k) + ((0 - (pl k)) / 4)))) (nu, le, ow, fo, run, wc, lc, tr, cl, tm, ms) (yl, yc, yt, co, pa, su, sc) mc ++ R) _ := hP
        have hD : va_D (zAb B) (zWT cI cJ h (n, L) (kt, km, kl) ((upd pt k ((pt k) + 1)), (upd pm k ((pm k) + 1)), (upd pl k ((pl k) + ((0 - (pl k)) / 4)))) (nu, le, ow, fo, run, wc, lc, tr, cl, tm, ms) (yl, yc, yt, co, pa, su, sc) mc ++ R) := hD
        exact W.vret hx hb hr (fun t ht hW => ⟨⟨(), rfl, trivial, by rw [ht]; exact hP, hD⟩, hS.F ht⟩) hS.2.2 dX1_learn_89
    · skip
      exfalso; first | omega | (revert c_3; decide) | (exact absurd rfl c_3) | simp_all

set_option maxHeartbeats 4000000 in
set_option maxRecDepth 100000 in
theorem c_X2_letterHere {l : Launch} {B kr kp : Nat} {D : va_G} {cI cJ cZ : ClassId} {h : Nat → Nat} {R : va_W} {n : Nat} {L : Nat → Int64} {kt : Nat → Int32} {km : Nat → Int32} {kl : Nat → Int32} {pt : Nat → Int32} {pm : Nat → Int32} {pl : Nat → Int32} {nu : Nat → Int32} {le : Nat → Int32} {ow : Nat → Int32} {fo : Nat → Int32} {run : Bool} {wc : Nat} {lc : Nat} {tr : Nat} {cl : Nat} {tm : Nat} {ms : Nat} {yl : Nat → Int32} {yc : Nat → Int32} {yt : Nat → Int32} {co : Nat} {pa : Int32} {su : Nat} {sc : Nat} {mc : Nat → Int32}    (htr : tr < 48) : Met l yX2_letterHere wsX2_letterHere ({ frames := 1, cells := 0, slots := 0, locals := 21 }) (zPc B kr kp D (zTy cI cJ cZ) (zWT cI cJ h (n, L) (kt, km, kl) (pt, pm, pl) (nu, le, ow, fo, run, wc, lc, tr, cl, tm, ms) (yl, yc, yt, co, pa, su, sc) mc ++ R) [.ref (h 11)]) (zQi B D (zWT cI cJ h (n, L) (kt, km, kl) (pt, pm, pl) (nu, le, ow, fo, run, wc, lc, tr, cl, tm, ms) (yl, yc, yt, co, pa, su, sc) mc ++ R) (le tr)) 0 0 (zAb B) := by
  refine Met.ofW (cc := cX2_letterHere) (maxL := 1) (ret := (some .int)) (by decide) rfl ?_
  intro p e s m args below meth c s₁ B0 hml hv
  obtain ⟨rfl, hP, hD, hK, hE, hB⟩ := hv
  have hx := B0.exec
  have hb := B0.bytes
  have hr := B0.returns
  have hts := atoms_spec (ws := wsX2_letterHere) B0.pre
  have hown : s.vm.findClass RX2 = some m.cls := findClass_of_methodNamed B0.named
  have hlocks := B0.notSynchronized
  have hA : ∀ q : Nat, s.heap.size ≤ q → zAb B q := fun q hq => Nat.le_trans hB hq
  have hS : va_S (zAb B) s.heap s.heap [] := va_S.rf
  have hl := lv_entry ([.ref (h 11)]) (n := 1) (Nat.le_of_ble_eq_true rfl)
  rw [lg_entry_eq]
  generalize (lg_sl ([.ref (h 11)]) ++ List.replicate (1 - (lg_sl ([.ref (h 11)])).length) Slot.unset).toArray = ls at hl ⊢
  have hl : lv_has ls 1 [(0, .ref (h 11))] := hl
  have hinX2 : ∀ w ∈ wsX20, w ∈ wsX2_letterHere := fun _ h => List.mem_cons_of_mem _ (List.mem_append_right _ h)
  have hP : va_P D vwCl (zWT cI cJ h (n, L) (kt, km, kl) (pt, pm, pl) (nu, le, ow, fo, run, wc, lc, tr, cl, tm, ms) (yl, yc, yt, co, pa, su, sc) mc ++ R) s.heap := hP
  have hD : va_D (zAb B) (zWT cI cJ h (n, L) (kt, km, kl) (pt, pm, pl) (nu, le, ow, fo, run, wc, lc, tr, cl, tm, ms) (yl, yc, yt, co, pa, su, sc) mc ++ R) := hD
  refine lv_aload_n hx hb dX2_letterHere_0 rfl (lv_at hl 0 rfl) ?_
  refine va_get (ci := 2) (v := .ref (h 13)) (C := RX2) (T := TX2) (N := 11) hx hb hts hinX2 hown hK hP 11 rfl rfl 1 (by decide) (hts (.fieldLink RX2 15 "TypingTutor$Lesson" "letters" "[I") (List.mem_of_getElem? (i := 1) rfl)) (fun _ h9 => h9) rfl dX2_letterHere_1 ?_
  refine lv_aload_n hx hb dX2_letterHere_4 rfl (lv_at hl 0 rfl) ?_
  refine va_get (ci := 2) (v := .int (nI tr)) (C := RX2) (T := TX2) (N := 11) hx hb hts hinX2 hown hK hP 11 rfl rfl 7 (by decide) (hts (.fieldLink RX2 35 "TypingTutor$Lesson" "tried" "I") (List.mem_of_getElem? (i := 2) rfl)) (fun _ h9 => h9) rfl dX2_letterHere_5 ?_
  refine zci (zrSN (As := [.ref (h 13), .int (nI tr)]) (rest := []) ⟨hx, hb, hml, hown, hts⟩ (zS hP hD hK hE hB hS) (c_X4_read (q0 := 13) rfl (by omega)) ⟨va_cnB 2 hts gX2_letterHere_X4_read_n47 rfl rfl rfl (hE.1 _ (List.mem_of_getElem? (i := 7) rfl)) (hts (.initialized RX4) (List.mem_of_getElem? (i := 4) rfl)) hds_X4_read ⟨Nat.le_of_ble_eq_true rfl, Nat.le_of_ble_eq_true rfl⟩, (hts (.static yX4_read) (List.mem_of_getElem? (i := 3) rfl)), trivial⟩ rfl rfl hl.1 rfl (lv_room (Nat.le_of_ble_eq_true rfl)) dX2_letterHere_8 ⟨Nat.le_of_ble_eq_true rfl, Nat.le_of_ble_eq_true rfl⟩) hS (fun H locs hP hD hS => ?_)
  have hP : va_P D vwCl (zWT cI cJ h (n, L) (kt, km, kl) (pt, pm, pl) (nu, le, ow, fo, run, wc, lc, tr, cl, tm, ms) (yl, yc, yt, co, pa, su, sc) mc ++ R) _ := hP
  have hD : va_D (zAb B) (zWT cI cJ h (n, L) (kt, km, kl) (pt, pm, pl) (nu, le, ow, fo, run, wc, lc, tr, cl, tm, ms) (yl, yc, yt, co, pa, su, sc) mc ++ R) := hD
  rw [show (zrd 48 le (nI tr)) = (le tr) from (zrd_in (n := 48) (k := tr) (f := le) (by omega) (by omega))]
  exact W.iret (v := (le tr)) hx hb hr (fun t ht hW => ⟨⟨_, (), rfl, rfl, by rw [ht]; exact hP, hD⟩, hS.F ht⟩) hS.2.2 dX2_letterHere_11

set_option maxHeartbeats 4000000 in
set_option maxRecDepth 100000 in
theorem c_X2_numberAt {l : Launch} {B kr kp : Nat} {D : va_G} {cI cJ cZ : ClassId} {h : Nat → Nat} {R : va_W} {n : Nat} {L : Nat → Int64} {kt : Nat → Int32} {km : Nat → Int32} {kl : Nat → Int32} {pt : Nat → Int32} {pm : Nat → Int32} {pl : Nat → Int32} {nu : Nat → Int32} {le : Nat → Int32} {ow : Nat → Int32} {fo : Nat → Int32} {run : Bool} {wc : Nat} {lc : Nat} {tr : Nat} {cl : Nat} {tm : Nat} {ms : Nat} {yl : Nat → Int32} {yc : Nat → Int32} {yt : Nat → Int32} {co : Nat} {pa : Int32} {su : Nat} {sc : Nat} {mc : Nat → Int32} {k : Nat}   (hk : k < 6) : Met l yX2_numberAt wsX2_numberAt ({ frames := 1, cells := 0, slots := 0, locals := 21 }) (zPc B kr kp D (zTy cI cJ cZ) (zWT cI cJ h (n, L) (kt, km, kl) (pt, pm, pl) (nu, le, ow, fo, run, wc, lc, tr, cl, tm, ms) (yl, yc, yt, co, pa, su, sc) mc ++ R) [.ref (h 11), .int (nI k)]) (zQi B D (zWT cI cJ h (n, L) (kt, km, kl) (pt, pm, pl) (nu, le, ow, fo, run, wc, lc, tr, cl, tm, ms) (yl, yc, yt, co, pa, su, sc) mc ++ R) (nu k)) 0 0 (zAb B) := by
  refine Met.ofW (cc := cX2_numberAt) (maxL := 2) (ret := (some .int)) (by decide) rfl ?_
  intro p e s m args below meth c s₁ B0 hml hv
  obtain ⟨rfl, hP, hD, hK, hE, hB⟩ := hv
  have hx := B0.exec
  have hb := B0.bytes
  have hr := B0.returns
  have hts := atoms_spec (ws := wsX2_numberAt) B0.pre
  have hown : s.vm.findClass RX2 = some m.cls := findClass_of_methodNamed B0.named
  have hlocks := B0.notSynchronized
  have hA : ∀ q : Nat, s.heap.size ≤ q → zAb B q := fun q hq => Nat.le_trans hB hq
  have hS : va_S (zAb B) s.heap s.heap [] := va_S.rf
  have hl := lv_entry ([.ref (h 11), .int (nI k)]) (n := 2) (Nat.le_of_ble_eq_true rfl)
  rw [lg_entry_eq]
  generalize (lg_sl ([.ref (h 11), .int (nI k)]) ++ List.replicate (2 - (lg_sl ([.ref (h 11), .int (nI k)])).length) Slot.unset).toArray = ls at hl ⊢
  have hl : lv_has ls 2 [(0, .ref (h 11)), (1, .int (nI k))] := hl
  have hinX2 : ∀ w ∈ wsX20, w ∈ wsX2_numberAt := fun _ h => List.mem_cons_of_mem _ (List.mem_append_right _ h)
  have hP : va_P D vwCl (zWT cI cJ h (n, L) (kt, km, kl) (pt, pm, pl) (nu, le, ow, fo, run, wc, lc, tr, cl, tm, ms) (yl, yc, yt, co, pa, su, sc) mc ++ R) s.heap := hP
  have hD : va_D (zAb B) (zWT cI cJ h (n, L) (kt, km, kl) (pt, pm, pl) (nu, le, ow, fo, run, wc, lc, tr, cl, tm, ms) (yl, yc, yt, co, pa, su, sc) mc ++ R) := hD
  refine lv_aload_n hx hb dX2_numberAt_0 rfl (lv_at hl 0 rfl) ?_
  refine va_get (ci := 2) (v := .ref (h 12)) (C := RX2) (T := TX2) (N := 11) hx hb hts hinX2 hown hK hP 11 rfl rfl 0 (by decide) (hts (.fieldLink RX2 9 "TypingTutor$Lesson" "numbers" "[I") (List.mem_of_getElem? (i := 1) rfl)) (fun _ h9 => h9) rfl dX2_numberAt_1 ?_
  refine lv_iload_n hx hb dX2_numberAt_4 rfl (lv_at hl 1 rfl) ?_
  refine zci (zrSN (As := [.ref (h 12), .int (nI k)]) (rest := []) ⟨hx, hb, hml, hown, hts⟩ (zS hP hD hK hE hB hS) (c_X4_read (q0 := 12) rfl (by omega)) ⟨va_cnB 2 hts gX2_numberAt_X4_read_n47 rfl rfl rfl (hE.1 _ (List.mem_of_getElem? (i := 7) rfl)) (hts (.initialized RX4) (List.mem_of_getElem? (i := 3) rfl)) hds_X4_read ⟨Nat.le_of_ble_eq_true rfl, Nat.le_of_ble_eq_true rfl⟩, (hts (.static yX4_read) (List.mem_of_getElem? (i := 2) rfl)), trivial⟩ rfl rfl hl.1 rfl (lv_room (Nat.le_of_ble_eq_true rfl)) dX2_numberAt_5 ⟨Nat.le_of_ble_eq_true rfl, Nat.le_of_ble_eq_true rfl⟩) hS (fun H locs hP hD hS => ?_)
  have hP : va_P D vwCl (zWT cI cJ h (n, L) (kt, km, kl) (pt, pm, pl) (nu, le, ow, fo, run, wc, lc, tr, cl, tm, ms) (yl, yc, yt, co, pa, su, sc) mc ++ R) _ := hP
  have hD : va_D (zAb B) (zWT cI cJ h (n, L) (kt, km, kl) (pt, pm, pl) (nu, le, ow, fo, run, wc, lc, tr, cl, tm, ms) (yl, yc, yt, co, pa, su, sc) mc ++ R) := hD
  rw [show (zrd 6 nu (nI k)) = (nu k) from (zrd_in (n := 6) (k := k) (f := nu) (by omega) (by omega))]
  exact W.iret (v := (nu k)) hx hb hr (fun t ht hW => ⟨⟨_, (), rfl, rfl, by rw [ht]; exact hP, hD⟩, hS.F ht⟩) hS.2.2 dX2_numberAt_8

set_option maxHeartbeats 4000000 in
set_option maxRecDepth 100000 in
theorem c_X2_letterInSameWord {l : Launch} {B kr kp : Nat} {D : va_G} {cI cJ cZ : ClassId} {h : Nat → Nat} {R : va_W} {n : Nat} {L : Nat → Int64} {kt : Nat → Int32} {km : Nat → Int32} {kl : Nat → Int32} {pt : Nat → Int32} {pm : Nat → Int32} {pl : Nat → Int32} {nu : Nat → Int32} {le : Nat → Int32} {ow : Nat → Int32} {fo : Nat → Int32} {run : Bool} {wc : Nat} {lc : Nat} {tr : Nat} {cl : Nat} {tm : Nat} {ms : Nat} {yl : Nat → Int32} {yc : Nat → Int32} {yt : Nat → Int32} {co : Nat} {pa : Int32} {su : Nat} {sc : Nat} {mc : Nat → Int32} {i : Int32}   (hlc : lc ≤ 48) (htr : tr < 48) : Met l yX2_letterInSameWord wsX2_letterInSameWord ({ frames := 1, cells := 0, slots := 0, locals := 21 }) (zPc B kr kp D (zTy cI cJ cZ) (zWT cI cJ h (n, L) (kt, km, kl) (pt, pm, pl) (nu, le, ow, fo, run, wc, lc, tr, cl, tm, ms) (yl, yc, yt, co, pa, su, sc) mc ++ R) [.ref (h 11), .int i]) (zQi B D (zWT cI cJ h (n, L) (kt, km, kl) (pt, pm, pl) (nu, le, ow, fo, run, wc, lc, tr, cl, tm, ms) (yl, yc, yt, co, pa, su, sc) mc ++ R) (zis le ow lc tr i)) 0 0 (zAb B) := by
  refine Met.ofW (cc := cX2_letterInSameWord) (maxL := 2) (ret := (some .int)) (by decide) rfl ?_
  intro p e s m args below meth c s₁ B0 hml hv
  obtain ⟨rfl, hP, hD, hK, hE, hB⟩ := hv
  have hx := B0.exec
  have hb := B0.bytes
  have hr := B0.returns
  have hts := atoms_spec (ws := wsX2_letterInSameWord) B0.pre
  have hown : s.vm.findClass RX2 = some m.cls := findClass_of_methodNamed B0.named
  have hlocks := B0.notSynchronized
  have hA : ∀ q : Nat, s.heap.size ≤ q → zAb B q := fun q hq => Nat.le_trans hB hq
  have hS : va_S (zAb B) s.heap s.heap [] := va_S.rf
  have hl := lv_entry ([.ref (h 11), .int i]) (n := 2) (Nat.le_of_ble_eq_true rfl)
  rw [lg_entry_eq]
  generalize (lg_sl ([.ref (h 11), .int i]) ++ List.replicate (2 - (lg_sl ([.ref (h 11), .int i])).length) Slot.unset).toArray = ls at hl ⊢
  have hl : lv_has ls 2 [(0, .ref (h 11)), (1, .int i)] := hl
  have hinX2 : ∀ w ∈ wsX20, w ∈ wsX2_letterInSameWord := fun _ h => List.mem_cons_of_mem _ (List.mem_append_right _ h)
  have hP : va_P D vwCl (zWT cI cJ h (n, L) (kt, km, kl) (pt, pm, pl) (nu, le, ow, fo, run, wc, lc, tr, cl, tm, ms) (yl, yc, yt, co, pa, su, sc) mc ++ R) s.heap := hP
  have hD : va_D (zAb B) (zWT cI cJ h (n, L) (kt, km, kl) (pt, pm, pl) (nu, le, ow, fo, run, wc, lc, tr, cl, tm, ms) (yl, yc, yt, co, pa, su, sc) mc ++ R) := hD
  refine lv_iload_n hx hb dX2_letterInSameWord_0 rfl (lv_at hl 1 rfl) ?_
  refine lv_if_lt (tgt := 34) hx hb dX2_letterInSameWord_1 (by decide) (fun c_1 => ?_) (fun c_1 => ?_)
  · skip
    refine lv_iconst (v := (-1)) hx hb dX2_letterInSameWord_34 (by decide) ?_
    exact W.iret (v := (-1)) hx hb hr (fun t ht hW => ⟨⟨_, (), rfl, (if_neg (fun hh => by first | exact hh.1 (by assumption) | exact hh.2.1 (by assumption) | exact absurd hh.2.2 (by assumption))).symm, by rw [ht]; exact hP, hD⟩, hS.F ht⟩) hS.2.2 dX2_letterInSameWord_35
  · skip
    refine lv_iload_n hx hb dX2_letterInSameWord_4 rfl (lv_at hl 1 rfl) ?_
    refine lv_aload_n hx hb dX2_letterInSameWord_5 rfl (lv_at hl 0 rfl) ?_
    refine va_get (ci := 2) (v := .int (nI lc)) (C := RX2) (T := TX2) (N := 11) hx hb hts hinX2 hown hK hP 11 rfl rfl 6 (by decide) (hts (.fieldLink RX2 32 "TypingTutor$Lesson" "letterCount" "I") (List.mem_of_getElem? (i := 1) rfl)) (fun _ h9 => h9) rfl dX2_letterInSameWord_6 ?_
    refine lv_icmp_ge (tgt := 34) hx hb dX2_letterInSameWord_9 (by decide) (fun c_2 => ?_) (fun c_2 => ?_)
    · skip
      refine lv_iconst (v := (-1)) hx hb dX2_letterInSameWord_34 (by decide) ?_
      exact W.iret (v := (-1)) hx hb hr (fun t ht hW => ⟨⟨_, (), rfl, (if_neg (fun hh => by first | exact hh.1 (by assumption) | exact hh.2.1 (by assumption) | exact absurd hh.2.2 (by assumption))).symm, by rw [ht]; exact hP, hD⟩, hS.F ht⟩) hS.2.2 dX2_letterInSameWord_35
    · skip
      refine lv_aload_n hx hb dX2_letterInSameWord_12 rfl (lv_at hl 0 rfl) ?_
      refine va_get (ci := 2) (v := .ref (h 14)) (C := RX2) (T := TX2) (N := 11) hx hb hts hinX2 hown hK hP 11 rfl rfl 2 (by decide) (hts (.fieldLink RX2 18 "TypingTutor$Lesson" "owners" "[I") (List.mem_of_getElem? (i := 2) rfl)) (fun _ h9 => h9) rfl dX2_letterInSameWord_13 ?_
      refine lv_iload_n hx hb dX2_letterInSameWord_16 rfl (lv_at hl 1 rfl) ?_
      refine zci (zrSN (As := [.ref (h 14), .int i]) (rest := []) ⟨hx, hb, hml, hown, hts⟩ (zS hP hD hK hE hB hS) (c_X4_read (q0 := 14) rfl (by omega)) ⟨va_cnB 2 hts gX2_letterInSameWord_X4_read_n47 rfl rfl rfl (hE.1 _ (List.mem_of_getElem? (i := 7) rfl)) (hts (.initialized RX4) (List.mem_of_getElem? (i := 6) rfl)) hds_X4_read ⟨Nat.le_of_ble_eq_true rfl, Nat.le_of_ble_eq_true rfl⟩, (hts (.static yX4_read) (List.mem_of_getElem? (i := 5) rfl)), trivial⟩ rfl rfl hl.1 rfl (lv_room (Nat.le_of_ble_eq_true rfl)) dX2_letterInSameWord_17 ⟨Nat.le_of_ble_eq_true rfl, Nat.le_of_ble_eq_true rfl⟩) hS (fun H locs hP hD hS => ?_)
      have hP : va_P D vwCl (zWT cI cJ h (n, L) (kt, km, kl) (pt, pm, pl) (nu, le, ow, fo, run, wc, lc, tr, cl, tm, ms) (yl, yc, yt, co, pa, su, sc) mc ++ R) _ := hP
      have hD : va_D (zAb B) (zWT cI cJ h (n, L) (kt, km, kl) (pt, pm, pl) (nu, le, ow, fo, run, wc, lc, tr, cl, tm, ms) (yl, yc, yt, co, pa, su, sc) mc ++ R) := hD
      refine lv_aload_n hx hb dX2_letterInSameWord_20 rfl (lv_at hl 0 rfl) ?_
      refine va_get (ci := 2) (v := .ref (h 14)) (C := RX2) (T := TX2) (N := 11) hx hb hts hinX2 hown hK hP 11 rfl rfl 2 (by decide) (hts (.fieldLink RX2 18 "TypingTutor$Lesson" "owners" "[I") (List.mem_of_getElem? (i := 2) rfl)) (fun _ h9 => h9) rfl dX2_letterInSameWord_21 ?_
      refine lv_aload_n hx hb dX2_letterInSameWord_24 rfl (lv_at hl 0 rfl) ?_
      refine va_get (ci := 2) (v := .int (nI tr)) (C := RX2) (T := TX2) (N := 11) hx hb hts hinX2 hown hK hP 11 rfl rfl 7 (by decide) (hts (.fieldLink RX2 35 "TypingTutor$Lesson" "tried" "I") (List.mem_of_getElem? (i := 3) rfl)) (fun _ h9 => h9) rfl dX2_letterInSameWord_25 ?_
      refine zci (zrSN (As := [.ref (h 14), .int (nI tr)]) (rest := [.int (zrd 48 ow i)]) ⟨hx, hb, hml, hown, hts⟩ (zS hP hD hK hE hB hS) (c_X4_read (q0 := 14) rfl (by omega)) ⟨va_cnB 2 hts gX2_letterInSameWord_X4_read_n47 rfl rfl rfl (hE.1 _ (List.mem_of_getElem? (i := 7) rfl)) (hts (.initialized RX4) (List.mem_of_getElem? (i := 6) rfl)) hds_X4_read ⟨Nat.le_of_ble_eq_true rfl, Nat.le_of_ble_eq_true rfl⟩, (hts (.static yX4_read) (List.mem_of_getElem? (i := 5) rfl)), trivial⟩ rfl rfl hl.1 rfl (lv_room (Nat.le_of_ble_eq_true rfl)) dX2_letterInSameWord_28 ⟨Nat.le_of_ble_eq_true rfl, Nat.le_of_ble_eq_true rfl⟩) hS (fun H locs hP hD hS => ?_)
      have hP : va_P D vwCl (zWT cI cJ h (n, L) (kt, km, kl) (pt, pm, pl) (nu, le, ow, fo, run, wc, lc, tr, cl, tm, ms) (yl, yc, yt, co, pa, su, sc) mc ++ R) _ := hP
      have hD : va_D (zAb B) (zWT cI cJ h (n, L) (kt, km, kl) (pt, pm, pl) (nu, le, ow, fo, run, wc, lc, tr, cl, tm, ms) (yl, yc, yt, co, pa, su, sc) mc ++ R) := hD
      rw [show (zrd 48 ow (nI tr)) = (ow tr) from (zrd_in (n := 48) (k := tr) (f := ow) (by omega) (by omega))]
      refine lv_icmp_eq (tgt := 36) hx hb dX2_letterInSameWord_31 (by decide) (fun c_3 => ?_) (fun c_3 => ?_)
      · skip
        refine lv_aload_n hx hb dX2_letterInSameWord_36 rfl (lv_at hl 0 rfl) ?_
        refine va_get (ci := 2) (v := .ref (h 13)) (C := RX2) (T := TX2) (N := 11) hx hb hts hinX2 hown hK hP 11 rfl rfl 1 (by decide) (hts (.fieldLink RX2 15 "TypingTutor$Lesson" "letters" "[I") (List.mem_of_getElem? (i := 4) rfl)) (fun _ h9 => h9) rfl dX2_letterInSameWord_37 ?_
        refine lv_iload_n hx hb dX2_letterInSameWord_40 rfl (lv_at hl 1 rfl) ?_
        refine zci (zrSN (As := [.ref (h 13), .int i]) (rest := []) ⟨hx, hb, hml, hown, hts⟩ (zS hP hD hK hE hB hS) (c_X4_read (q0 := 13) rfl (by omega)) ⟨va_cnB 2 hts gX2_letterInSameWord_X4_read_n47 rfl rfl rfl (hE.1 _ (List.mem_of_getElem? (i := 7) rfl)) (hts (.initialized RX4) (List.mem_of_getElem? (i := 6) rfl)) hds_X4_read ⟨Nat.le_of_ble_eq_true rfl, Nat.le_of_ble_eq_true rfl⟩, (hts (.static yX4_read) (List.mem_of_getElem? (i := 5) rfl)), trivial⟩ rfl rfl hl.1 rfl (lv_room (Nat.le_of_ble_eq_true rfl)) dX2_letterInSameWord_41 ⟨Nat.le_of_ble_eq_true rfl, Nat.le_of_ble_eq_true rfl⟩) hS (fun H locs hP hD hS => ?_)
        have hP : va_P D vwCl (zWT cI cJ h (n, L) (kt, km, kl) (pt, pm, pl) (nu, le, ow, fo, run, wc, lc, tr, cl, tm, ms) (yl, yc, yt, co, pa, su, sc) mc ++ R) _ := hP
        have hD : va_D (zAb B) (zWT cI cJ h (n, L) (kt, km, kl) (pt, pm, pl) (nu, le, ow, fo, run, wc, lc, tr, cl, tm, ms) (yl, yc, yt, co, pa, su, sc) mc ++ R) := hD
        exact W.iret (v := (zrd 48 le i)) hx hb hr (fun t ht hW => ⟨⟨_, (), rfl, (if_pos ⟨by assumption, by assumption, by assumption⟩).symm, by rw [ht]; exact hP, hD⟩, hS.F ht⟩) hS.2.2 dX2_letterInSameWord_44
      · skip
        refine lv_iconst (v := (-1)) hx hb dX2_letterInSameWord_34 (by decide) ?_
        exact W.iret (v := (-1)) hx hb hr (fun t ht hW => ⟨⟨_, (), rfl, (if_neg (fun hh => by first | exact hh.1 (by assumption) | exact hh.2.1 (by assumption) | exact absurd hh.2.2 (by assumption))).symm, by rw [ht]; exact hP, hD⟩, hS.F ht⟩) hS.2.2 dX2_letterInSameWord_35

set_option maxHeartbeats 4000000 in
set_option maxRecDepth 100000 in
theorem c_X2_letterAfter {l : Launch} {B kr kp : Nat} {D : va_G} {cI cJ cZ : ClassId} {h : Nat → Nat} {R : va_W} {n : Nat} {L : Nat → Int64} {kt : Nat → Int32} {km : Nat → Int32} {kl : Nat → Int32} {pt : Nat → Int32} {pm : Nat → Int32} {pl : Nat → Int32} {nu : Nat → Int32} {le : Nat → Int32} {ow : Nat → Int32} {fo : Nat → Int32} {run : Bool} {wc : Nat} {lc : Nat} {tr : Nat} {cl : Nat} {tm : Nat} {ms : Nat} {yl : Nat → Int32} {yc : Nat → Int32} {yt : Nat → Int32} {co : Nat} {pa : Int32} {su : Nat} {sc : Nat} {mc : Nat → Int32}    (hlc : lc ≤ 48) (htr : tr < 48) : Met l yX2_letterAfter wsX2_letterAfter ({ frames := 2, cells := 0, slots := 0, locals := 42 }) (zPc B kr kp D (zTy cI cJ cZ) (zWT cI cJ h (n, L) (kt, km, kl) (pt, pm, pl) (nu, le, ow, fo, run, wc, lc, tr, cl, tm, ms) (yl, yc, yt, co, pa, su, sc) mc ++ R) [.ref (h 11)]) (zQi B D (zWT cI cJ h (n, L) (kt, km, kl) (pt, pm, pl) (nu, le, ow, fo, run, wc, lc, tr, cl, tm, ms) (yl, yc, yt, co, pa, su, sc) mc ++ R) (zis le ow lc tr (nI (tr + 1)))) 0 0 (zAb B) := by
  refine Met.ofW (cc := cX2_letterAfter) (maxL := 1) (ret := (some .int)) (by decide) rfl ?_
  intro p e s m args below meth c s₁ B0 hml hv
  obtain ⟨rfl, hP, hD, hK, hE, hB⟩ := hv
  have hx := B0.exec
  have hb := B0.bytes
  have hr := B0.returns
  have hts := atoms_spec (ws := wsX2_letterAfter) B0.pre
  have hown : s.vm.findClass RX2 = some m.cls := findClass_of_methodNamed B0.named
  have hlocks := B0.notSynchronized
  have hA : ∀ q : Nat, s.heap.size ≤ q → zAb B q := fun q hq => Nat.le_trans hB hq
  have hS : va_S (zAb B) s.heap s.heap [] := va_S.rf
  have hl := lv_entry ([.ref (h 11)]) (n := 1) (Nat.le_of_ble_eq_true rfl)
  rw [lg_entry_eq]
  generalize (lg_sl ([.ref (h 11)]) ++ List.replicate (1 - (lg_sl ([.ref (h 11)])).length) Slot.unset).toArray = ls at hl ⊢
  have hl : lv_has ls 1 [(0, .ref (h 11))] := hl
  have hinX2 : ∀ w ∈ wsX20, w ∈ wsX2_letterAfter := fun _ h => List.mem_cons_of_mem _ (List.mem_append_right _ h)
  have hP : va_P D vwCl (zWT cI cJ h (n, L) (kt, km, kl) (pt, pm, pl) (nu, le, ow, fo, run, wc, lc, tr, cl, tm, ms) (yl, yc, yt, co, pa, su, sc) mc ++ R) s.heap := hP
  have hD : va_D (zAb B) (zWT cI cJ h (n, L) (kt, km, kl) (pt, pm, pl) (nu, le, ow, fo, run, wc, lc, tr, cl, tm, ms) (yl, yc, yt, co, pa, su, sc) mc ++ R) := hD
  refine lv_aload_n hx hb dX2_letterAfter_0 rfl (lv_at hl 0 rfl) ?_
  refine lv_aload_n hx hb dX2_letterAfter_1 rfl (lv_at hl 0 rfl) ?_
  refine va_get (ci := 2) (v := .int (nI tr)) (C := RX2) (T := TX2) (N := 11) hx hb hts hinX2 hown hK hP 11 rfl rfl 7 (by decide) (hts (.fieldLink RX2 35 "TypingTutor$Lesson" "tried" "I") (List.mem_of_getElem? (i := 1) rfl)) (fun _ h9 => h9) rfl dX2_letterAfter_2 ?_
  refine lv_iconst (v := 1) hx hb dX2_letterAfter_5 (by decide) ?_
  refine lv_iadd hx hb dX2_letterAfter_6 ?_
  refine lv_topi (fun v_1 ev_1 => ?_)
  obtain rfl : v_1 = (nI (tr + 1)) := ev_1.trans (nI_add tr 1)
  refine zci (zrV (As := [.int (nI (tr + 1))]) (rest := []) ⟨hx, hb, hml, hown, hts⟩ (zV 11 hP hD hK hE hB hS rfl rfl) (c_X2_letterInSameWord  (by omega) (by omega)) (cwV 1 hts gX2_letterAfter_X2_letterInSameWord rfl rfl rfl hdv_X2_letterInSameWord ⟨Nat.le_of_ble_eq_true rfl, Nat.le_of_ble_eq_true rfl⟩) rfl rfl hl.1 rfl (lv_room (Nat.le_of_ble_eq_true rfl)) dX2_letterAfter_7 ⟨Nat.le_of_ble_eq_true rfl, Nat.le_of_ble_eq_true rfl⟩) hS (fun H locs hP hD hS => ?_)
  have hP : va_P D vwCl (zWT cI cJ h (n, L) (kt, km, kl) (pt, pm, pl) (nu, le, ow, fo, run, wc, lc, tr, cl, tm, ms) (yl, yc, yt, co, pa, su, sc) mc ++ R) _ := hP
  have hD : va_D (zAb B) (zWT cI cJ h (n, L) (kt, km, kl) (pt, pm, pl) (nu, le, ow, fo, run, wc, lc, tr, cl, tm, ms) (yl, yc, yt, co, pa, su, sc) mc ++ R) := hD
  exact W.iret (v := (zis le ow lc tr (nI (tr + 1)))) hx hb hr (fun t ht hW => ⟨⟨_, (), rfl, rfl, by rw [ht]; exact hP, hD⟩, hS.F ht⟩) hS.2.2 dX2_letterAfter_10

set_option maxHeartbeats 4000000 in
set_option maxRecDepth 100000 in
theorem c_X2_letterBefore {l : Launch} {B kr kp : Nat} {D : va_G} {cI cJ cZ : ClassId} {h : Nat → Nat} {R : va_W} {n : Nat} {L : Nat → Int64} {kt : Nat → Int32} {km : Nat → Int32} {kl : Nat → Int32} {pt : Nat → Int32} {pm : Nat → Int32} {pl : Nat → Int32} {nu : Nat → Int32} {le : Nat → Int32} {ow : Nat → Int32} {fo : Nat → Int32} {run : Bool} {wc : Nat} {lc : Nat} {tr : Nat} {cl : Nat} {tm : Nat} {ms : Nat} {yl : Nat → Int32} {yc : Nat → Int32} {yt : Nat → Int32} {co : Nat} {pa : Int32} {su : Nat} {sc : Nat} {mc : Nat → Int32}    (hlc : lc ≤ 48) (htr : tr < 48) : Met l yX2_letterBefore wsX2_letterBefore ({ frames := 2, cells := 0, slots := 0, locals := 42 }) (zPc B kr kp D (zTy cI cJ cZ) (zWT cI cJ h (n, L) (kt, km, kl) (pt, pm, pl) (nu, le, ow, fo, run, wc, lc, tr, cl, tm, ms) (yl, yc, yt, co, pa, su, sc) mc ++ R) [.ref (h 11)]) (zQi B D (zWT cI cJ h (n, L) (kt, km, kl) (pt, pm, pl) (nu, le, ow, fo, run, wc, lc, tr, cl, tm, ms) (yl, yc, yt, co, pa, su, sc) mc ++ R) (zis le ow lc tr (nI tr - 1))) 0 0 (zAb B) := by
  refine Met.ofW (cc := cX2_letterBefore) (maxL := 1) (ret := (some .int)) (by decide) rfl ?_
  intro p e s m args below meth c s₁ B0 hml hv
  obtain ⟨rfl, hP, hD, hK, hE, hB⟩ := hv
  have hx := B0.exec
  have hb := B0.bytes
  have hr := B0.returns
  have hts := atoms_spec (ws := wsX2_letterBefore) B0.pre
  have hown : s.vm.findClass RX2 = some m.cls := findClass_of_methodNamed B0.named
  have hlocks := B0.notSynchronized
  have hA : ∀ q : Nat, s.heap.size ≤ q → zAb B q := fun q hq => Nat.le_trans hB hq
  have hS : va_S (zAb B) s.heap s.heap [] := va_S.rf
  have hl := lv_entry ([.ref (h 11)]) (n := 1) (Nat.le_of_ble_eq_true rfl)
  rw [lg_entry_eq]
  generalize (lg_sl ([.ref (h 11)]) ++ List.replicate (1 - (lg_sl ([.ref (h 11)])).length) Slot.unset).toArray = ls at hl ⊢
  have hl : lv_has ls 1 [(0, .ref (h 11))] := hl
  have hinX2 : ∀ w ∈ wsX20, w ∈ wsX2_letterBefore := fun _ h => List.mem_cons_of_mem _ (List.mem_append_right _ h)
  have hP : va_P D vwCl (zWT cI cJ h (n, L) (kt, km, kl) (pt, pm, pl) (nu, le, ow, fo, run, wc, lc, tr, cl, tm, ms) (yl, yc, yt, co, pa, su, sc) mc ++ R) s.heap := hP
  have hD : va_D (zAb B) (zWT cI cJ h (n, L) (kt, km, kl) (pt, pm, pl) (nu, le, ow, fo, run, wc, lc, tr, cl, tm, ms) (yl, yc, yt, co, pa, su, sc) mc ++ R) := hD
  refine lv_aload_n hx hb dX2_letterBefore_0 rfl (lv_at hl 0 rfl) ?_
  refine lv_aload_n hx hb dX2_letterBefore_1 rfl (lv_at hl 0 rfl) ?_
  refine va_get (ci := 2) (v := .int (nI tr)) (C := RX2) (T := TX2) (N := 11) hx hb hts hinX2 hown hK hP 11 rfl rfl 7 (by decide) (hts (.fieldLink RX2 35 "TypingTutor$Lesson" "tried" "I") (List.mem_of_getElem? (i := 1) rfl)) (fun _ h9 => h9) rfl dX2_letterBefore_2 ?_
  refine lv_iconst (v := 1) hx hb dX2_letterBefore_5 (by decide) ?_
  refine lv_isub hx hb dX2_letterBefore_6 ?_
  refine zci (zrV (As := [.int ((nI tr) - 1)]) (rest := []) ⟨hx, hb, hml, hown, hts⟩ (zV 11 hP hD hK hE hB hS rfl rfl) (c_X2_letterInSameWord  (by omega) (by omega)) (cwV 1 hts gX2_letterBefore_X2_letterInSameWord rfl rfl rfl hdv_X2_letterInSameWord ⟨Nat.le_of_ble_eq_true rfl, Nat.le_of_ble_eq_true rfl⟩) rfl rfl hl.1 rfl (lv_room (Nat.le_of_ble_eq_true rfl)) dX2_letterBefore_7 ⟨Nat.le_of_ble_eq_true rfl, Nat.le_of_ble_eq_true rfl⟩) hS (fun H locs hP hD hS => ?_)
  have hP : va_P D vwCl (zWT cI cJ h (n, L) (kt, km, kl) (pt, pm, pl) (nu, le, ow, fo, run, wc, lc, tr, cl, tm, ms) (yl, yc, yt, co, pa, su, sc) mc ++ R) _ := hP
  have hD : va_D (zAb B) (zWT cI cJ h (n, L) (kt, km, kl) (pt, pm, pl) (nu, le, ow, fo, run, wc, lc, tr, cl, tm, ms) (yl, yc, yt, co, pa, su, sc) mc ++ R) := hD
  exact W.iret (v := (zis le ow lc tr ((nI tr) - 1))) hx hb hr (fun t ht hW => ⟨⟨_, (), rfl, rfl, by rw [ht]; exact hP, hD⟩, hS.F ht⟩) hS.2.2 dX2_letterBefore_10

set_option maxHeartbeats 4000000 in
set_option maxRecDepth 100000 in
theorem c_X2_hasWord {l : Launch} {B kr kp : Nat} {D : va_G} {cI cJ cZ : ClassId} {h : Nat → Nat} {R : va_W} {n : Nat} {L : Nat → Int64} {kt : Nat → Int32} {km : Nat → Int32} {kl : Nat → Int32} {pt : Nat → Int32} {pm : Nat → Int32} {pl : Nat → Int32} {nu : Nat → Int32} {le : Nat → Int32} {ow : Nat → Int32} {fo : Nat → Int32} {run : Bool} {wc : Nat} {lc : Nat} {tr : Nat} {cl : Nat} {tm : Nat} {ms : Nat} {yl : Nat → Int32} {yc : Nat → Int32} {yt : Nat → Int32} {co : Nat} {pa : Int32} {su : Nat} {sc : Nat} {mc : Nat → Int32} {x : Int32}   (hn : wc ≤ 6) : Met l yX2_hasWord wsX2_hasWord ({ frames := 1, cells := 0, slots := 0, locals := 21 }) (zPc B kr kp D (zTy cI cJ cZ) (zWT cI cJ h (n, L) (kt, km, kl) (pt, pm, pl) (nu, le, ow, fo, run, wc, lc, tr, cl, tm, ms) (yl, yc, yt, co, pa, su, sc) mc ++ R) [.ref (h 11), .int x]) (zQi B D (zWT cI cJ h (n, L) (kt, km, kl) (pt, pm, pl) (nu, le, ow, fo, run, wc, lc, tr, cl, tm, ms) (yl, yc, yt, co, pa, su, sc) mc ++ R) (zb (zhw nu x wc))) 0 0 (zAb B) := by
  refine Met.ofW (cc := cX2_hasWord) (maxL := 3) (ret := (some .boolean)) (by decide) rfl ?_
  intro p e s m args below meth c s₁ B0 hml hv
  obtain ⟨rfl, hP, hD, hK, hE, hB⟩ := hv
  have hx := B0.exec
  have hb := B0.bytes
  have hr := B0.returns
  have hts := atoms_spec (ws := wsX2_hasWord) B0.pre
  have hown : s.vm.findClass RX2 = some m.cls := findClass_of_methodNamed B0.named
  have hlocks := B0.notSynchronized
  have hA : ∀ q : Nat, s.heap.size ≤ q → zAb B q := fun q hq => Nat.le_trans hB hq
  have hS : va_S (zAb B) s.heap s.heap [] := va_S.rf
  have hl := lv_entry ([.ref (h 11), .int x]) (n := 3) (Nat.le_of_ble_eq_true rfl)
  rw [lg_entry_eq]
  generalize (lg_sl ([.ref (h 11), .int x]) ++ List.replicate (3 - (lg_sl ([.ref (h 11), .int x])).length) Slot.unset).toArray = ls at hl ⊢
  have hl : lv_has ls 3 [(0, .ref (h 11)), (1, .int x)] := hl
  have hinX2 : ∀ w ∈ wsX20, w ∈ wsX2_hasWord := fun _ h => List.mem_cons_of_mem _ (List.mem_append_right _ h)
  have hP : va_P D vwCl (zWT cI cJ h (n, L) (kt, km, kl) (pt, pm, pl) (nu, le, ow, fo, run, wc, lc, tr, cl, tm, ms) (yl, yc, yt, co, pa, su, sc) mc ++ R) s.heap := hP
  have hD : va_D (zAb B) (zWT cI cJ h (n, L) (kt, km, kl) (pt, pm, pl) (nu, le, ow, fo, run, wc, lc, tr, cl, tm, ms) (yl, yc, yt, co, pa, su, sc) mc ++ R) := hD
  refine lv_iconst (v := 0) hx hb dX2_hasWord_0 (by decide) ?_
  refine lv_istore_n (lv' := [(2, .int 0), (0, .ref (h 11)), (1, .int x)]) hx hb dX2_hasWord_1 rfl hl (by decide) rfl (fun ls hl => ?_)
  refine zloop (σ := (Nat)) (nL := 3) (fun x9 => (zWT cI cJ h (n, L) (kt, km, kl) (pt, pm, pl) (nu, le, ow, fo, run, wc, lc, tr, cl, tm, ms) (yl, yc, yt, co, pa, su, sc) mc ++ R)) (fun x9 => [(2, .int (nI x9)), (0, .ref (h 11)), (1, .int x)]) (fun x9 => []) (fun x9 => x9 ≤ wc ∧ zhw nu x x9 = false) (fun x9 => wc - x9) ?_ (0) (⟨by omega, rfl⟩) _ _ _ hP hD hS (lv_sub hl [0, 1, 2] rfl)
  rintro j hI ih H locs ls hP hD hS hl
  try dsimp only at hI ih hP hD hS hl ⊢
  refine lv_iload_n hx hb dX2_hasWord_2 rfl (lv_at hl 0 rfl) ?_
  refine lv_aload_n hx hb dX2_hasWord_3 rfl (lv_at hl 1 rfl) ?_
  refine va_get (ci := 2) (v := .int (nI wc)) (C := RX2) (T := TX2) (N := 11) hx hb hts hinX2 hown hK hP 11 rfl rfl 5 (by decide) (hts (.fieldLink RX2 28 "TypingTutor$Lesson" "wordCount" "I") (List.mem_of_getElem? (i := 1) rfl)) (fun _ h9 => h9) rfl dX2_hasWord_4 ?_
  refine lv_icmp_ge (tgt := 30) hx hb dX2_hasWord_7 (by decide) (fun c_1 => ?_) (fun c_1 => ?_)
  · skip
    have c_1 : wc ≤ j := (nI_leI (a := wc) (b := j) (by omega) (by omega)).mp c_1
    refine lv_iconst (v := 0) hx hb dX2_hasWord_30 (by decide) ?_
    exact W.zret (v := 0) hx hb hr rfl (fun t ht hW => ⟨⟨_, (), rfl, zb_f (by have e9 : j = wc := (by omega); exact e9 ▸ hI.2), by rw [ht]; exact hP, hD⟩, hS.F ht⟩) hS.2.2 dX2_hasWord_31
  · skip
    have c_1 : ¬ wc ≤ j := fun hh => c_1 ((nI_leI (a := wc) (b := j) (by omega) (by omega)).mpr hh)
    refine lv_aload_n hx hb dX2_hasWord_10 rfl (lv_at hl 1 rfl) ?_
    refine va_get (ci := 2) (v := .ref (h 12)) (C := RX2) (T := TX2) (N := 11) hx hb hts hinX2 hown hK hP 11 rfl rfl 0 (by decide) (hts (.fieldLink RX2 9 "TypingTutor$Lesson" "numbers" "[I") (List.mem_of_getElem? (i := 2) rfl)) (fun _ h9 => h9) rfl dX2_hasWord_11 ?_
    refine lv_iload_n hx hb dX2_hasWord_14 rfl (lv_at hl 0 rfl) ?_
    refine zci (zrSN (As := [.ref (h 12), .int (nI j)]) (rest := []) ⟨hx, hb, hml, hown, hts⟩ (zS hP hD hK hE hB hS) (c_X4_read (q0 := 12) rfl (by omega)) ⟨va_cnB 2 hts gX2_hasWord_X4_read_n47 rfl rfl rfl (hE.1 _ (List.mem_of_getElem? (i := 7) rfl)) (hts (.initialized RX4) (List.mem_of_getElem? (i := 4) rfl)) hds_X4_read ⟨Nat.le_of_ble_eq_true rfl, Nat.le_of_ble_eq_true rfl⟩, (hts (.static yX4_read) (List.mem_of_getElem? (i := 3) rfl)), trivial⟩ rfl rfl hl.1 rfl (lv_room (Nat.le_of_ble_eq_true rfl)) dX2_hasWord_15 ⟨Nat.le_of_ble_eq_true rfl, Nat.le_of_ble_eq_true rfl⟩) hS (fun H locs hP hD hS => ?_)
    have hP : va_P D vwCl (zWT cI cJ h (n, L) (kt, km, kl) (pt, pm, pl) (nu, le, ow, fo, run, wc, lc, tr, cl, tm, ms) (yl, yc, yt, co, pa, su, sc) mc ++ R) _ := hP
    have hD : va_D (zAb B) (zWT cI cJ h (n, L) (kt, km, kl) (pt, pm, pl) (nu, le, ow, fo, run, wc, lc, tr, cl, tm, ms) (yl, yc, yt, co, pa, su, sc) mc ++ R) := hD
    rw [show (zrd 6 nu (nI j)) = (nu j) from (zrd_in (n := 6) (k := j) (f := nu) (by omega) (by omega))]
    refine lv_iload_n hx hb dX2_hasWord_18 rfl (lv_at hl 2 rfl) ?_
    refine lv_icmp_ne (tgt := 24) hx hb dX2_hasWord_19 (by decide) (fun c_2 => ?_) (fun c_2 => ?_)
    · skip
      refine lv_iinc (v := (nI (j + 1))) (lv' := [(2, .int (nI (j + 1))), (0, .ref (h 11)), (1, .int x)]) hx hb dX2_hasWord_24 hl (k := 0) rfl (nI_add j 1) (by decide) rfl (fun ls hl => ?_)
      refine lv_goto (tgt := 2) hx hb dX2_hasWord_27 (by decide) ?_
      exact ih ((j + 1)) (⟨by omega, zhw_not hI.2 (by assumption)⟩) (by omega) _ _ _ hP hD hS (lv_sub hl [0, 1, 2] rfl)
    · skip
      refine lv_iconst (v := 1) hx hb dX2_hasWord_22 (by decide) ?_
      exact W.zret (v := 1) hx hb hr rfl (fun t ht hW => ⟨⟨_, (), rfl, zb_t (zhw_in (by assumption) (by omega)), by rw [ht]; exact hP, hD⟩, hS.F ht⟩) hS.2.2 dX2_hasWord_23

set_option maxHeartbeats 4000000 in
set_option maxRecDepth 100000 in
theorem c_X2_hasPair {l : Launch} {B kr kp : Nat} {D : va_G} {cI cJ cZ : ClassId} {h : Nat → Nat} {R : va_W} {n : Nat} {L : Nat → Int64} {kt : Nat → Int32} {km : Nat → Int32} {kl : Nat → Int32} {pt : Nat → Int32} {pm : Nat → Int32} {pl : Nat → Int32} {nu : Nat → Int32} {le : Nat → Int32} {ow : Nat → Int32} {fo : Nat → Int32} {run : Bool} {wc : Nat} {lc : Nat} {tr : Nat} {cl : Nat} {tm : Nat} {ms : Nat} {yl : Nat → Int32} {yc : Nat → Int32} {yt : Nat → Int32} {co : Nat} {pa : Int32} {su : Nat} {sc : Nat} {mc : Nat → Int32} {x : Int32} {y : Int32}    : Met l yX2_hasPair wsX2_hasPair ({ frames := 1, cells := 0, slots := 0, locals := 21 }) (zPc B kr kp D (zTy cI cJ cZ) (zWT cI cJ h (n, L) (kt, km, kl) (pt, pm, pl) (nu, le, ow, fo, run, wc, lc, tr, cl, tm, ms) (yl, yc, yt, co, pa, su, sc) mc ++ R) [.ref (h 11), .int x, .int y]) (zQi B D (zWT cI cJ h (n, L) (kt, km, kl) (pt, pm, pl) (nu, le, ow, fo, run, wc, lc, tr, cl, tm, ms) (yl, yc, yt, co, pa, su, sc) mc ++ R) (zb (zfh fo x y))) 0 0 (zAb B) := by
  refine Met.ofW (cc := cX2_hasPair) (maxL := 3) (ret := (some .boolean)) (by decide) rfl ?_
  intro p e s m args below meth c s₁ B0 hml hv
  obtain ⟨rfl, hP, hD, hK, hE, hB⟩ := hv
  have hx := B0.exec
  have hb := B0.bytes
  have hr := B0.returns
  have hts := atoms_spec (ws := wsX2_hasPair) B0.pre
  have hown : s.vm.findClass RX2 = some m.cls := findClass_of_methodNamed B0.named
  have hlocks := B0.notSynchronized
  have hA : ∀ q : Nat, s.heap.size ≤ q → zAb B q := fun q hq => Nat.le_trans hB hq
  have hS : va_S (zAb B) s.heap s.heap [] := va_S.rf
  have hl := lv_entry ([.ref (h 11), .int x, .int y]) (n := 3) (Nat.le_of_ble_eq_true rfl)
  rw [lg_entry_eq]
  generalize (lg_sl ([.ref (h 11), .int x, .int y]) ++ List.replicate (3 - (lg_sl ([.ref (h 11), .int x, .int y])).length) Slot.unset).toArray = ls at hl ⊢
  have hl : lv_has ls 3 [(0, .ref (h 11)), (1, .int x), (2, .int y)] := hl
  have hinX2 : ∀ w ∈ wsX20, w ∈ wsX2_hasPair := fun _ h => List.mem_cons_of_mem _ (List.mem_append_right _ h)
  have hP : va_P D vwCl (zWT cI cJ h (n, L) (kt, km, kl) (pt, pm, pl) (nu, le, ow, fo, run, wc, lc, tr, cl, tm, ms) (yl, yc, yt, co, pa, su, sc) mc ++ R) s.heap := hP
  have hD : va_D (zAb B) (zWT cI cJ h (n, L) (kt, km, kl) (pt, pm, pl) (nu, le, ow, fo, run, wc, lc, tr, cl, tm, ms) (yl, yc, yt, co, pa, su, sc) mc ++ R) := hD
  refine lv_aload_n hx hb dX2_hasPair_0 rfl (lv_at hl 0 rfl) ?_
  refine va_get (ci := 2) (v := .ref (h 15)) (C := RX2) (T := TX2) (N := 11) hx hb hts hinX2 hown hK hP 11 rfl rfl 3 (by decide) (hts (.fieldLink RX2 21 "TypingTutor$Lesson" "followers" "[I") (List.mem_of_getElem? (i := 1) rfl)) (fun _ h9 => h9) rfl dX2_hasPair_1 ?_
  refine lv_iload_n hx hb dX2_hasPair_4 rfl (lv_at hl 1 rfl) ?_
  refine zci (zrSN (As := [.ref (h 15), .int x]) (rest := []) ⟨hx, hb, hml, hown, hts⟩ (zS hP hD hK hE hB hS) (c_X4_read (q0 := 15) rfl (by omega)) ⟨va_cnB 2 hts gX2_hasPair_X4_read_n47 rfl rfl rfl (hE.1 _ (List.mem_of_getElem? (i := 7) rfl)) (hts (.initialized RX4) (List.mem_of_getElem? (i := 3) rfl)) hds_X4_read ⟨Nat.le_of_ble_eq_true rfl, Nat.le_of_ble_eq_true rfl⟩, (hts (.static yX4_read) (List.mem_of_getElem? (i := 2) rfl)), trivial⟩ rfl rfl hl.1 rfl (lv_room (Nat.le_of_ble_eq_true rfl)) dX2_hasPair_5 ⟨Nat.le_of_ble_eq_true rfl, Nat.le_of_ble_eq_true rfl⟩) hS (fun H locs hP hD hS => ?_)
  have hP : va_P D vwCl (zWT cI cJ h (n, L) (kt, km, kl) (pt, pm, pl) (nu, le, ow, fo, run, wc, lc, tr, cl, tm, ms) (yl, yc, yt, co, pa, su, sc) mc ++ R) _ := hP
  have hD : va_D (zAb B) (zWT cI cJ h (n, L) (kt, km, kl) (pt, pm, pl) (nu, le, ow, fo, run, wc, lc, tr, cl, tm, ms) (yl, yc, yt, co, pa, su, sc) mc ++ R) := hD
  refine lv_iconst (v := 1) hx hb dX2_hasPair_8 (by decide) ?_
  refine lv_iload_n hx hb dX2_hasPair_9 rfl (lv_at hl 2 rfl) ?_
  refine lv_ishl hx hb dX2_hasPair_10 ?_
  refine lv_iand hx hb dX2_hasPair_11 ?_
  refine lv_if_eq (tgt := 19) hx hb dX2_hasPair_12 (by decide) (fun c_1 => ?_) (fun c_1 => ?_)
  · skip
    refine lv_iconst (v := 0) hx hb dX2_hasPair_19 (by decide) ?_
    exact W.zret (v := 0) hx hb hr rfl (fun t ht hW => ⟨⟨_, (), rfl, zb_f (decide_eq_false (fun hh => hh c_1)), by rw [ht]; exact hP, hD⟩, hS.F ht⟩) hS.2.2 dX2_hasPair_20
  · skip
    refine lv_iconst (v := 1) hx hb dX2_hasPair_15 (by decide) ?_
    refine lv_goto (tgt := 20) hx hb dX2_hasPair_16 (by decide) ?_
    exact W.zret (v := 1) hx hb hr rfl (fun t ht hW => ⟨⟨_, (), rfl, zb_t (decide_eq_true c_1), by rw [ht]; exact hP, hD⟩, hS.F ht⟩) hS.2.2 dX2_hasPair_20

set_option maxHeartbeats 4000000 in
set_option maxRecDepth 100000 in
theorem c_X2_noteStroke_0 {l : Launch} {B kr kp : Nat} {D : va_G} {cI cJ cZ : ClassId} {h : Nat → Nat} {R : va_W} {n : Nat} {L : Nat → Int64} {kt : Nat → Int32} {km : Nat → Int32} {kl : Nat → Int32} {pt : Nat → Int32} {pm : Nat → Int32} {pl : Nat → Int32} {nu : Nat → Int32} {le : Nat → Int32} {ow : Nat → Int32} {fo : Nat → Int32} {run : Bool} {wc : Nat} {lc : Nat} {tr : Nat} {cl : Nat} {tm : Nat} {ms : Nat} {yl : Nat → Int32} {yc : Nat → Int32} {yt : Nat → Int32} {co : Nat} {pa : Int32} {su : Nat} {sc : Nat} {mc : Nat → Int32} {time : Nat}    : Met l yX2_noteStroke wsX2_noteStroke ({ frames := 0, cells := 0, slots := 0, locals := 0 }) (zPc B kr kp D (zTy cI cJ cZ) (zWT cI cJ h (n, L) (kt, km, kl) (pt, pm, pl) (nu, le, ow, fo, run, wc, lc, tr, cl, tm, ms) (yl, yc, yt, co, pa, su, sc) mc ++ R) [.ref (h 11), .int 0, .int (nI time)]) (zQv B D (zWT cI cJ h (n, L) (kt, km, kl) (pt, pm, pl) (nu, le, ow, fo, run, wc, lc, tr, cl, (tm + time), ms) (yl, yc, yt, co, pa, su, sc) mc ++ R)) 0 0 (zAb B) := by
  refine Met.ofW (cc := cX2_noteStroke) (maxL := 3) (ret := none) (by decide) rfl ?_
  intro p e s m args below meth c s₁ B0 hml hv
  obtain ⟨rfl, hP, hD, hK, hE, hB⟩ := hv
  have hx := B0.exec
  have hb := B0.bytes
  have hr := B0.returns
  have hts := atoms_spec (ws := wsX2_noteStroke) B0.pre
  have hown : s.vm.findClass RX2 = some m.cls := findClass_of_methodNamed B0.named
  have hlocks := B0.notSynchronized
  have hA : ∀ q : Nat, s.heap.size ≤ q → zAb B q := fun q hq => Nat.le_trans hB hq
  have hS : va_S (zAb B) s.heap s.heap [] := va_S.rf
  have hl := lv_entry ([.ref (h 11), .int 0, .int (nI time)]) (n := 3) (Nat.le_of_ble_eq_true rfl)
  rw [lg_entry_eq]
  generalize (lg_sl ([.ref (h 11), .int 0, .int (nI time)]) ++ List.replicate (3 - (lg_sl ([.ref (h 11), .int 0, .int (nI time)])).length) Slot.unset).toArray = ls at hl ⊢
  have hl : lv_has ls 3 [(0, .ref (h 11)), (1, .int 0), (2, .int (nI time))] := hl
  have hinX2 : ∀ w ∈ wsX20, w ∈ wsX2_noteStroke := fun _ h => List.mem_cons_of_mem _ (List.mem_append_right _ h)
  have hP : va_P D vwCl (zWT cI cJ h (n, L) (kt, km, kl) (pt, pm, pl) (nu, le, ow, fo, run, wc, lc, tr, cl, tm, ms) (yl, yc, yt, co, pa, su, sc) mc ++ R) s.heap := hP
  have hD : va_D (zAb B) (zWT cI cJ h (n, L) (kt, km, kl) (pt, pm, pl) (nu, le, ow, fo, run, wc, lc, tr, cl, tm, ms) (yl, yc, yt, co, pa, su, sc) mc ++ R) := hD
  refine lv_aload_n hx hb dX2_noteStroke_0 rfl (lv_at hl 0 rfl) ?_
  refine lv_dup hx hb dX2_noteStroke_1 rfl ?_
  refine va_get (ci := 2) (v := .int (nI tm)) (C := RX2) (T := TX2) (N := 11) hx hb hts hinX2 hown hK hP 11 rfl rfl 9 (by decide) (hts (.fieldLink RX2 41 "TypingTutor$Lesson" "times" "I") (List.mem_of_getElem? (i := 1) rfl)) (fun _ h9 => h9) rfl dX2_noteStroke_2 ?_
  refine lv_iload_n hx hb dX2_noteStroke_5 rfl (lv_at hl 2 rfl) ?_
  refine lv_iadd hx hb dX2_noteStroke_6 ?_
  refine lv_topi (fun v_1 ev_1 => ?_)
  obtain rfl : v_1 = (nI (tm + time)) := ev_1.trans (nI_add tm time)
  refine va_put (ci := 2) (v := .int (nI (tm + time))) (ty := .int) (C := RX2) (T := TX2) (N := 11) hx hb hts hinX2 tyX2 tyX2_ok nmX2 hown hK hP hD hS 11 rfl rfl 9 (by decide) (hts (.fieldLink RX2 41 "TypingTutor$Lesson" "times" "I") (List.mem_of_getElem? (i := 1) rfl)) (fun _ h9 => h9) rfl (by decide +kernel) rfl rfl (Nat.le_of_ble_eq_true rfl) dX2_noteStroke_7 (fun H locs hP hD hS => ?_)
  have hP : va_P D vwCl (zWT cI cJ h (n, L) (kt, km, kl) (pt, pm, pl) (nu, le, ow, fo, run, wc, lc, tr, cl, (tm + time), ms) (yl, yc, yt, co, pa, su, sc) mc ++ R) _ := hP
  have hD : va_D (zAb B) (zWT cI cJ h (n, L) (kt, km, kl) (pt, pm, pl) (nu, le, ow, fo, run, wc, lc, tr, cl, (tm + time), ms) (yl, yc, yt, co, pa, su, sc) mc ++ R) := hD
  refine lv_iload_n hx hb dX2_noteStroke_10 rfl (lv_at hl 1 rfl) ?_
  refine lv_if_eq (tgt := 24) hx hb dX2_noteStroke_11 (by decide) (fun c_2 => ?_) (fun c_2 => ?_)
  · skip
    exact W.vret hx hb hr (fun t ht hW => ⟨⟨(), rfl, trivial, by rw [ht]; exact hP, hD⟩, hS.F ht⟩) hS.2.2 dX2_noteStroke_24
  · skip
    exfalso; first | omega | (revert c_2; decide) | (exact absurd rfl c_2) | simp_all

set_option maxHeartbeats 4000000 in
set_option maxRecDepth 100000 in
theorem c_X2_noteStroke_x {l : Launch} {B kr kp : Nat} {D : va_G} {cI cJ cZ : ClassId} {h : Nat → Nat} {R : va_W} {n : Nat} {L : Nat → Int64} {kt : Nat → Int32} {km : Nat → Int32} {kl : Nat → Int32} {pt : Nat → Int32} {pm : Nat → Int32} {pl : Nat → Int32} {nu : Nat → Int32} {le : Nat → Int32} {ow : Nat → Int32} {fo : Nat → Int32} {run : Bool} {wc : Nat} {lc : Nat} {tr : Nat} {cl : Nat} {tm : Nat} {ms : Nat} {yl : Nat → Int32} {yc : Nat → Int32} {yt : Nat → Int32} {co : Nat} {pa : Int32} {su : Nat} {sc : Nat} {mc : Nat → Int32} {kind : Int32} {time : Nat}   (hkd : ¬ kind = 0) : Met l yX2_noteStroke wsX2_noteStroke ({ frames := 0, cells := 0, slots := 0, locals := 0 }) (zPc B kr kp D (zTy cI cJ cZ) (zWT cI cJ h (n, L) (kt, km, kl) (pt, pm, pl) (nu, le, ow, fo, run, wc, lc, tr, cl, tm, ms) (yl, yc, yt, co, pa, su, sc) mc ++ R) [.ref (h 11), .int kind, .int (nI time)]) (zQv B D (zWT cI cJ h (n, L) (kt, km, kl) (pt, pm, pl) (nu, le, ow, fo, run, wc, lc, tr, cl, (tm + time), (ms + 1)) (yl, yc, yt, co, pa, su, sc) mc ++ R)) 0 0 (zAb B) := by
  refine Met.ofW (cc := cX2_noteStroke) (maxL := 3) (ret := none) (by decide) rfl ?_
  intro p e s m args below meth c s₁ B0 hml hv
  obtain ⟨rfl, hP, hD, hK, hE, hB⟩ := hv
  have hx := B0.exec
  have hb := B0.bytes
  have hr := B0.returns
  have hts := atoms_spec (ws := wsX2_noteStroke) B0.pre
  have hown : s.vm.findClass RX2 = some m.cls := findClass_of_methodNamed B0.named
  have hlocks := B0.notSynchronized
  have hA : ∀ q : Nat, s.heap.size ≤ q → zAb B q := fun q hq => Nat.le_trans hB hq
  have hS : va_S (zAb B) s.heap s.heap [] := va_S.rf
  have hl := lv_entry ([.ref (h 11), .int kind, .int (nI time)]) (n := 3) (Nat.le_of_ble_eq_true rfl)
  rw [lg_entry_eq]
  generalize (lg_sl ([.ref (h 11), .int kind, .int (nI time)]) ++ List.replicate (3 - (lg_sl ([.ref (h 11), .int kind, .int (nI time)])).length) Slot.unset).toArray = ls at hl ⊢
  have hl : lv_has ls 3 [(0, .ref (h 11)), (1, .int kind), (2, .int (nI time))] := hl
  have hinX2 : ∀ w ∈ wsX20, w ∈ wsX2_noteStroke := fun _ h => List.mem_cons_of_mem _ (List.mem_append_right _ h)
  have hP : va_P D vwCl (zWT cI cJ h (n, L) (kt, km, kl) (pt, pm, pl) (nu, le, ow, fo, run, wc, lc, tr, cl, tm, ms) (yl, yc, yt, co, pa, su, sc) mc ++ R) s.heap := hP
  have hD : va_D (zAb B) (zWT cI cJ h (n, L) (kt, km, kl) (pt, pm, pl) (nu, le, ow, fo, run, wc, lc, tr, cl, tm, ms) (yl, yc, yt, co, pa, su, sc) mc ++ R) := hD
  refine lv_aload_n hx hb dX2_noteStroke_0 rfl (lv_at hl 0 rfl) ?_
  refine lv_dup hx hb dX2_noteStroke_1 rfl ?_
  refine va_get (ci := 2) (v := .int (nI tm)) (C := RX2) (T := TX2) (N := 11) hx hb hts hinX2 hown hK hP 11 rfl rfl 9 (by decide) (hts (.fieldLink RX2 41 "TypingTutor$Lesson" "times" "I") (List.mem_of_getElem? (i := 1) rfl)) (fun _ h9 => h9) rfl dX2_noteStroke_2 ?_
  refine lv_iload_n hx hb dX2_noteStroke_5 rfl (lv_at hl 2 rfl) ?_
  refine lv_iadd hx hb dX2_noteStroke_6 ?_
  refine lv_topi (fun v_1 ev_1 => ?_)
  obtain rfl : v_1 = (nI (tm + time)) := ev_1.trans (nI_add tm time)
  refine va_put (ci := 2) (v := .int (nI (tm + time))) (ty := .int) (C := RX2) (T := TX2) (N := 11) hx hb hts hinX2 tyX2 tyX2_ok nmX2 hown hK hP hD hS 11 rfl rfl 9 (by decide) (hts (.fieldLink RX2 41 "TypingTutor$Lesson" "times" "I") (List.mem_of_getElem? (i := 1) rfl)) (fun _ h9 => h9) rfl (by decide +kernel) rfl rfl (Nat.le_of_ble_eq_true rfl) dX2_noteStroke_7 (fun H locs hP hD hS => ?_)
  have hP : va_P D vwCl (zWT cI cJ h (n, L) (kt, km, kl) (pt, pm, pl) (nu, le, ow, fo, run, wc, lc, tr, cl, (tm + time), ms) (yl, yc, yt, co, pa, su, sc) mc ++ R) _ := hP
  have hD : va_D (zAb B) (zWT cI cJ h (n, L) (kt, km, kl) (pt, pm, pl) (nu, le, ow, fo, run, wc, lc, tr, cl, (tm + time), ms) (yl, yc, yt, co, pa, su, sc) mc ++ R) := hD
  refine lv_iload_n hx hb dX2_noteStroke_10 rfl (lv_at hl 1 rfl) ?_
  refine lv_if_eq (tgt := 24) hx hb dX2_noteStroke_11 (by decide) (fun c_2 => ?_) (fun c_2 => ?_)
  · skip
    exact absurd c_2 hkd
  · skip
    refine lv_aload_n hx hb dX2_noteStroke_14 rfl (lv_at hl 0 rfl) ?_
    refine lv_dup hx hb dX2_noteStroke_15 rfl ?_
    refine va_get (ci := 2) (v := .int (nI ms)) (C := RX2) (T := TX2) (N := 11) hx hb hts hinX2 hown hK hP 11 rfl rfl 10 (by decide) (hts (.fieldLink RX2 44 "TypingTutor$Lesson" "misses" "I") (List.mem_of_getElem? (i := 2) rfl)) (fun _ h9 => h9) rfl dX2_noteStroke_16 ?_
    refine lv_iconst (v := 1) hx hb dX2_noteStroke_19 (by decide) ?_
    refine lv_iadd hx hb dX2_noteStroke_20 ?_
    refine lv_topi (fun v_3 ev_3 => ?_)
    obtain rfl : v_3 = (nI (ms + 1)) := ev_3.trans (nI_add ms 1)
    refine va_put (ci := 2) (v := .int (nI (ms + 1))) (ty := .int) (C := RX2) (T := TX2) (N := 11) hx hb hts hinX2 tyX2 tyX2_ok nmX2 hown hK hP hD hS 11 rfl rfl 10 (by decide) (hts (.fieldLink RX2 44 "TypingTutor$Lesson" "misses" "I") (List.mem_of_getElem? (i := 2) rfl)) (fun _ h9 => h9) rfl (by decide +kernel) rfl rfl (Nat.le_of_ble_eq_true rfl) dX2_noteStroke_21 (fun H locs hP hD hS => ?_)
    have hP : va_P D vwCl (zWT cI cJ h (n, L) (kt, km, kl) (pt, pm, pl) (nu, le, ow, fo, run, wc, lc, tr, cl, (tm + time), (ms + 1)) (yl, yc, yt, co, pa, su, sc) mc ++ R) _ := hP
    have hD : va_D (zAb B) (zWT cI cJ h (n, L) (kt, km, kl) (pt, pm, pl) (nu, le, ow, fo, run, wc, lc, tr, cl, (tm + time), (ms + 1)) (yl, yc, yt, co, pa, su, sc) mc ++ R) := hD
    exact W.vret hx hb hr (fun t ht hW => ⟨⟨(), rfl, trivial, by rw [ht]; exact hP, hD⟩, hS.F ht⟩) hS.2.2 dX2_noteStroke_24

set_option maxHeartbeats 4000000 in
set_option maxRecDepth 100000 in
theorem c_X2_goOn_1 {l : Launch} {B kr kp : Nat} {D : va_G} {cI cJ cZ : ClassId} {h : Nat → Nat} {R : va_W} {n : Nat} {L : Nat → Int64} {kt : Nat → Int32} {km : Nat → Int32} {kl : Nat → Int32} {pt : Nat → Int32} {pm : Nat → Int32} {pl : Nat → Int32} {nu : Nat → Int32} {le : Nat → Int32} {ow : Nat → Int32} {fo : Nat → Int32} {run : Bool} {wc : Nat} {lc : Nat} {tr : Nat} {cl : Nat} {tm : Nat} {ms : Nat} {yl : Nat → Int32} {yc : Nat → Int32} {yt : Nat → Int32} {co : Nat} {pa : Int32} {su : Nat} {sc : Nat} {mc : Nat → Int32}     : Met l yX2_goOn wsX2_goOn ({ frames := 0, cells := 0, slots := 0, locals := 0 }) (zPc B kr kp D (zTy cI cJ cZ) (zWT cI cJ h (n, L) (kt, km, kl) (pt, pm, pl) (nu, le, ow, fo, run, wc, lc, tr, cl, tm, ms) (yl, yc, yt, co, pa, su, sc) mc ++ R) [.ref (h 11), .int 1]) (zQv B D (zWT cI cJ h (n, L) (kt, km, kl) (pt, pm, pl) (nu, le, ow, fo, run, wc, lc, (tr + 1), (cl + 1), tm, 0) (yl, yc, yt, co, pa, su, sc) mc ++ R)) 0 0 (zAb B) := by
  refine Met.ofW (cc := cX2_goOn) (maxL := 2) (ret := none) (by decide) rfl ?_
  intro p e s m args below meth c s₁ B0 hml hv
  obtain ⟨rfl, hP, hD, hK, hE, hB⟩ := hv
  have hx := B0.exec
  have hb := B0.bytes
  have hr := B0.returns
  have hts := atoms_spec (ws := wsX2_goOn) B0.pre
  have hown : s.vm.findClass RX2 = some m.cls := findClass_of_methodNamed B0.named
  have hlocks := B0.notSynchronized
  have hA : ∀ q : Nat, s.heap.size ≤ q → zAb B q := fun q hq => Nat.le_trans hB hq
  have hS : va_S (zAb B) s.heap s.heap [] := va_S.rf
  have hl := lv_entry ([.ref (h 11), .int 1]) (n := 2) (Nat.le_of_ble_eq_true rfl)
  rw [lg_entry_eq]
  generalize (lg_sl ([.ref (h 11), .int 1]) ++ List.replicate (2 - (lg_sl ([.ref (h 11), .int 1])).length) Slot.unset).toArray = ls at hl ⊢
  have hl : lv_has ls 2 [(0, .ref (h 11)), (1, .int 1)] := hl
  have hinX2 : ∀ w ∈ wsX20, w ∈ wsX2_goOn := fun _ h => List.mem_cons_of_mem _ (List.mem_append_right _ h)
  have hP : va_P D vwCl (zWT cI cJ h (n, L) (kt, km, kl) (pt, pm, pl) (nu, le, ow, fo, run, wc, lc, tr, cl, tm, ms) (yl, yc, yt, co, pa, su, sc) mc ++ R) s.heap := hP
  have hD : va_D (zAb B) (zWT cI cJ h (n, L) (kt, km, kl) (pt, pm, pl) (nu, le, ow, fo, run, wc, lc, tr, cl, tm, ms) (yl, yc, yt, co, pa, su, sc) mc ++ R) := hD
  refine lv_aload_n hx hb dX2_goOn_0 rfl (lv_at hl 0 rfl) ?_
  refine lv_dup hx hb dX2_goOn_1 rfl ?_
  refine va_get (ci := 2) (v := .int (nI tr)) (C := RX2) (T := TX2) (N := 11) hx hb hts hinX2 hown hK hP 11 rfl rfl 7 (by decide) (hts (.fieldLink RX2 35 "TypingTutor$Lesson" "tried" "I") (List.mem_of_getElem? (i := 1) rfl)) (fun _ h9 => h9) rfl dX2_goOn_2 ?_
  refine lv_iconst (v := 1) hx hb dX2_goOn_5 (by decide) ?_
  refine lv_iadd hx hb dX2_goOn_6 ?_
  refine lv_topi (fun v_1 ev_1 => ?_)
  obtain rfl : v_1 = (nI (tr + 1)) := ev_1.trans (nI_add tr 1)
  refine va_put (ci := 2) (v := .int (nI (tr + 1))) (ty := .int) (C := RX2) (T := TX2) (N := 11) hx hb hts hinX2 tyX2 tyX2_ok nmX2 hown hK hP hD hS 11 rfl rfl 7 (by decide) (hts (.fieldLink RX2 35 "TypingTutor$Lesson" "tried" "I") (List.mem_of_getElem? (i := 1) rfl)) (fun _ h9 => h9) rfl (by decide +kernel) rfl rfl (Nat.le_of_ble_eq_true rfl) dX2_goOn_7 (fun H locs hP hD hS => ?_)
  have hP : va_P D vwCl (zWT cI cJ h (n, L) (kt, km, kl) (pt, pm, pl) (nu, le, ow, fo, run, wc, lc, (tr + 1), cl, tm, ms) (yl, yc, yt, co, pa, su, sc) mc ++ R) _ := hP
  have hD : va_D (zAb B) (zWT cI cJ h (n, L) (kt, km, kl) (pt, pm, pl) (nu, le, ow, fo, run, wc, lc, (tr + 1), cl, tm, ms) (yl, yc, yt, co, pa, su, sc) mc ++ R) := hD
  refine lv_aload_n hx hb dX2_goOn_10 rfl (lv_at hl 0 rfl) ?_
  refine lv_iconst (v := 0) hx hb dX2_goOn_11 (by decide) ?_
  refine va_put (ci := 2) (v := .int 0) (ty := .int) (C := RX2) (T := TX2) (N := 11) hx hb hts hinX2 tyX2 tyX2_ok nmX2 hown hK hP hD hS 11 rfl rfl 10 (by decide) (hts (.fieldLink RX2 44 "TypingTutor$Lesson" "misses" "I") (List.mem_of_getElem? (i := 2) rfl)) (fun _ h9 => h9) rfl (by decide +kernel) rfl rfl (Nat.le_of_ble_eq_true rfl) dX2_goOn_12 (fun H locs hP hD hS => ?_)
  have hP : va_P D vwCl (zWT cI cJ h (n, L) (kt, km, kl) (pt, pm, pl) (nu, le, ow, fo, run, wc, lc, (tr + 1), cl, tm, 0) (yl, yc, yt, co, pa, su, sc) mc ++ R) _ := hP
  have hD : va_D (zAb B) (zWT cI cJ h (n, L) (kt, km, kl) (pt, pm, pl) (nu, le, ow, fo, run, wc, lc, (tr + 1), cl, tm, 0) (yl, yc, yt, co, pa, su, sc) mc ++ R) := hD
  refine lv_iload_n hx hb dX2_goOn_15 rfl (lv_at hl 1 rfl) ?_
  refine lv_if_eq (tgt := 29) hx hb dX2_goOn_16 (by decide) (fun c_2 => ?_) (fun c_2 => ?_)
  · skip
    exfalso; first | omega | (revert c_2; decide) | (exact absurd rfl c_2) | simp_all
  · skip
    refine lv_aload_n hx hb dX2_goOn_19 rfl (lv_at hl 0 rfl) ?_
    refine lv_dup hx hb dX2_goOn_20 rfl ?_
    refine va_get (ci := 2) (v := .int (nI cl)) (C := RX2) (T := TX2) (N := 11) hx hb hts hinX2 hown hK hP 11 rfl rfl 8 (by decide) (hts (.fieldLink RX2 38 "TypingTutor$Lesson" "clean" "I") (List.mem_of_getElem? (i := 3) rfl)) (fun _ h9 => h9) rfl dX2_goOn_21 ?_
    refine lv_iconst (v := 1) hx hb dX2_goOn_24 (by decide) ?_
    refine lv_iadd hx hb dX2_goOn_25 ?_
    refine lv_topi (fun v_3 ev_3 => ?_)
    obtain rfl : v_3 = (nI (cl + 1)) := ev_3.trans (nI_add cl 1)
    refine va_put (ci := 2) (v := .int (nI (cl + 1))) (ty := .int) (C := RX2) (T := TX2) (N := 11) hx hb hts hinX2 tyX2 tyX2_ok nmX2 hown hK hP hD hS 11 rfl rfl 8 (by decide) (hts (.fieldLink RX2 38 "TypingTutor$Lesson" "clean" "I") (List.mem_of_getElem? (i := 3) rfl)) (fun _ h9 => h9) rfl (by decide +kernel) rfl rfl (Nat.le_of_ble_eq_true rfl) dX2_goOn_26 (fun H locs hP hD hS => ?_)
    have hP : va_P D vwCl (zWT cI cJ h (n, L) (kt, km, kl) (pt, pm, pl) (nu, le, ow, fo, run, wc, lc, (tr + 1), (cl + 1), tm, 0) (yl, yc, yt, co, pa, su, sc) mc ++ R) _ := hP
    have hD : va_D (zAb B) (zWT cI cJ h (n, L) (kt, km, kl) (pt, pm, pl) (nu, le, ow, fo, run, wc, lc, (tr + 1), (cl + 1), tm, 0) (yl, yc, yt, co, pa, su, sc) mc ++ R) := hD
    exact W.vret hx hb hr (fun t ht hW => ⟨⟨(), rfl, trivial, by rw [ht]; exact hP, hD⟩, hS.F ht⟩) hS.2.2 dX2_goOn_29

set_option maxHeartbeats 4000000 in
set_option maxRecDepth 100000 in
theorem c_X2_goOn_0 {l : Launch} {B kr kp : Nat} {D : va_G} {cI cJ cZ : ClassId} {h : Nat → Nat} {R : va_W} {n : Nat} {L : Nat → Int64} {kt : Nat → Int32} {km : Nat → Int32} {kl : Nat → Int32} {pt : Nat → Int32} {pm : Nat → Int32} {pl : Nat → Int32} {nu : Nat → Int32} {le : Nat → Int32} {ow : Nat → Int32} {fo : Nat → Int32} {run : Bool} {wc : Nat} {lc : Nat} {tr : Nat} {cl : Nat} {tm : Nat} {ms : Nat} {yl : Nat → Int32} {yc : Nat → Int32} {yt : Nat → Int32} {co : Nat} {pa : Int32} {su : Nat} {sc : Nat} {mc : Nat → Int32}     : Met l yX2_goOn wsX2_goOn ({ frames := 0, cells := 0, slots := 0, locals := 0 }) (zPc B kr kp D (zTy cI cJ cZ) (zWT cI cJ h (n, L) (kt, km, kl) (pt, pm, pl) (nu, le, ow, fo, run, wc, lc, tr, cl, tm, ms) (yl, yc, yt, co, pa, su, sc) mc ++ R) [.ref (h 11), .int 0]) (zQv B D (zWT cI cJ h (n, L) (kt, km, kl) (pt, pm, pl) (nu, le, ow, fo, run, wc, lc, (tr + 1), cl, tm, 0) (yl, yc, yt, co, pa, su, sc) mc ++ R)) 0 0 (zAb B) := by
  refine Met.ofW (cc := cX2_goOn) (maxL := 2) (ret := none) (by decide) rfl ?_
  intro p e s m args below meth c s₁ B0 hml hv
  obtain ⟨rfl, hP, hD, hK, hE, hB⟩ := hv
  have hx := B0.exec
  have hb := B0.bytes
  have hr := B0.returns
  have hts := atoms_spec (ws := wsX2_goOn) B0.pre
  have hown : s.vm.findClass RX2 = some m.cls := findClass_of_methodNamed B0.named
  have hlocks := B0.notSynchronized
  have hA : ∀ q : Nat, s.heap.size ≤ q → zAb B q := fun q hq => Nat.le_trans hB hq
  have hS : va_S (zAb B) s.heap s.heap [] := va_S.rf
  have hl := lv_entry ([.ref (h 11), .int 0]) (n := 2) (Nat.le_of_ble_eq_true rfl)
  rw [lg_entry_eq]
  generalize (lg_sl ([.ref (h 11), .int 0]) ++ List.replicate (2 - (lg_sl ([.ref (h 11), .int 0])).length) Slot.unset).toArray = ls at hl ⊢
  have hl : lv_has ls 2 [(0, .ref (h 11)), (1, .int 0)] := hl
  have hinX2 : ∀ w ∈ wsX20, w ∈ wsX2_goOn := fun _ h => List.mem_cons_of_mem _ (List.mem_append_right _ h)
  have hP : va_P D vwCl (zWT cI cJ h (n, L) (kt, km, kl) (pt, pm, pl) (nu, le, ow, fo, run, wc, lc, tr, cl, tm, ms) (yl, yc, yt, co, pa, su, sc) mc ++ R) s.heap := hP
  have hD : va_D (zAb B) (zWT cI cJ h (n, L) (kt, km, kl) (pt, pm, pl) (nu, le, ow, fo, run, wc, lc, tr, cl, tm, ms) (yl, yc, yt, co, pa, su, sc) mc ++ R) := hD
  refine lv_aload_n hx hb dX2_goOn_0 rfl (lv_at hl 0 rfl) ?_
  refine lv_dup hx hb dX2_goOn_1 rfl ?_
  refine va_get (ci := 2) (v := .int (nI tr)) (C := RX2) (T := TX2) (N := 11) hx hb hts hinX2 hown hK hP 11 rfl rfl 7 (by decide) (hts (.fieldLink RX2 35 "TypingTutor$Lesson" "tried" "I") (List.mem_of_getElem? (i := 1) rfl)) (fun _ h9 => h9) rfl dX2_goOn_2 ?_
  refine lv_iconst (v := 1) hx hb dX2_goOn_5 (by decide) ?_
  refine lv_iadd hx hb dX2_goOn_6 ?_
  refine lv_topi (fun v_1 ev_1 => ?_)
  obtain rfl : v_1 = (nI (tr + 1)) := ev_1.trans (nI_add tr 1)
  refine va_put (ci := 2) (v := .int (nI (tr + 1))) (ty := .int) (C := RX2) (T := TX2) (N := 11) hx hb hts hinX2 tyX2 tyX2_ok nmX2 hown hK hP hD hS 11 rfl rfl 7 (by decide) (hts (.fieldLink RX2 35 "TypingTutor$Lesson" "tried" "I") (List.mem_of_getElem? (i := 1) rfl)) (fun _ h9 => h9) rfl (by decide +kernel) rfl rfl (Nat.le_of_ble_eq_true rfl) dX2_goOn_7 (fun H locs hP hD hS => ?_)
  have hP : va_P D vwCl (zWT cI cJ h (n, L) (kt, km, kl) (pt, pm, pl) (nu, le, ow, fo, run, wc, lc, (tr + 1), cl, tm, ms) (yl, yc, yt, co, pa, su, sc) mc ++ R) _ := hP
  have hD : va_D (zAb B) (zWT cI cJ h (n, L) (kt, km, kl) (pt, pm, pl) (nu, le, ow, fo, run, wc, lc, (tr + 1), cl, tm, ms) (yl, yc, yt, co, pa, su, sc) mc ++ R) := hD
  refine lv_aload_n hx hb dX2_goOn_10 rfl (lv_at hl 0 rfl) ?_
  refine lv_iconst (v := 0) hx hb dX2_goOn_11 (by decide) ?_
  refine va_put (ci := 2) (v := .int 0) (ty := .int) (C := RX2) (T := TX2) (N := 11) hx hb hts hinX2 tyX2 tyX2_ok nmX2 hown hK hP hD hS 11 rfl rfl 10 (by decide) (hts (.fieldLink RX2 44 "TypingTutor$Lesson" "misses" "I") (List.mem_of_getElem? (i := 2) rfl)) (fun _ h9 => h9) rfl (by decide +kernel) rfl rfl (Nat.le_of_ble_eq_true rfl) dX2_goOn_12 (fun H locs hP hD hS => ?_)
  have hP : va_P D vwCl (zWT cI cJ h (n, L) (kt, km, kl) (pt, pm, pl) (nu, le, ow, fo, run, wc, lc, (tr + 1), cl, tm, 0) (yl, yc, yt, co, pa, su, sc) mc ++ R) _ := hP
  have hD : va_D (zAb B) (zWT cI cJ h (n, L) (kt, km, kl) (pt, pm, pl) (nu, le, ow, fo, run, wc, lc, (tr + 1), cl, tm, 0) (yl, yc, yt, co, pa, su, sc) mc ++ R) := hD
  refine lv_iload_n hx hb dX2_goOn_15 rfl (lv_at hl 1 rfl) ?_
  refine lv_if_eq (tgt := 29) hx hb dX2_goOn_16 (by decide) (fun c_2 => ?_) (fun c_2 => ?_)
  · skip
    exact W.vret hx hb hr (fun t ht hW => ⟨⟨(), rfl, trivial, by rw [ht]; exact hP, hD⟩, hS.F ht⟩) hS.2.2 dX2_goOn_29
  · skip
    exfalso; first | omega | (revert c_2; decide) | (exact absurd rfl c_2) | simp_all

set_option maxHeartbeats 4000000 in
set_option maxRecDepth 100000 in
theorem c_X2_stop {l : Launch} {B kr kp : Nat} {D : va_G} {cI cJ cZ : ClassId} {h : Nat → Nat} {R : va_W} {n : Nat} {L : Nat → Int64} {kt : Nat → Int32} {km : Nat → Int32} {kl : Nat → Int32} {pt : Nat → Int32} {pm : Nat → Int32} {pl : Nat → Int32} {nu : Nat → Int32} {le : Nat → Int32} {ow : Nat → Int32} {fo : Nat → Int32} {run : Bool} {wc : Nat} {lc : Nat} {tr : Nat} {cl : Nat} {tm : Nat} {ms : Nat} {yl : Nat → Int32} {yc : Nat → Int32} {yt : Nat → Int32} {co : Nat} {pa : Int32} {su : Nat} {sc : Nat} {mc : Nat → Int32}     : Met l yX2_stop wsX2_stop ({ frames := 0, cells := 0, slots := 0, locals := 0 }) (zPc B kr kp D (zTy cI cJ cZ) (zWT cI cJ h (n, L) (kt, km, kl) (pt, pm, pl) (nu, le, ow, fo, run, wc, lc, tr, cl, tm, ms) (yl, yc, yt, co, pa, su, sc) mc ++ R) [.ref (h 11)]) (zQv B D (zWT cI cJ h (n, L) (kt, km, kl) (pt, pm, pl) (nu, le, ow, fo, false, wc, lc, tr, cl, tm, ms) (yl, yc, yt, co, pa, su, sc) mc ++ R)) 0 0 (zAb B) := by
  refine Met.ofW (cc := cX2_stop) (maxL := 1) (ret := none) (by decide) rfl ?_
  intro p e s m args below meth c s₁ B0 hml hv
  obtain ⟨rfl, hP, hD, hK, hE, hB⟩ := hv
  have hx := B0.exec
  have hb := B0.bytes
  have hr := B0.returns
  have hts := atoms_spec (ws := wsX2_stop) B0.pre
  have hown : s.vm.findClass RX2 = some m.cls := findClass_of_methodNamed B0.named
  have hlocks := B0.notSynchronized
  have hA : ∀ q : Nat, s.heap.size ≤ q → zAb B q := fun q hq => Nat.le_trans hB hq
  have hS : va_S (zAb B) s.heap s.heap [] := va_S.rf
  have hl := lv_entry ([.ref (h 11)]) (n := 1) (Nat.le_of_ble_eq_true rfl)
  rw [lg_entry_eq]
  generalize (lg_sl ([.ref (h 11)]) ++ List.replicate (1 - (lg_sl ([.ref (h 11)])).length) Slot.unset).toArray = ls at hl ⊢
  have hl : lv_has ls 1 [(0, .ref (h 11))] := hl
  have hinX2 : ∀ w ∈ wsX20, w ∈ wsX2_stop := fun _ h => List.mem_cons_of_mem _ (List.mem_append_right _ h)
  have hP : va_P D vwCl (zWT cI cJ h (n, L) (kt, km, kl) (pt, pm, pl) (nu, le, ow, fo, run, wc, lc, tr, cl, tm, ms) (yl, yc, yt, co, pa, su, sc) mc ++ R) s.heap := hP
  have hD : va_D (zAb B) (zWT cI cJ h (n, L) (kt, km, kl) (pt, pm, pl) (nu, le, ow, fo, run, wc, lc, tr, cl, tm, ms) (yl, yc, yt, co, pa, su, sc) mc ++ R) := hD
  refine lv_aload_n hx hb dX2_stop_0 rfl (lv_at hl 0 rfl) ?_
  refine lv_iconst (v := 0) hx hb dX2_stop_1 (by decide) ?_
  refine va_put (ci := 2) (v := .int 0) (ty := .boolean) (C := RX2) (T := TX2) (N := 11) hx hb hts hinX2 tyX2 tyX2_ok nmX2 hown hK hP hD hS 11 rfl rfl 4 (by decide) (hts (.fieldLink RX2 24 "TypingTutor$Lesson" "running" "Z") (List.mem_of_getElem? (i := 1) rfl)) (fun _ h9 => h9) rfl (by decide +kernel) rfl rfl (Nat.le_of_ble_eq_true rfl) dX2_stop_2 (fun H locs hP hD hS => ?_)
  have hP : va_P D vwCl (zWT cI cJ h (n, L) (kt, km, kl) (pt, pm, pl) (nu, le, ow, fo, false, wc, lc, tr, cl, tm, ms) (yl, yc, yt, co, pa, su, sc) mc ++ R) _ := hP
  have hD : va_D (zAb B) (zWT cI cJ h (n, L) (kt, km, kl) (pt, pm, pl) (nu, le, ow, fo, false, wc, lc, tr, cl, tm, ms) (yl, yc, yt, co, pa, su, sc) mc ++ R) := hD
  exact W.vret hx hb hr (fun t ht hW => ⟨⟨(), rfl, trivial, by rw [ht]; exact hP, hD⟩, hS.F ht⟩) hS.2.2 dX2_stop_5

set_option maxHeartbeats 4000000 in
set_option maxRecDepth 100000 in
theorem c_X2_start {l : Launch} {B kr kp : Nat} {D : va_G} {cI cJ cZ : ClassId} {h : Nat → Nat} {R : va_W} {n : Nat} {L : Nat → Int64} {kt : Nat → Int32} {km : Nat → Int32} {kl : Nat → Int32} {pt : Nat → Int32} {pm : Nat → Int32} {pl : Nat → Int32} {nu : Nat → Int32} {le : Nat → Int32} {ow : Nat → Int32} {fo : Nat → Int32} {run : Bool} {wc : Nat} {lc : Nat} {tr : Nat} {cl : Nat} {tm : Nat} {ms : Nat} {yl : Nat → Int32} {yc : Nat → Int32} {yt : Nat → Int32} {co : Nat} {pa : Int32} {su : Nat} {sc : Nat} {mc : Nat → Int32}     : Met l yX2_start wsX2_start ({ frames := 1, cells := 0, slots := 0, locals := 23 }) (zPc B kr kp D (zTy cI cJ cZ) (zWT cI cJ h (n, L) (kt, km, kl) (pt, pm, pl) (nu, le, ow, fo, run, wc, lc, tr, cl, tm, ms) (yl, yc, yt, co, pa, su, sc) mc ++ R) [.ref (h 11)]) (zQv B D (zWT cI cJ h (n, L) (kt, km, kl) (pt, pm, pl) (nu, le, ow, (zfil 26 0 fo), true, 0, 0, 0, 0, 0, 0) (yl, yc, yt, co, pa, su, sc) mc ++ R)) 0 0 (zAb B) := by
  refine Met.ofW (cc := cX2_start) (maxL := 1) (ret := none) (by decide) rfl ?_
  intro p e s m args below meth c s₁ B0 hml hv
  obtain ⟨rfl, hP, hD, hK, hE, hB⟩ := hv
  have hx := B0.exec
  have hb := B0.bytes
  have hr := B0.returns
  have hts := atoms_spec (ws := wsX2_start) B0.pre
  have hown : s.vm.findClass RX2 = some m.cls := findClass_of_methodNamed B0.named
  have hlocks := B0.notSynchronized
  have hA : ∀ q : Nat, s.heap.size ≤ q → zAb B q := fun q hq => Nat.le_trans hB hq
  have hS : va_S (zAb B) s.heap s.heap [] := va_S.rf
  have hl := lv_entry ([.ref (h 11)]) (n := 1) (Nat.le_of_ble_eq_true rfl)
  rw [lg_entry_eq]
  generalize (lg_sl ([.ref (h 11)]) ++ List.replicate (1 - (lg_sl ([.ref (h 11)])).length) Slot.unset).toArray = ls at hl ⊢
  have hl : lv_has ls 1 [(0, .ref (h 11))] := hl
  have hinX2 : ∀ w ∈ wsX20, w ∈ wsX2_start := fun _ h => List.mem_cons_of_mem _ (List.mem_append_right _ h)
  have hP : va_P D vwCl (zWT cI cJ h (n, L) (kt, km, kl) (pt, pm, pl) (nu, le, ow, fo, run, wc, lc, tr, cl, tm, ms) (yl, yc, yt, co, pa, su, sc) mc ++ R) s.heap := hP
  have hD : va_D (zAb B) (zWT cI cJ h (n, L) (kt, km, kl) (pt, pm, pl) (nu, le, ow, fo, run, wc, lc, tr, cl, tm, ms) (yl, yc, yt, co, pa, su, sc) mc ++ R) := hD
  refine lv_aload_n hx hb dX2_start_0 rfl (lv_at hl 0 rfl) ?_
  refine va_get (ci := 2) (v := .ref (h 15)) (C := RX2) (T := TX2) (N := 11) hx hb hts hinX2 hown hK hP 11 rfl rfl 3 (by decide) (hts (.fieldLink RX2 21 "TypingTutor$Lesson" "followers" "[I") (List.mem_of_getElem? (i := 1) rfl)) (fun _ h9 => h9) rfl dX2_start_1 ?_
  refine lv_iconst (v := 0) hx hb dX2_start_4 (by decide) ?_
  refine zcv (zrS (As := [.ref (h 15), .int 0]) (rest := []) ⟨hx, hb, hml, hown, hts⟩ (zS hP hD hK hE hB hS) (c_J7_fill_53178 (q0 := 15) rfl (by omega)) (va_cwS 2 hts gX2_start_J7_fill_53178 rfl rfl rfl hds_J7_fill_53178 ⟨Nat.le_of_ble_eq_true rfl, Nat.le_of_ble_eq_true rfl⟩) rfl rfl hl.1 rfl (lv_room (Nat.le_of_ble_eq_true rfl)) dX2_start_5 ⟨Nat.le_of_ble_eq_true rfl, Nat.le_of_ble_eq_true rfl⟩) hS (fun H locs hP hD hS => ?_)
  have hP : va_P D vwCl (zWT cI cJ h (n, L) (kt, km, kl) (pt, pm, pl) (nu, le, ow, (zfil 26 0 fo), run, wc, lc, tr, cl, tm, ms) (yl, yc, yt, co, pa, su, sc) mc ++ R) _ := hP
  have hD : va_D (zAb B) (zWT cI cJ h (n, L) (kt, km, kl) (pt, pm, pl) (nu, le, ow, (zfil 26 0 fo), run, wc, lc, tr, cl, tm, ms) (yl, yc, yt, co, pa, su, sc) mc ++ R) := hD
  refine lv_aload_n hx hb dX2_start_8 rfl (lv_at hl 0 rfl) ?_
  refine lv_iconst (v := 1) hx hb dX2_start_9 (by decide) ?_
  refine va_put (ci := 2) (v := .int 1) (ty := .boolean) (C := RX2) (T := TX2) (N := 11) hx hb hts hinX2 tyX2 tyX2_ok nmX2 hown hK hP hD hS 11 rfl rfl 4 (by decide) (hts (.fieldLink RX2 24 "TypingTutor$Lesson" "running" "Z") (List.mem_of_getElem? (i := 2) rfl)) (fun _ h9 => h9) rfl (by decide +kernel) rfl rfl (Nat.le_of_ble_eq_true rfl) dX2_start_10 (fun H locs hP hD hS => ?_)
  have hP : va_P D vwCl (zWT cI cJ h (n, L) (kt, km, kl) (pt, pm, pl) (nu, le, ow, (zfil 26 0 fo), true, wc, lc, tr, cl, tm, ms) (yl, yc, yt, co, pa, su, sc) mc ++ R) _ := hP
  have hD : va_D (zAb B) (zWT cI cJ h (n, L) (kt, km, kl) (pt, pm, pl) (nu, le, ow, (zfil 26 0 fo), true, wc, lc, tr, cl, tm, ms) (yl, yc, yt, co, pa, su, sc) mc ++ R) := hD
  refine lv_aload_n hx hb dX2_start_13 rfl (lv_at hl 0 rfl) ?_
  refine lv_iconst (v := 0) hx hb dX2_start_14 (by decide) ?_
  refine va_put (ci := 2) (v := .int 0) (ty := .int) (C := RX2) (T := TX2) (N := 11) hx hb hts hinX2 tyX2 tyX2_ok nmX2 hown hK hP hD hS 11 rfl rfl 5 (by decide) (hts (.fieldLink RX2 28 "TypingTutor$Lesson" "wordCount" "I") (List.mem_of_getElem? (i := 3) rfl)) (fun _ h9 => h9) rfl (by decide +kernel) rfl rfl (Nat.le_of_ble_eq_true rfl) dX2_start_15 (fun H locs hP hD hS => ?_)
  have hP : va_P D vwCl (zWT cI cJ h (n, L) (kt, km, kl) (pt, pm, pl) (nu, le, ow, (zfil 26 0 fo), true, 0, lc, tr, cl, tm, ms) (yl, yc, yt, co, pa, su, sc) mc ++ R) _ := hP
  have hD : va_D (zAb B) (zWT cI cJ h (n, L) (kt, km, kl) (pt, pm, pl) (nu, le, ow, (zfil 26 0 fo), true, 0, lc, tr, cl, tm, ms) (yl, yc, yt, co, pa, su, sc) mc ++ R) := hD
  refine lv_aload_n hx hb dX2_start_18 rfl (lv_at hl 0 rfl) ?_
  refine lv_iconst (v := 0) hx hb dX2_start_19 (by decide) ?_
  refine va_put (ci := 2) (v := .int 0) (ty := .int) (C := RX2) (T := TX2) (N := 11) hx hb hts hinX2 tyX2 tyX2_ok nmX2 hown hK hP hD hS 11 rfl rfl 6 (by decide) (hts (.fieldLink RX2 32 "TypingTutor$Lesson" "letterCount" "I") (List.mem_of_getElem? (i := 4) rfl)) (fun _ h9 => h9) rfl (by decide +kernel) rfl rfl (Nat.le_of_ble_eq_true rfl) dX2_start_20 (fun H locs hP hD hS => ?_)
  have hP : va_P D vwCl (zWT cI cJ h (n, L) (kt, km, kl) (pt, pm, pl) (nu, le, ow, (zfil 26 0 fo), true, 0, 0, tr, cl, tm, ms) (yl, yc, yt, co, pa, su, sc) mc ++ R) _ := hP
  have hD : va_D (zAb B) (zWT cI cJ h (n, L) (kt, km, kl) (pt, pm, pl) (nu, le, ow, (zfil 26 0 fo), true, 0, 0, tr, cl, tm, ms) (yl, yc, yt, co, pa, su, sc) mc ++ R) := hD
  refine lv_aload_n hx hb dX2_start_23 rfl (lv_at hl 0 rfl) ?_
  refine lv_iconst (v := 0) hx hb dX2_start_24 (by decide) ?_
  refine va_put (ci := 2) (v := .int 0) (ty := .int) (C := RX2) (T := TX2) (N := 11) hx hb hts hinX2 tyX2 tyX2_ok nmX2 hown hK hP hD hS 11 rfl rfl 7 (by decide) (hts (.fieldLink RX2 35 "TypingTutor$Lesson" "tried" "I") (List.mem_of_getElem? (i := 5) rfl)) (fun _ h9 => h9) rfl (by decide +kernel) rfl rfl (Nat.le_of_ble_eq_true rfl) dX2_start_25 (fun H locs hP hD hS => ?_)
  have hP : va_P D vwCl (zWT cI cJ h (n, L) (kt, km, kl) (pt, pm, pl) (nu, le, ow, (zfil 26 0 fo), true, 0, 0, 0, cl, tm, ms) (yl, yc, yt, co, pa, su, sc) mc ++ R) _ := hP
  have hD : va_D (zAb B) (zWT cI cJ h (n, L) (kt, km, kl) (pt, pm, pl) (nu, le, ow, (zfil 26 0 fo), true, 0, 0, 0, cl, tm, ms) (yl, yc, yt, co, pa, su, sc) mc ++ R) := hD
  refine lv_aload_n hx hb dX2_start_28 rfl (lv_at hl 0 rfl) ?_
  refine lv_iconst (v := 0) hx hb dX2_start_29 (by decide) ?_
  refine va_put (ci := 2) (v := .int 0) (ty := .int) (C := RX2) (T := TX2) (N := 11) hx hb hts hinX2 tyX2 tyX2_ok nmX2 hown hK hP hD hS 11 rfl rfl 8 (by decide) (hts (.fieldLink RX2 38 "TypingTutor$Lesson" "clean" "I") (List.mem_of_getElem? (i := 6) rfl)) (fun _ h9 => h9) rfl (by decide +kernel) rfl rfl (Nat.le_of_ble_eq_true rfl) dX2_start_30 (fun H locs hP hD hS => ?_)
  have hP : va_P D vwCl (zWT cI cJ h (n, L) (kt, km, kl) (pt, pm, pl) (nu, le, ow, (zfil 26 0 fo), true, 0, 0, 0, 0, tm, ms) (yl, yc, yt, co, pa, su, sc) mc ++ R) _ := hP
  have hD : va_D (zAb B) (zWT cI cJ h (n, L) (kt, km, kl) (pt, pm, pl) (nu, le, ow, (zfil 26 0 fo), true, 0, 0, 0, 0, tm, ms) (yl, yc, yt, co, pa, su, sc) mc ++ R) := hD
  refine lv_aload_n hx hb dX2_start_33 rfl (lv_at hl 0 rfl) ?_
  refine lv_iconst (v := 0) hx hb dX2_start_34 (by decide) ?_
  refine va_put (ci := 2) (v := .int 0) (ty := .int) (C := RX2) (T := TX2) (N := 11) hx hb hts hinX2 tyX2 tyX2_ok nmX2 hown hK hP hD hS 11 rfl rfl 9 (by decide) (hts (.fieldLink RX2 41 "TypingTutor$Lesson" "times" "I") (List.mem_of_getElem? (i := 7) rfl)) (fun _ h9 => h9) rfl (by decide +kernel) rfl rfl (Nat.le_of_ble_eq_true rfl) dX2_start_35 (fun H locs hP hD hS => ?_)
  have hP : va_P D vwCl (zWT cI cJ h (n, L) (kt, km, kl) (pt, pm, pl) (nu, le, ow, (zfil 26 0 fo), true, 0, 0, 0, 0, 0, ms) (yl, yc, yt, co, pa, su, sc) mc ++ R) _ := hP
  have hD : va_D (zAb B) (zWT cI cJ h (n, L) (kt, km, kl) (pt, pm, pl) (nu, le, ow, (zfil 26 0 fo), true, 0, 0, 0, 0, 0, ms) (yl, yc, yt, co, pa, su, sc) mc ++ R) := hD
  refine lv_aload_n hx hb dX2_start_38 rfl (lv_at hl 0 rfl) ?_
  refine lv_iconst (v := 0) hx hb dX2_start_39 (by decide) ?_
  refine va_put (ci := 2) (v := .int 0) (ty := .int) (C := RX2) (T := TX2) (N := 11) hx hb hts hinX2 tyX2 tyX2_ok nmX2 hown hK hP hD hS 11 rfl rfl 10 (by decide) (hts (.fieldLink RX2 44 "TypingTutor$Lesson" "misses" "I") (List.mem_of_getElem? (i := 8) rfl)) (fun _ h9 => h9) rfl (by decide +kernel) rfl rfl (Nat.le_of_ble_eq_true rfl) dX2_start_40 (fun H locs hP hD hS => ?_)
  have hP : va_P D vwCl (zWT cI cJ h (n, L) (kt, km, kl) (pt, pm, pl) (nu, le, ow, (zfil 26 0 fo), true, 0, 0, 0, 0, 0, 0) (yl, yc, yt, co, pa, su, sc) mc ++ R) _ := hP
  have hD : va_D (zAb B) (zWT cI cJ h (n, L) (kt, km, kl) (pt, pm, pl) (nu, le, ow, (zfil 26 0 fo), true, 0, 0, 0, 0, 0, 0) (yl, yc, yt, co, pa, su, sc) mc ++ R) := hD
  exact W.vret hx hb hr (fun t ht hW => ⟨⟨(), rfl, trivial, by rw [ht]; exact hP, hD⟩, hS.F ht⟩) hS.2.2 dX2_start_43

set_option maxHeartbeats 4000000 in
set_option maxRecDepth 100000 in
theorem c_X4_lengthOf {l : Launch} {B kr kp : Nat} {D : va_G} {cI cJ cZ : ClassId} {ws : va_W} {w : Int64}    : Met l yX4_lengthOf wsX4_lengthOf ({ frames := 0, cells := 0, slots := 0, locals := 0 }) (zPc B kr kp D (zTy cI cJ cZ) ws [.long w]) (zQi B D ws (nI (zsz w))) 0 0 (zAb B) := by
  refine Met.ofW (cc := cX4_lengthOf) (maxL := 3) (ret := (some .int)) (by decide) rfl ?_
  intro p e s m args below meth c s₁ B0 hml hv
  obtain ⟨rfl, hP, hD, hK, hE, hB⟩ := hv
  have hx := B0.exec
  have hb := B0.bytes
  have hr := B0.returns
  have hts := atoms_spec (ws := wsX4_lengthOf) B0.pre
  have hown : s.vm.findClass RX4 = some m.cls := findClass_of_methodNamed B0.named
  have hlocks := B0.notSynchronized
  have hA : ∀ q : Nat, s.heap.size ≤ q → zAb B q := fun q hq => Nat.le_trans hB hq
  have hS : va_S (zAb B) s.heap s.heap [] := va_S.rf
  have hl := lv_entry ([.long w]) (n := 3) (Nat.le_of_ble_eq_true rfl)
  rw [lg_entry_eq]
  generalize (lg_sl ([.long w]) ++ List.replicate (3 - (lg_sl ([.long w])).length) Slot.unset).toArray = ls at hl ⊢
  have hl : lv_has ls 3 [(0, .long w)] := hl
  have hP : va_P D vwCl ws s.heap := hP
  have hD : va_D (zAb B) ws := hD
  refine lv_iconst (v := 0) hx hb dX4_lengthOf_0 (by decide) ?_
  refine lv_istore_n (lv' := [(2, .int 0), (0, .long w)]) hx hb dX4_lengthOf_1 rfl hl (by decide) rfl (fun ls hl => ?_)
  refine zloop (σ := (Nat)) (nL := 3) (fun x9 => ws) (fun x9 => [(2, .int (nI x9)), (0, .long w)]) (fun x9 => []) (fun x9 => x9 ≤ 8 ∧ zszA w (8 - x9) x9 = zsz w) (fun x9 => 8 - x9) ?_ (0) (⟨by omega, rfl⟩) _ _ _ hP hD hS (lv_sub hl [0, 1] rfl)
  rintro s9 hI ih H locs ls hP hD hS hl
  try dsimp only at hI ih hP hD hS hl ⊢
  refine lv_iload_n hx hb dX4_lengthOf_2 rfl (lv_at hl 0 rfl) ?_
  refine lv_bipush (v := 8) hx hb dX4_lengthOf_3 (by decide) ?_
  refine lv_icmp_ge (tgt := 25) hx hb dX4_lengthOf_5 (by decide) (fun c_1 => ?_) (fun c_1 => ?_)
  · skip
    have c_1 : 8 ≤ s9 := (nI_leI (a := 8) (b := s9) (by omega) (by omega)).mp c_1
    refine lv_iload_n hx hb dX4_lengthOf_25 rfl (lv_at hl 0 rfl) ?_
    exact W.iret (v := (nI s9)) hx hb hr (fun t ht hW => ⟨⟨_, (), rfl, by first | exact congrArg nI ((zszA_stop (by omega) (by assumption)).symm.trans hI.2) | (obtain rfl : s9 = 8 := (by omega); exact congrArg nI hI.2), by rw [ht]; exact hP, hD⟩, hS.F ht⟩) hS.2.2 dX4_lengthOf_26
  · skip
    have c_1 : ¬ 8 ≤ s9 := fun hh => c_1 ((nI_leI (a := 8) (b := s9) (by omega) (by omega)).mpr hh)
    refine lv_lload_n hx hb dX4_lengthOf_8 rfl (lv_at hl 1 rfl) ?_
    refine lv_bipush (v := 8) hx hb dX4_lengthOf_9 (by decide) ?_
    refine lv_iload_n hx hb dX4_lengthOf_11 rfl (lv_at hl 0 rfl) ?_
    refine lv_imul hx hb dX4_lengthOf_12 ?_
    refine lv_topi (fun v_2 ev_2 => ?_)
    obtain rfl : v_2 = (nI (8 * s9)) := ev_2.trans (pk_mul 8 s9)
    refine lv_lushr (v := (w.toUInt64 >>> ((nI (8 * s9)).toInt64.toUInt64 &&& Int64.toUInt64 63)).toInt64) hx hb dX4_lengthOf_13 rfl ?_
    refine lv_lconst (v := 0) hx hb dX4_lengthOf_14 (by decide) ?_
    refine W.lcmp hx hb dX4_lengthOf_15 ?_
    refine lv_if_eq (tgt := 25) hx hb dX4_lengthOf_16 (by decide) (fun c_3 => ?_) (fun c_3 => ?_)
    · skip
      have c_3 : ((w.toUInt64 >>> ((nI (8 * s9)).toInt64.toUInt64 &&& Int64.toUInt64 63)).toInt64) = 0 := (lg_cmp_eq _ _).mp c_3
      refine lv_iload_n hx hb dX4_lengthOf_25 rfl (lv_at hl 0 rfl) ?_
      exact W.iret (v := (nI s9)) hx hb hr (fun t ht hW => ⟨⟨_, (), rfl, by first | exact congrArg nI ((zszA_stop (by omega) (by assumption)).symm.trans hI.2) | (obtain rfl : s9 = 8 := (by omega); exact congrArg nI hI.2), by rw [ht]; exact hP, hD⟩, hS.F ht⟩) hS.2.2 dX4_lengthOf_26
    · skip
      have c_3 : ¬ ((w.toUInt64 >>> ((nI (8 * s9)).toInt64.toUInt64 &&& Int64.toUInt64 63)).toInt64) = 0 := fun hh => c_3 ((lg_cmp_eq _ _).mpr hh)
      refine lv_iinc (v := (nI (s9 + 1))) (lv' := [(2, .int (nI (s9 + 1))), (0, .long w)]) hx hb dX4_lengthOf_19 hl (k := 0) rfl (nI_add s9 1) (by decide) rfl (fun ls hl => ?_)
      refine lv_goto (tgt := 2) hx hb dX4_lengthOf_22 (by decide) ?_
      exact ih ((s9 + 1)) (⟨by omega, (zszA_step (by omega) (by assumption)).symm.trans hI.2⟩) (by omega) _ _ _ hP hD hS (lv_sub hl [0, 1] rfl)

set_option maxHeartbeats 4000000 in
set_option maxRecDepth 100000 in
theorem c_X0_speedOf {l : Launch} {B kr kp : Nat} {D : va_G} {cI cJ cZ : ClassId} {h : Nat → Nat} {R : va_W} {n : Nat} {L : Nat → Int64} {kt : Nat → Int32} {km : Nat → Int32} {kl : Nat → Int32} {pt : Nat → Int32} {pm : Nat → Int32} {pl : Nat → Int32} {nu : Nat → Int32} {le : Nat → Int32} {ow : Nat → Int32} {fo : Nat → Int32} {run : Bool} {wc : Nat} {lc : Nat} {tr : Nat} {cl : Nat} {tm : Nat} {ms : Nat} {yl : Nat → Int32} {yc : Nat → Int32} {yt : Nat → Int32} {co : Nat} {pa : Int32} {su : Nat} {sc : Nat} {mc : Nat → Int32} {k : Nat}   (hk : k < 256) : Met l yX0_speedOf wsX0_speedOf ({ frames := 1, cells := 0, slots := 0, locals := 21 }) (zPc B kr kp D (zTy cI cJ cZ) (zWT cI cJ h (n, L) (kt, km, kl) (pt, pm, pl) (nu, le, ow, fo, run, wc, lc, tr, cl, tm, ms) (yl, yc, yt, co, pa, su, sc) mc ++ R) [.ref (h 16), .int (nI k)]) (zQi B D (zWT cI cJ h (n, L) (kt, km, kl) (pt, pm, pl) (nu, le, ow, fo, run, wc, lc, tr, cl, tm, ms) (yl, yc, yt, co, pa, su, sc) mc ++ R) (zsp yl yt k)) 0 0 (zAb B) := by
  refine Met.ofW (cc := cX0_speedOf) (maxL := 3) (ret := (some .int)) (by decide) rfl ?_
  intro p e s m args below meth c s₁ B0 hml hv
  obtain ⟨rfl, hP, hD, hK, hE, hB⟩ := hv
  have hx := B0.exec
  have hb := B0.bytes
  have hr := B0.returns
  have hts := atoms_spec (ws := wsX0_speedOf) B0.pre
  have hown : s.vm.findClass RX0 = some m.cls := findClass_of_methodNamed B0.named
  have hlocks := B0.notSynchronized
  have hA : ∀ q : Nat, s.heap.size ≤ q → zAb B q := fun q hq => Nat.le_trans hB hq
  have hS : va_S (zAb B) s.heap s.heap [] := va_S.rf
  have hl := lv_entry ([.ref (h 16), .int (nI k)]) (n := 3) (Nat.le_of_ble_eq_true rfl)
  rw [lg_entry_eq]
  generalize (lg_sl ([.ref (h 16), .int (nI k)]) ++ List.replicate (3 - (lg_sl ([.ref (h 16), .int (nI k)])).length) Slot.unset).toArray = ls at hl ⊢
  have hl : lv_has ls 3 [(0, .ref (h 16)), (1, .int (nI k))] := hl
  have hinX0 : ∀ w ∈ wsX00, w ∈ wsX0_speedOf := fun _ h => List.mem_cons_of_mem _ (List.mem_append_right _ h)
  have hP : va_P D vwCl (zWT cI cJ h (n, L) (kt, km, kl) (pt, pm, pl) (nu, le, ow, fo, run, wc, lc, tr, cl, tm, ms) (yl, yc, yt, co, pa, su, sc) mc ++ R) s.heap := hP
  have hD : va_D (zAb B) (zWT cI cJ h (n, L) (kt, km, kl) (pt, pm, pl) (nu, le, ow, fo, run, wc, lc, tr, cl, tm, ms) (yl, yc, yt, co, pa, su, sc) mc ++ R) := hD
  refine lv_aload_n hx hb dX0_speedOf_0 rfl (lv_at hl 0 rfl) ?_
  refine va_get (ci := 0) (v := .ref (h 19)) (C := RX0) (T := TX0) (N := 7) hx hb hts hinX0 hown hK hP 16 rfl rfl 2 (by decide) (hts (.fieldLink RX0 18 "TypingTutor$History" "times" "[I") (List.mem_of_getElem? (i := 1) rfl)) (fun _ h9 => h9) rfl dX0_speedOf_1 ?_
  refine lv_iload_n hx hb dX0_speedOf_4 rfl (lv_at hl 1 rfl) ?_
  refine zci (zrSN (As := [.ref (h 19), .int (nI k)]) (rest := []) ⟨hx, hb, hml, hown, hts⟩ (zS hP hD hK hE hB hS) (c_X4_read (q0 := 19) rfl (by omega)) ⟨va_cnB 2 hts gX0_speedOf_X4_read_n34 rfl rfl rfl (hE.1 _ (List.mem_of_getElem? (i := 3) rfl)) (hts (.initialized RX4) (List.mem_of_getElem? (i := 5) rfl)) hds_X4_read ⟨Nat.le_of_ble_eq_true rfl, Nat.le_of_ble_eq_true rfl⟩, (hts (.static yX4_read) (List.mem_of_getElem? (i := 4) rfl)), trivial⟩ rfl rfl hl.1 rfl (lv_room (Nat.le_of_ble_eq_true rfl)) dX0_speedOf_5 ⟨Nat.le_of_ble_eq_true rfl, Nat.le_of_ble_eq_true rfl⟩) hS (fun H locs hP hD hS => ?_)
  have hP : va_P D vwCl (zWT cI cJ h (n, L) (kt, km, kl) (pt, pm, pl) (nu, le, ow, fo, run, wc, lc, tr, cl, tm, ms) (yl, yc, yt, co, pa, su, sc) mc ++ R) _ := hP
  have hD : va_D (zAb B) (zWT cI cJ h (n, L) (kt, km, kl) (pt, pm, pl) (nu, le, ow, fo, run, wc, lc, tr, cl, tm, ms) (yl, yc, yt, co, pa, su, sc) mc ++ R) := hD
  rw [show (zrd 256 yt (nI k)) = (yt k) from (zrd_in (n := 256) (k := k) (f := yt) (by omega) (by omega))]
  refine lv_istore_n (lv' := [(2, .int (yt k)), (0, .ref (h 16)), (1, .int (nI k))]) hx hb dX0_speedOf_8 rfl hl (by decide) rfl (fun ls hl => ?_)
  refine lv_iload_n hx hb dX0_speedOf_9 rfl (lv_at hl 0 rfl) ?_
  refine lv_if_le (tgt := 29) hx hb dX0_speedOf_10 (by decide) (fun c_1 => ?_) (fun c_1 => ?_)
  · skip
    refine lv_iconst (v := 0) hx hb dX0_speedOf_29 (by decide) ?_
    exact W.iret (v := 0) hx hb hr (fun t ht hW => ⟨⟨_, (), rfl, (if_neg (Int32.not_lt.mpr c_1)).symm, by rw [ht]; exact hP, hD⟩, hS.F ht⟩) hS.2.2 dX0_speedOf_30
  · skip
    refine lv_aload_n hx hb dX0_speedOf_13 rfl (lv_at hl 1 rfl) ?_
    refine va_get (ci := 0) (v := .ref (h 17)) (C := RX0) (T := TX0) (N := 7) hx hb hts hinX0 hown hK hP 16 rfl rfl 0 (by decide) (hts (.fieldLink RX0 9 "TypingTutor$History" "letters" "[I") (List.mem_of_getElem? (i := 2) rfl)) (fun _ h9 => h9) rfl dX0_speedOf_14 ?_
    refine lv_iload_n hx hb dX0_speedOf_17 rfl (lv_at hl 2 rfl) ?_
    refine zci (zrSN (As := [.ref (h 17), .int (nI k)]) (rest := []) ⟨hx, hb, hml, hown, hts⟩ (zS hP hD hK hE hB hS) (c_X4_read (q0 := 17) rfl (by omega)) ⟨va_cnB 2 hts gX0_speedOf_X4_read_n34 rfl rfl rfl (hE.1 _ (List.mem_of_getElem? (i := 3) rfl)) (hts (.initialized RX4) (List.mem_of_getElem? (i := 5) rfl)) hds_X4_read ⟨Nat.le_of_ble_eq_true rfl, Nat.le_of_ble_eq_true rfl⟩, (hts (.static yX4_read) (List.mem_of_getElem? (i := 4) rfl)), trivial⟩ rfl rfl hl.1 rfl (lv_room (Nat.le_of_ble_eq_true rfl)) dX0_speedOf_18 ⟨Nat.le_of_ble_eq_true rfl, Nat.le_of_ble_eq_true rfl⟩) hS (fun H locs hP hD hS => ?_)
    have hP : va_P D vwCl (zWT cI cJ h (n, L) (kt, km, kl) (pt, pm, pl) (nu, le, ow, fo, run, wc, lc, tr, cl, tm, ms) (yl, yc, yt, co, pa, su, sc) mc ++ R) _ := hP
    have hD : va_D (zAb B) (zWT cI cJ h (n, L) (kt, km, kl) (pt, pm, pl) (nu, le, ow, fo, run, wc, lc, tr, cl, tm, ms) (yl, yc, yt, co, pa, su, sc) mc ++ R) := hD
    rw [show (zrd 256 yl (nI k)) = (yl k) from (zrd_in (n := 256) (k := k) (f := yl) (by omega) (by omega))]
    refine lv_ldc hx hb hown (hts (.constant RX0 42 (60000)) (List.mem_of_getElem? (i := 3) rfl)) dX0_speedOf_21 ?_
    refine lv_imul hx hb dX0_speedOf_23 ?_
    refine lv_iload_n hx hb dX0_speedOf_24 rfl (lv_at hl 0 rfl) ?_
    refine lv_idiv hx hb dX0_speedOf_25 (fun hh => absurd (hh ▸ Int32.not_le.mp c_1) (by decide)) ?_
    refine lv_goto (tgt := 30) hx hb dX0_speedOf_26 (by decide) ?_
    exact W.iret (v := (((yl k) * 60000) / (yt k))) hx hb hr (fun t ht hW => ⟨⟨_, (), rfl, (if_pos (Int32.not_le.mp c_1)).symm, by rw [ht]; exact hP, hD⟩, hS.F ht⟩) hS.2.2 dX0_speedOf_30

set_option maxHeartbeats 4000000 in
set_option maxRecDepth 100000 in
theorem c_X0_tell_0 {l : Launch} {B kr kp : Nat} {D : va_G} {cI cJ cZ : ClassId} {h : Nat → Nat} {R : va_W} {n : Nat} {L : Nat → Int64} {kt : Nat → Int32} {km : Nat → Int32} {kl : Nat → Int32} {pt : Nat → Int32} {pm : Nat → Int32} {pl : Nat → Int32} {nu : Nat → Int32} {le : Nat → Int32} {ow : Nat → Int32} {fo : Nat → Int32} {run : Bool} {wc : Nat} {lc : Nat} {tr : Nat} {cl : Nat} {tm : Nat} {ms : Nat} {yl : Nat → Int32} {yc : Nat → Int32} {yt : Nat → Int32} {co : Nat} {pa : Int32} {su : Nat} {sc : Nat} {mc : Nat → Int32} {k : Nat}   (hk : k < 256) : Met l yX0_tell wsX0_tell ({ frames := 1, cells := 0, slots := 0, locals := 21 }) (zPc B kr kp D (zTy cI cJ cZ) (zWT cI cJ h (n, L) (kt, km, kl) (pt, pm, pl) (nu, le, ow, fo, run, wc, lc, tr, cl, tm, ms) (yl, yc, yt, co, pa, su, sc) mc ++ R) [.ref (h 16), .int (nI k), .int 0]) (zQi B D (zWT cI cJ h (n, L) (kt, km, kl) (pt, pm, pl) (nu, le, ow, fo, run, wc, lc, tr, cl, tm, ms) (yl, yc, yt, co, pa, su, sc) mc ++ R) (yl k)) 0 0 (zAb B) := by
  refine Met.ofW (cc := cX0_tell) (maxL := 3) (ret := (some .int)) (by decide) rfl ?_
  intro p e s m args below meth c s₁ B0 hml hv
  obtain ⟨rfl, hP, hD, hK, hE, hB⟩ := hv
  have hx := B0.exec
  have hb := B0.bytes
  have hr := B0.returns
  have hts := atoms_spec (ws := wsX0_tell) B0.pre
  have hown : s.vm.findClass RX0 = some m.cls := findClass_of_methodNamed B0.named
  have hlocks := B0.notSynchronized
  have hA : ∀ q : Nat, s.heap.size ≤ q → zAb B q := fun q hq => Nat.le_trans hB hq
  have hS : va_S (zAb B) s.heap s.heap [] := va_S.rf
  have hl := lv_entry ([.ref (h 16), .int (nI k), .int 0]) (n := 3) (Nat.le_of_ble_eq_true rfl)
  rw [lg_entry_eq]
  generalize (lg_sl ([.ref (h 16), .int (nI k), .int 0]) ++ List.replicate (3 - (lg_sl ([.ref (h 16), .int (nI k), .int 0])).length) Slot.unset).toArray = ls at hl ⊢
  have hl : lv_has ls 3 [(0, .ref (h 16)), (1, .int (nI k)), (2, .int 0)] := hl
  have hinX0 : ∀ w ∈ wsX00, w ∈ wsX0_tell := fun _ h => List.mem_cons_of_mem _ (List.mem_append_right _ h)
  have hP : va_P D vwCl (zWT cI cJ h (n, L) (kt, km, kl) (pt, pm, pl) (nu, le, ow, fo, run, wc, lc, tr, cl, tm, ms) (yl, yc, yt, co, pa, su, sc) mc ++ R) s.heap := hP
  have hD : va_D (zAb B) (zWT cI cJ h (n, L) (kt, km, kl) (pt, pm, pl) (nu, le, ow, fo, run, wc, lc, tr, cl, tm, ms) (yl, yc, yt, co, pa, su, sc) mc ++ R) := hD
  refine lv_iload_n hx hb dX0_tell_0 rfl (lv_at hl 2 rfl) ?_
  refine lv_tableIn (x := 0) (off := 27) (tgt := 28) hx hb dX0_tell_1 (by decide) (by decide) (by decide) (by decide) ?_
  refine lv_aload_n hx hb dX0_tell_28 rfl (lv_at hl 0 rfl) ?_
  refine va_get (ci := 0) (v := .ref (h 17)) (C := RX0) (T := TX0) (N := 7) hx hb hts hinX0 hown hK hP 16 rfl rfl 0 (by decide) (hts (.fieldLink RX0 9 "TypingTutor$History" "letters" "[I") (List.mem_of_getElem? (i := 1) rfl)) (fun _ h9 => h9) rfl dX0_tell_29 ?_
  refine lv_iload_n hx hb dX0_tell_32 rfl (lv_at hl 1 rfl) ?_
  refine zci (zrSN (As := [.ref (h 17), .int (nI k)]) (rest := []) ⟨hx, hb, hml, hown, hts⟩ (zS hP hD hK hE hB hS) (c_X4_read (q0 := 17) rfl (by omega)) ⟨va_cnB 2 hts gX0_tell_X4_read_n34 rfl rfl rfl (hE.1 _ (List.mem_of_getElem? (i := 3) rfl)) (hts (.initialized RX4) (List.mem_of_getElem? (i := 5) rfl)) hds_X4_read ⟨Nat.le_of_ble_eq_true rfl, Nat.le_of_ble_eq_true rfl⟩, (hts (.static yX4_read) (List.mem_of_getElem? (i := 4) rfl)), trivial⟩ rfl rfl hl.1 rfl (lv_room (Nat.le_of_ble_eq_true rfl)) dX0_tell_33 ⟨Nat.le_of_ble_eq_true rfl, Nat.le_of_ble_eq_true rfl⟩) hS (fun H locs hP hD hS => ?_)
  have hP : va_P D vwCl (zWT cI cJ h (n, L) (kt, km, kl) (pt, pm, pl) (nu, le, ow, fo, run, wc, lc, tr, cl, tm, ms) (yl, yc, yt, co, pa, su, sc) mc ++ R) _ := hP
  have hD : va_D (zAb B) (zWT cI cJ h (n, L) (kt, km, kl) (pt, pm, pl) (nu, le, ow, fo, run, wc, lc, tr, cl, tm, ms) (yl, yc, yt, co, pa, su, sc) mc ++ R) := hD
  rw [show (zrd 256 yl (nI k)) = (yl k) from (zrd_in (n := 256) (k := k) (f := yl) (by omega) (by omega))]
  exact W.iret (v := (yl k)) hx hb hr (fun t ht hW => ⟨⟨_, (), rfl, rfl, by rw [ht]; exact hP, hD⟩, hS.F ht⟩) hS.2.2 dX0_tell_36

set_option maxHeartbeats 4000000 in
set_option maxRecDepth 100000 in
theorem c_X0_tell_1 {l : Launch} {B kr kp : Nat} {D : va_G} {cI cJ cZ : ClassId} {h : Nat → Nat} {R : va_W} {n : Nat} {L : Nat → Int64} {kt : Nat → Int32} {km : Nat → Int32} {kl : Nat → Int32} {pt : Nat → Int32} {pm : Nat → Int32} {pl : Nat → Int32} {nu : Nat → Int32} {le : Nat → Int32} {ow : Nat → Int32} {fo : Nat → Int32} {run : Bool} {wc : Nat} {lc : Nat} {tr : Nat} {cl : Nat} {tm : Nat} {ms : Nat} {yl : Nat → Int32} {yc : Nat → Int32} {yt : Nat → Int32} {co : Nat} {pa : Int32} {su : Nat} {sc : Nat} {mc : Nat → Int32} {k : Nat}   (hk : k < 256) : Met l yX0_tell wsX0_tell ({ frames := 1, cells := 0, slots := 0, locals := 21 }) (zPc B kr kp D (zTy cI cJ cZ) (zWT cI cJ h (n, L) (kt, km, kl) (pt, pm, pl) (nu, le, ow, fo, run, wc, lc, tr, cl, tm, ms) (yl, yc, yt, co, pa, su, sc) mc ++ R) [.ref (h 16), .int (nI k), .int 1]) (zQi B D (zWT cI cJ h (n, L) (kt, km, kl) (pt, pm, pl) (nu, le, ow, fo, run, wc, lc, tr, cl, tm, ms) (yl, yc, yt, co, pa, su, sc) mc ++ R) (yc k)) 0 0 (zAb B) := by
  refine Met.ofW (cc := cX0_tell) (maxL := 3) (ret := (some .int)) (by decide) rfl ?_
  intro p e s m args below meth c s₁ B0 hml hv
  obtain ⟨rfl, hP, hD, hK, hE, hB⟩ := hv
  have hx := B0.exec
  have hb := B0.bytes
  have hr := B0.returns
  have hts := atoms_spec (ws := wsX0_tell) B0.pre
  have hown : s.vm.findClass RX0 = some m.cls := findClass_of_methodNamed B0.named
  have hlocks := B0.notSynchronized
  have hA : ∀ q : Nat, s.heap.size ≤ q → zAb B q := fun q hq => Nat.le_trans hB hq
  have hS : va_S (zAb B) s.heap s.heap [] := va_S.rf
  have hl := lv_entry ([.ref (h 16), .int (nI k), .int 1]) (n := 3) (Nat.le_of_ble_eq_true rfl)
  rw [lg_entry_eq]
  generalize (lg_sl ([.ref (h 16), .int (nI k), .int 1]) ++ List.replicate (3 - (lg_sl ([.ref (h 16), .int (nI k), .int 1])).length) Slot.unset).toArray = ls at hl ⊢
  have hl : lv_has ls 3 [(0, .ref (h 16)), (1, .int (nI k)), (2, .int 1)] := hl
  have hinX0 : ∀ w ∈ wsX00, w ∈ wsX0_tell := fun _ h => List.mem_cons_of_mem _ (List.mem_append_right _ h)
  have hP : va_P D vwCl (zWT cI cJ h (n, L) (kt, km, kl) (pt, pm, pl) (nu, le, ow, fo, run, wc, lc, tr, cl, tm, ms) (yl, yc, yt, co, pa, su, sc) mc ++ R) s.heap := hP
  have hD : va_D (zAb B) (zWT cI cJ h (n, L) (kt, km, kl) (pt, pm, pl) (nu, le, ow, fo, run, wc, lc, tr, cl, tm, ms) (yl, yc, yt, co, pa, su, sc) mc ++ R) := hD
  refine lv_iload_n hx hb dX0_tell_0 rfl (lv_at hl 2 rfl) ?_
  refine lv_tableIn (x := 1) (off := 36) (tgt := 37) hx hb dX0_tell_1 (by decide) (by decide) (by decide) (by decide) ?_
  refine lv_aload_n hx hb dX0_tell_37 rfl (lv_at hl 0 rfl) ?_
  refine va_get (ci := 0) (v := .ref (h 18)) (C := RX0) (T := TX0) (N := 7) hx hb hts hinX0 hown hK hP 16 rfl rfl 1 (by decide) (hts (.fieldLink RX0 15 "TypingTutor$History" "cleans" "[I") (List.mem_of_getElem? (i := 2) rfl)) (fun _ h9 => h9) rfl dX0_tell_38 ?_
  refine lv_iload_n hx hb dX0_tell_41 rfl (lv_at hl 1 rfl) ?_
  refine zci (zrSN (As := [.ref (h 18), .int (nI k)]) (rest := []) ⟨hx, hb, hml, hown, hts⟩ (zS hP hD hK hE hB hS) (c_X4_read (q0 := 18) rfl (by omega)) ⟨va_cnB 2 hts gX0_tell_X4_read_n34 rfl rfl rfl (hE.1 _ (List.mem_of_getElem? (i := 3) rfl)) (hts (.initialized RX4) (List.mem_of_getElem? (i := 5) rfl)) hds_X4_read ⟨Nat.le_of_ble_eq_true rfl, Nat.le_of_ble_eq_true rfl⟩, (hts (.static yX4_read) (List.mem_of_getElem? (i := 4) rfl)), trivial⟩ rfl rfl hl.1 rfl (lv_room (Nat.le_of_ble_eq_true rfl)) dX0_tell_42 ⟨Nat.le_of_ble_eq_true rfl, Nat.le_of_ble_eq_true rfl⟩) hS (fun H locs hP hD hS => ?_)
  have hP : va_P D vwCl (zWT cI cJ h (n, L) (kt, km, kl) (pt, pm, pl) (nu, le, ow, fo, run, wc, lc, tr, cl, tm, ms) (yl, yc, yt, co, pa, su, sc) mc ++ R) _ := hP
  have hD : va_D (zAb B) (zWT cI cJ h (n, L) (kt, km, kl) (pt, pm, pl) (nu, le, ow, fo, run, wc, lc, tr, cl, tm, ms) (yl, yc, yt, co, pa, su, sc) mc ++ R) := hD
  rw [show (zrd 256 yc (nI k)) = (yc k) from (zrd_in (n := 256) (k := k) (f := yc) (by omega) (by omega))]
  exact W.iret (v := (yc k)) hx hb hr (fun t ht hW => ⟨⟨_, (), rfl, rfl, by rw [ht]; exact hP, hD⟩, hS.F ht⟩) hS.2.2 dX0_tell_45

set_option maxHeartbeats 4000000 in
set_option maxRecDepth 100000 in
theorem c_X0_tell_2 {l : Launch} {B kr kp : Nat} {D : va_G} {cI cJ cZ : ClassId} {h : Nat → Nat} {R : va_W} {n : Nat} {L : Nat → Int64} {kt : Nat → Int32} {km : Nat → Int32} {kl : Nat → Int32} {pt : Nat → Int32} {pm : Nat → Int32} {pl : Nat → Int32} {nu : Nat → Int32} {le : Nat → Int32} {ow : Nat → Int32} {fo : Nat → Int32} {run : Bool} {wc : Nat} {lc : Nat} {tr : Nat} {cl : Nat} {tm : Nat} {ms : Nat} {yl : Nat → Int32} {yc : Nat → Int32} {yt : Nat → Int32} {co : Nat} {pa : Int32} {su : Nat} {sc : Nat} {mc : Nat → Int32} {k : Nat}   (hk : k < 256) : Met l yX0_tell wsX0_tell ({ frames := 1, cells := 0, slots := 0, locals := 21 }) (zPc B kr kp D (zTy cI cJ cZ) (zWT cI cJ h (n, L) (kt, km, kl) (pt, pm, pl) (nu, le, ow, fo, run, wc, lc, tr, cl, tm, ms) (yl, yc, yt, co, pa, su, sc) mc ++ R) [.ref (h 16), .int (nI k), .int 2]) (zQi B D (zWT cI cJ h (n, L) (kt, km, kl) (pt, pm, pl) (nu, le, ow, fo, run, wc, lc, tr, cl, tm, ms) (yl, yc, yt, co, pa, su, sc) mc ++ R) (yt k)) 0 0 (zAb B) := by
  refine Met.ofW (cc := cX0_tell) (maxL := 3) (ret := (some .int)) (by decide) rfl ?_
  intro p e s m args below meth c s₁ B0 hml hv
  obtain ⟨rfl, hP, hD, hK, hE, hB⟩ := hv
  have hx := B0.exec
  have hb := B0.bytes
  have hr := B0.returns
  have hts := atoms_spec (ws := wsX0_tell) B0.pre
  have hown : s.vm.findClass RX0 = some m.cls := findClass_of_methodNamed B0.named
  have hlocks := B0.notSynchronized
  have hA : ∀ q : Nat, s.heap.size ≤ q → zAb B q := fun q hq => Nat.le_trans hB hq
  have hS : va_S (zAb B) s.heap s.heap [] := va_S.rf
  have hl := lv_entry ([.ref (h 16), .int (nI k), .int 2]) (n := 3) (Nat.le_of_ble_eq_true rfl)
  rw [lg_entry_eq]
  generalize (lg_sl ([.ref (h 16), .int (nI k), .int 2]) ++ List.replicate (3 - (lg_sl ([.ref (h 16), .int (nI k), .int 2])).length) Slot.unset).toArray = ls at hl ⊢
  have hl : lv_has ls 3 [(0, .ref (h 16)), (1, .int (nI k)), (2, .int 2)] := hl
  have hinX0 : ∀ w ∈ wsX00, w ∈ wsX0_tell := fun _ h => List.mem_cons_of_mem _ (List.mem_append_right _ h)
  have hP : va_P D vwCl (zWT cI cJ h (n, L) (kt, km, kl) (pt, pm, pl) (nu, le, ow, fo, run, wc, lc, tr, cl, tm, ms) (yl, yc, yt, co, pa, su, sc) mc ++ R) s.heap := hP
  have hD : va_D (zAb B) (zWT cI cJ h (n, L) (kt, km, kl) (pt, pm, pl) (nu, le, ow, fo, run, wc, lc, tr, cl, tm, ms) (yl, yc, yt, co, pa, su, sc) mc ++ R) := hD
  refine lv_iload_n hx hb dX0_tell_0 rfl (lv_at hl 2 rfl) ?_
  refine lv_tableIn (x := 2) (off := 45) (tgt := 46) hx hb dX0_tell_1 (by decide) (by decide) (by decide) (by decide) ?_
  refine lv_aload_n hx hb dX0_tell_46 rfl (lv_at hl 0 rfl) ?_
  refine va_get (ci := 0) (v := .ref (h 19)) (C := RX0) (T := TX0) (N := 7) hx hb hts hinX0 hown hK hP 16 rfl rfl 2 (by decide) (hts (.fieldLink RX0 18 "TypingTutor$History" "times" "[I") (List.mem_of_getElem? (i := 3) rfl)) (fun _ h9 => h9) rfl dX0_tell_47 ?_
  refine lv_iload_n hx hb dX0_tell_50 rfl (lv_at hl 1 rfl) ?_
  refine zci (zrSN (As := [.ref (h 19), .int (nI k)]) (rest := []) ⟨hx, hb, hml, hown, hts⟩ (zS hP hD hK hE hB hS) (c_X4_read (q0 := 19) rfl (by omega)) ⟨va_cnB 2 hts gX0_tell_X4_read_n34 rfl rfl rfl (hE.1 _ (List.mem_of_getElem? (i := 3) rfl)) (hts (.initialized RX4) (List.mem_of_getElem? (i := 5) rfl)) hds_X4_read ⟨Nat.le_of_ble_eq_true rfl, Nat.le_of_ble_eq_true rfl⟩, (hts (.static yX4_read) (List.mem_of_getElem? (i := 4) rfl)), trivial⟩ rfl rfl hl.1 rfl (lv_room (Nat.le_of_ble_eq_true rfl)) dX0_tell_51 ⟨Nat.le_of_ble_eq_true rfl, Nat.le_of_ble_eq_true rfl⟩) hS (fun H locs hP hD hS => ?_)
  have hP : va_P D vwCl (zWT cI cJ h (n, L) (kt, km, kl) (pt, pm, pl) (nu, le, ow, fo, run, wc, lc, tr, cl, tm, ms) (yl, yc, yt, co, pa, su, sc) mc ++ R) _ := hP
  have hD : va_D (zAb B) (zWT cI cJ h (n, L) (kt, km, kl) (pt, pm, pl) (nu, le, ow, fo, run, wc, lc, tr, cl, tm, ms) (yl, yc, yt, co, pa, su, sc) mc ++ R) := hD
  rw [show (zrd 256 yt (nI k)) = (yt k) from (zrd_in (n := 256) (k := k) (f := yt) (by omega) (by omega))]
  exact W.iret (v := (yt k)) hx hb hr (fun t ht hW => ⟨⟨_, (), rfl, rfl, by rw [ht]; exact hP, hD⟩, hS.F ht⟩) hS.2.2 dX0_tell_54

set_option maxHeartbeats 4000000 in
set_option maxRecDepth 100000 in
theorem c_X0_tell_3 {l : Launch} {B kr kp : Nat} {D : va_G} {cI cJ cZ : ClassId} {h : Nat → Nat} {R : va_W} {n : Nat} {L : Nat → Int64} {kt : Nat → Int32} {km : Nat → Int32} {kl : Nat → Int32} {pt : Nat → Int32} {pm : Nat → Int32} {pl : Nat → Int32} {nu : Nat → Int32} {le : Nat → Int32} {ow : Nat → Int32} {fo : Nat → Int32} {run : Bool} {wc : Nat} {lc : Nat} {tr : Nat} {cl : Nat} {tm : Nat} {ms : Nat} {yl : Nat → Int32} {yc : Nat → Int32} {yt : Nat → Int32} {co : Nat} {pa : Int32} {su : Nat} {sc : Nat} {mc : Nat → Int32} {k : Nat}   (hk : k < 256) : Met l yX0_tell wsX0_tell ({ frames := 2, cells := 0, slots := 0, locals := 43 }) (zPc B kr kp D (zTy cI cJ cZ) (zWT cI cJ h (n, L) (kt, km, kl) (pt, pm, pl) (nu, le, ow, fo, run, wc, lc, tr, cl, tm, ms) (yl, yc, yt, co, pa, su, sc) mc ++ R) [.ref (h 16), .int (nI k), .int 3]) (zQi B D (zWT cI cJ h (n, L) (kt, km, kl) (pt, pm, pl) (nu, le, ow, fo, run, wc, lc, tr, cl, tm, ms) (yl, yc, yt, co, pa, su, sc) mc ++ R) (zsp yl yt k)) 0 0 (zAb B) := by
  refine Met.ofW (cc := cX0_tell) (maxL := 3) (ret := (some .int)) (by decide) rfl ?_
  intro p e s m args below meth c s₁ B0 hml hv
  obtain ⟨rfl, hP, hD, hK, hE, hB⟩ := hv
  have hx := B0.exec
  have hb := B0.bytes
  have hr := B0.returns
  have hts := atoms_spec (ws := wsX0_tell) B0.pre
  have hown : s.vm.findClass RX0 = some m.cls := findClass_of_methodNamed B0.named
  have hlocks := B0.notSynchronized
  have hA : ∀ q : Nat, s.heap.size ≤ q → zAb B q := fun q hq => Nat.le_trans hB hq
  have hS : va_S (zAb B) s.heap s.heap [] := va_S.rf
  have hl := lv_entry ([.ref (h 16), .int (nI k), .int 3]) (n := 3) (Nat.le_of_ble_eq_true rfl)
  rw [lg_entry_eq]
  generalize (lg_sl ([.ref (h 16), .int (nI k), .int 3]) ++ List.replicate (3 - (lg_sl ([.ref (h 16), .int (nI k), .int 3])).length) Slot.unset).toArray = ls at hl ⊢
  have hl : lv_has ls 3 [(0, .ref (h 16)), (1, .int (nI k)), (2, .int 3)] := hl
  have hP : va_P D vwCl (zWT cI cJ h (n, L) (kt, km, kl) (pt, pm, pl) (nu, le, ow, fo, run, wc, lc, tr, cl, tm, ms) (yl, yc, yt, co, pa, su, sc) mc ++ R) s.heap := hP
  have hD : va_D (zAb B) (zWT cI cJ h (n, L) (kt, km, kl) (pt, pm, pl) (nu, le, ow, fo, run, wc, lc, tr, cl, tm, ms) (yl, yc, yt, co, pa, su, sc) mc ++ R) := hD
  refine lv_iload_n hx hb dX0_tell_0 rfl (lv_at hl 2 rfl) ?_
  refine lv_tableOut (x := 3) (tgt := 55) hx hb dX0_tell_1 (by decide) (by decide) ?_
  refine lv_aload_n hx hb dX0_tell_55 rfl (lv_at hl 0 rfl) ?_
  refine lv_iload_n hx hb dX0_tell_56 rfl (lv_at hl 1 rfl) ?_
  refine zci (zrV (As := [.int (nI k)]) (rest := []) ⟨hx, hb, hml, hown, hts⟩ (zV 16 hP hD hK hE hB hS rfl rfl) (c_X0_speedOf (k := k) (by omega)) (cwV 1 hts gX0_tell_X0_speedOf rfl rfl rfl hdv_X0_speedOf ⟨Nat.le_of_ble_eq_true rfl, Nat.le_of_ble_eq_true rfl⟩) rfl rfl hl.1 rfl (lv_room (Nat.le_of_ble_eq_true rfl)) dX0_tell_57 ⟨Nat.le_of_ble_eq_true rfl, Nat.le_of_ble_eq_true rfl⟩) hS (fun H locs hP hD hS => ?_)
  have hP : va_P D vwCl (zWT cI cJ h (n, L) (kt, km, kl) (pt, pm, pl) (nu, le, ow, fo, run, wc, lc, tr, cl, tm, ms) (yl, yc, yt, co, pa, su, sc) mc ++ R) _ := hP
  have hD : va_D (zAb B) (zWT cI cJ h (n, L) (kt, km, kl) (pt, pm, pl) (nu, le, ow, fo, run, wc, lc, tr, cl, tm, ms) (yl, yc, yt, co, pa, su, sc) mc ++ R) := hD
  exact W.iret (v := (zsp yl yt k)) hx hb hr (fun t ht hW => ⟨⟨_, (), rfl, rfl, by rw [ht]; exact hP, hD⟩, hS.F ht⟩) hS.2.2 dX0_tell_60

set_option maxHeartbeats 4000000 in
set_option maxRecDepth 100000 in
theorem c_X0_greatestSpeed {l : Launch} {B kr kp : Nat} {D : va_G} {cI cJ cZ : ClassId} {h : Nat → Nat} {R : va_W} {n : Nat} {L : Nat → Int64} {kt : Nat → Int32} {km : Nat → Int32} {kl : Nat → Int32} {pt : Nat → Int32} {pm : Nat → Int32} {pl : Nat → Int32} {nu : Nat → Int32} {le : Nat → Int32} {ow : Nat → Int32} {fo : Nat → Int32} {run : Bool} {wc : Nat} {lc : Nat} {tr : Nat} {cl : Nat} {tm : Nat} {ms : Nat} {yl : Nat → Int32} {yc : Nat → Int32} {yt : Nat → Int32} {co : Nat} {pa : Int32} {su : Nat} {sc : Nat} {mc : Nat → Int32} {a : Nat} {b : Nat}   (hab : a ≤ b) (hb9 : b ≤ 256) : Met l yX0_greatestSpeed wsX0_greatestSpeed ({ frames := 2, cells := 0, slots := 0, locals := 43 }) (zPc B kr kp D (zTy cI cJ cZ) (zWT cI cJ h (n, L) (kt, km, kl) (pt, pm, pl) (nu, le, ow, fo, run, wc, lc, tr, cl, tm, ms) (yl, yc, yt, co, pa, su, sc) mc ++ R) [.ref (h 16), .int (nI a), .int (nI b)]) (zQi B D (zWT cI cJ h (n, L) (kt, km, kl) (pt, pm, pl) (nu, le, ow, fo, run, wc, lc, tr, cl, tm, ms) (yl, yc, yt, co, pa, su, sc) mc ++ R) (zgs yl yt a (b - a))) 0 0 (zAb B) := by
  refine Met.ofW (cc := cX0_greatestSpeed) (maxL := 5) (ret := (some .int)) (by decide) rfl ?_
  intro p e s m args below meth c s₁ B0 hml hv
  obtain ⟨rfl, hP, hD, hK, hE, hB⟩ := hv
  have hx := B0.exec
  have hb := B0.bytes
  have hr := B0.returns
  have hts := atoms_spec (ws := wsX0_greatestSpeed) B0.pre
  have hown : s.vm.findClass RX0 = some m.cls := findClass_of_methodNamed B0.named
  have hlocks := B0.notSynchronized
  have hA : ∀ q : Nat, s.heap.size ≤ q → zAb B q := fun q hq => Nat.le_trans hB hq
  have hS : va_S (zAb B) s.heap s.heap [] := va_S.rf
  have hl := lv_entry ([.ref (h 16), .int (nI a), .int (nI b)]) (n := 5) (Nat.le_of_ble_eq_true rfl)
  rw [lg_entry_eq]
  generalize (lg_sl ([.ref (h 16), .int (nI a), .int (nI b)]) ++ List.replicate (5 - (lg_sl ([.ref (h 16), .int (nI a), .int (nI b)])).length) Slot.unset).toArray = ls at hl ⊢
  have hl : lv_has ls 5 [(0, .ref (h 16)), (1, .int (nI a)), (2, .int (nI b))] := hl
  have hP : va_P D vwCl (zWT cI cJ h (n, L) (kt, km, kl) (pt, pm, pl) (nu, le, ow, fo, run, wc, lc, tr, cl, tm, ms) (yl, yc, yt, co, pa, su, sc) mc ++ R) s.heap := hP
  have hD : va_D (zAb B) (zWT cI cJ h (n, L) (kt, km, kl) (pt, pm, pl) (nu, le, ow, fo, run, wc, lc, tr, cl, tm, ms) (yl, yc, yt, co, pa, su, sc) mc ++ R) := hD
  refine lv_iconst (v := 0) hx hb dX0_greatestSpeed_0 (by decide) ?_
  refine lv_istore_n (lv' := [(3, .int 0), (0, .ref (h 16)), (1, .int (nI a)), (2, .int (nI b))]) hx hb dX0_greatestSpeed_1 rfl hl (by decide) rfl (fun ls hl => ?_)
  refine lv_iload_n hx hb dX0_greatestSpeed_2 rfl (lv_at hl 2 rfl) ?_
  refine lv_istore (lv' := [(4, .int (nI a)), (3, .int 0), (0, .ref (h 16)), (1, .int (nI a)), (2, .int (nI b))]) hx hb dX0_greatestSpeed_3 hl (by decide) rfl (fun ls hl => ?_)
  refine zloop (σ := (Nat) × (Int32)) (nL := 5) (fun x9 => (zWT cI cJ h (n, L) (kt, km, kl) (pt, pm, pl) (nu, le, ow, fo, run, wc, lc, tr, cl, tm, ms) (yl, yc, yt, co, pa, su, sc) mc ++ R)) (fun x9 => [(4, .int (nI x9.1)), (3, .int x9.2), (0, .ref (h 16)), (1, .int (nI a)), (2, .int (nI b))]) (fun x9 => []) (fun x9 => a ≤ x9.1 ∧ x9.1 ≤ b ∧ x9.2 = zgs yl yt a (x9.1 - a)) (fun x9 => b - x9.1) ?_ (a, 0) (⟨by omega, by omega, by rw [Nat.sub_self]; rfl⟩) _ _ _ hP hD hS (lv_sub hl [0, 1, 2, 3, 4] rfl)
  rintro ⟨j, z⟩ hI ih H locs ls hP hD hS hl
  try dsimp only at hI ih hP hD hS hl ⊢
  refine lv_iload hx hb dX0_greatestSpeed_5 (lv_at hl 0 rfl) ?_
  refine lv_iload_n hx hb dX0_greatestSpeed_7 rfl (lv_at hl 4 rfl) ?_
  refine lv_icmp_ge (tgt := 28) hx hb dX0_greatestSpeed_8 (by decide) (fun c_1 => ?_) (fun c_1 => ?_)
  · skip
    have c_1 : b ≤ j := (nI_leI (a := b) (b := j) (by omega) (by omega)).mp c_1
    refine lv_iload_n hx hb dX0_greatestSpeed_28 rfl (lv_at hl 1 rfl) ?_
    exact W.iret (v := z) hx hb hr (fun t ht hW => ⟨⟨_, (), rfl, by rw [show b - a = j - a from by omega]; exact hI.2.2, by rw [ht]; exact hP, hD⟩, hS.F ht⟩) hS.2.2 dX0_greatestSpeed_29
  · skip
    have c_1 : ¬ b ≤ j := fun hh => c_1 ((nI_leI (a := b) (b := j) (by omega) (by omega)).mpr hh)
    refine lv_iload_n hx hb dX0_greatestSpeed_11 rfl (lv_at hl 1 rfl) ?_
    refine lv_aload_n hx hb dX0_greatestSpeed_12 rfl (lv_at hl 2 rfl) ?_
    refine lv_iload hx hb dX0_greatestSpeed_13 (lv_at hl 0 rfl) ?_
    refine zci (zrV (As := [.int (nI j)]) (rest := [.int z]) ⟨hx, hb, hml, hown, hts⟩ (zV 16 hP hD hK hE hB hS rfl rfl) (c_X0_speedOf (k := j) (by omega)) (cwV 1 hts gX0_greatestSpeed_X0_speedOf rfl rfl rfl hdv_X0_speedOf ⟨Nat.le_of_ble_eq_true rfl, Nat.le_of_ble_eq_true rfl⟩) rfl rfl hl.1 rfl (lv_room (Nat.le_of_ble_eq_true rfl)) dX0_greatestSpeed_15 ⟨Nat.le_of_ble_eq_true rfl, Nat.le_of_ble_eq_true rfl⟩) hS (fun H locs hP hD hS => ?_)
    have hP : va_P D vwCl (zWT cI cJ h (n, L) (kt, km, kl) (pt, pm, pl) (nu, le, ow, fo, run, wc, lc, tr, cl, tm, ms) (yl, yc, yt, co, pa, su, sc) mc ++ R) _ := hP
    have hD : va_D (zAb B) (zWT cI cJ h (n, L) (kt, km, kl) (pt, pm, pl) (nu, le, ow, fo, run, wc, lc, tr, cl, tm, ms) (yl, yc, yt, co, pa, su, sc) mc ++ R) := hD
    refine va_mmax hx hb (hml.trans hl.1.symm) hown (hts (.methodLink RX0 43 Lib.Math.max.name) (List.mem_of_getElem? (i := 1) rfl)) (hts (.static Lib.Math.max.name) (List.mem_of_getElem? (i := 2) rfl)) (hts (.initialized "java/lang/Math") (List.mem_of_getElem? (i := 3) rfl)) (hts (.code Lib.Math.max.name Lib.Math.max.code 2 (some .int)) (List.mem_of_getElem? (i := 4) rfl)) (Nat.le_of_ble_eq_true rfl) (Nat.le_of_ble_eq_true rfl) (Nat.zero_le _) (Nat.zero_le _) dX0_greatestSpeed_18 ?_
    refine lv_istore_n (lv' := [(3, .int (if z < (zsp yl yt j) then (zsp yl yt j) else z)), (4, .int (nI j)), (0, .ref (h 16)), (1, .int (nI a)), (2, .int (nI b))]) hx hb dX0_greatestSpeed_21 rfl hl (by decide) rfl (fun ls hl => ?_)
    refine lv_iinc (v := (nI (j + 1))) (lv' := [(4, .int (nI (j + 1))), (3, .int (if z < (zsp yl yt j) then (zsp yl yt j) else z)), (0, .ref (h 16)), (1, .int (nI a)), (2, .int (nI b))]) hx hb dX0_greatestSpeed_22 hl (k := 1) rfl (nI_add j 1) (by decide) rfl (fun ls hl => ?_)
    refine lv_goto (tgt := 5) hx hb dX0_greatestSpeed_25 (by decide) ?_
    exact ih ((j + 1), (if z < (zsp yl yt j) then (zsp yl yt j) else z)) (⟨by omega, by omega, by rw [show j + 1 - a = (j - a) + 1 from by omega, zgs, show a + (j - a) = j from by omega, ← hI.2.2]⟩) (by omega) _ _ _ hP hD hS (lv_sub hl [0, 1, 2, 3, 4] rfl)

set_option maxHeartbeats 4000000 in
set_option maxRecDepth 100000 in
theorem c_X0_paceBehind {l : Launch} {B kr kp : Nat} {D : va_G} {cI cJ cZ : ClassId} {h : Nat → Nat} {R : va_W} {n : Nat} {L : Nat → Int64} {kt : Nat → Int32} {km : Nat → Int32} {kl : Nat → Int32} {pt : Nat → Int32} {pm : Nat → Int32} {pl : Nat → Int32} {nu : Nat → Int32} {le : Nat → Int32} {ow : Nat → Int32} {fo : Nat → Int32} {run : Bool} {wc : Nat} {lc : Nat} {tr : Nat} {cl : Nat} {tm : Nat} {ms : Nat} {yl : Nat → Int32} {yc : Nat → Int32} {yt : Nat → Int32} {co : Nat} {pa : Int32} {su : Nat} {sc : Nat} {mc : Nat → Int32} {lt : Nat} {ct : Nat}   (h9l : lt ≤ 48) (h9c : ct ≤ 48) : Met l yX0_paceBehind wsX0_paceBehind ({ frames := 1, cells := 0, slots := 0, locals := 24 }) (zPc B kr kp D (zTy cI cJ cZ) (zWT cI cJ h (n, L) (kt, km, kl) (pt, pm, pl) (nu, le, ow, fo, run, wc, lc, tr, cl, tm, ms) (yl, yc, yt, co, pa, su, sc) mc ++ R) [.ref (h 16), .int (nI lt), .int (nI ct)]) (zQi B D (zWT cI cJ h (n, L) (kt, km, kl) (pt, pm, pl) (nu, le, ow, fo, run, wc, lc, tr, cl, tm, ms) (yl, yc, yt, co, pa, su, sc) mc ++ R) (zpc pa lt ct)) 0 0 (zAb B) := by
  refine Met.ofW (cc := cX0_paceBehind) (maxL := 4) (ret := (some .int)) (by decide) rfl ?_
  intro p e s m args below meth c s₁ B0 hml hv
  obtain ⟨rfl, hP, hD, hK, hE, hB⟩ := hv
  have hx := B0.exec
  have hb := B0.bytes
  have hr := B0.returns
  have hts := atoms_spec (ws := wsX0_paceBehind) B0.pre
  have hown : s.vm.findClass RX0 = some m.cls := findClass_of_methodNamed B0.named
  have hlocks := B0.notSynchronized
  have hA : ∀ q : Nat, s.heap.size ≤ q → zAb B q := fun q hq => Nat.le_trans hB hq
  have hS : va_S (zAb B) s.heap s.heap [] := va_S.rf
  have hl := lv_entry ([.ref (h 16), .int (nI lt), .int (nI ct)]) (n := 4) (Nat.le_of_ble_eq_true rfl)
  rw [lg_entry_eq]
  generalize (lg_sl ([.ref (h 16), .int (nI lt), .int (nI ct)]) ++ List.replicate (4 - (lg_sl ([.ref (h 16), .int (nI lt), .int (nI ct)])).length) Slot.unset).toArray = ls at hl ⊢
  have hl : lv_has ls 4 [(0, .ref (h 16)), (1, .int (nI lt)), (2, .int (nI ct))] := hl
  have hinX0 : ∀ w ∈ wsX00, w ∈ wsX0_paceBehind := fun _ h => List.mem_cons_of_mem _ (List.mem_append_right _ h)
  have hP : va_P D vwCl (zWT cI cJ h (n, L) (kt, km, kl) (pt, pm, pl) (nu, le, ow, fo, run, wc, lc, tr, cl, tm, ms) (yl, yc, yt, co, pa, su, sc) mc ++ R) s.heap := hP
  have hD : va_D (zAb B) (zWT cI cJ h (n, L) (kt, km, kl) (pt, pm, pl) (nu, le, ow, fo, run, wc, lc, tr, cl, tm, ms) (yl, yc, yt, co, pa, su, sc) mc ++ R) := hD
  refine lv_aload_n hx hb dX0_paceBehind_0 rfl (lv_at hl 0 rfl) ?_
  refine va_get (ci := 0) (v := .int pa) (C := RX0) (T := TX0) (N := 7) hx hb hts hinX0 hown hK hP 16 rfl rfl 4 (by decide) (hts (.fieldLink RX0 25 "TypingTutor$History" "pace" "I") (List.mem_of_getElem? (i := 1) rfl)) (fun _ h9 => h9) rfl dX0_paceBehind_1 ?_
  refine lv_istore_n (lv' := [(3, .int pa), (0, .ref (h 16)), (1, .int (nI lt)), (2, .int (nI ct))]) hx hb dX0_paceBehind_4 rfl hl (by decide) rfl (fun ls hl => ?_)
  refine lv_iload_n hx hb dX0_paceBehind_5 rfl (lv_at hl 3 rfl) ?_
  refine lv_bipush (v := 100) hx hb dX0_paceBehind_6 (by decide) ?_
  refine lv_imul hx hb dX0_paceBehind_8 ?_
  refine lv_topi (fun v_1 ev_1 => ?_)
  obtain rfl : v_1 = (nI (ct * 100)) := ev_1.trans (pk_mul ct 100)
  refine lv_iload_n hx hb dX0_paceBehind_9 rfl (lv_at hl 2 rfl) ?_
  refine lv_bipush (v := 95) hx hb dX0_paceBehind_10 (by decide) ?_
  refine lv_imul hx hb dX0_paceBehind_12 ?_
  refine lv_topi (fun v_2 ev_2 => ?_)
  obtain rfl : v_2 = (nI (lt * 95)) := ev_2.trans (pk_mul lt 95)
  refine lv_icmp_lt (tgt := 34) hx hb dX0_paceBehind_13 (by decide) (fun c_3 => ?_) (fun c_3 => ?_)
  · skip
    have c_3 : (ct * 100) < (lt * 95) := (nI_ltI (a := (ct * 100)) (b := (lt * 95)) (by omega) (by omega)).mp c_3
    refine lv_iload_n hx hb dX0_paceBehind_34 rfl (lv_at hl 3 rfl) ?_
    refine lv_bipush (v := 100) hx hb dX0_paceBehind_35 (by decide) ?_
    refine lv_imul hx hb dX0_paceBehind_37 ?_
    refine lv_topi (fun v_4 ev_4 => ?_)
    obtain rfl : v_4 = (nI (ct * 100)) := ev_4.trans (pk_mul ct 100)
    refine lv_iload_n hx hb dX0_paceBehind_38 rfl (lv_at hl 2 rfl) ?_
    refine lv_bipush (v := 85) hx hb dX0_paceBehind_39 (by decide) ?_
    refine lv_imul hx hb dX0_paceBehind_41 ?_
    refine lv_topi (fun v_5 ev_5 => ?_)
    obtain rfl : v_5 = (nI (lt * 85)) := ev_5.trans (pk_mul lt 85)
    refine lv_icmp_ge (tgt := 58) hx hb dX0_paceBehind_42 (by decide) (fun c_6 => ?_) (fun c_6 => ?_)
    · skip
      have c_6 : (lt * 85) ≤ (ct * 100) := (nI_leI (a := (lt * 85)) (b := (ct * 100)) (by omega) (by omega)).mp c_6
      refine lv_sipush (v := 900) hx hb dX0_paceBehind_58 (by decide) ?_
      refine lv_bipush (v := 20) hx hb dX0_paceBehind_61 (by decide) ?_
      refine lv_iload_n hx hb dX0_paceBehind_63 rfl (lv_at hl 0 rfl) ?_
      refine va_mmax hx hb (hml.trans hl.1.symm) hown (hts (.methodLink RX0 43 Lib.Math.max.name) (List.mem_of_getElem? (i := 2) rfl)) (hts (.static Lib.Math.max.name) (List.mem_of_getElem? (i := 3) rfl)) (hts (.initialized "java/lang/Math") (List.mem_of_getElem? (i := 4) rfl)) (hts (.code Lib.Math.max.name Lib.Math.max.code 2 (some .int)) (List.mem_of_getElem? (i := 5) rfl)) (Nat.le_of_ble_eq_true rfl) (Nat.le_of_ble_eq_true rfl) (Nat.zero_le _) (Nat.zero_le _) dX0_paceBehind_64 ?_
      refine va_mmin hx hb (hml.trans hl.1.symm) hown (hts (.methodLink RX0 56 Lib.Math.min.name) (List.mem_of_getElem? (i := 6) rfl)) (hts (.static Lib.Math.min.name) (List.mem_of_getElem? (i := 7) rfl)) (hts (.initialized "java/lang/Math") (List.mem_of_getElem? (i := 4) rfl)) (hts (.code Lib.Math.min.name Lib.Math.min.code 2 (some .int)) (List.mem_of_getElem? (i := 8) rfl)) (Nat.le_of_ble_eq_true rfl) (Nat.le_of_ble_eq_true rfl) (Nat.zero_le _) (Nat.zero_le _) dX0_paceBehind_67 ?_
      exact W.iret (v := (if (if 20 < pa then pa else 20) < 900 then (if 20 < pa then pa else 20) else 900)) hx hb hr (fun t ht hW => ⟨⟨_, (), rfl, by unfold zpc; first | rw [if_pos (by omega)]; rfl | (rw [if_neg (by omega), if_pos (by omega)]; rfl) | (rw [if_neg (by omega), if_neg (by omega)]; rfl), by rw [ht]; exact hP, hD⟩, hS.F ht⟩) hS.2.2 dX0_paceBehind_70
    · skip
      have c_6 : ¬ (lt * 85) ≤ (ct * 100) := fun hh => c_6 ((nI_leI (a := (lt * 85)) (b := (ct * 100)) (by omega) (by omega)).mpr hh)
      refine lv_aload_n hx hb dX0_paceBehind_45 rfl (lv_at hl 1 rfl) ?_
      refine va_get (ci := 0) (v := .int pa) (C := RX0) (T := TX0) (N := 7) hx hb hts hinX0 hown hK hP 16 rfl rfl 4 (by decide) (hts (.fieldLink RX0 25 "TypingTutor$History" "pace" "I") (List.mem_of_getElem? (i := 1) rfl)) (fun _ h9 => h9) rfl dX0_paceBehind_46 ?_
      refine lv_aload_n hx hb dX0_paceBehind_49 rfl (lv_at hl 1 rfl) ?_
      refine va_get (ci := 0) (v := .int pa) (C := RX0) (T := TX0) (N := 7) hx hb hts hinX0 hown hK hP 16 rfl rfl 4 (by decide) (hts (.fieldLink RX0 25 "TypingTutor$History" "pace" "I") (List.mem_of_getElem? (i := 1) rfl)) (fun _ h9 => h9) rfl dX0_paceBehind_50 ?_
      refine lv_bipush (v := 10) hx hb dX0_paceBehind_53 (by decide) ?_
      refine lv_idiv hx hb dX0_paceBehind_55 (by decide) ?_
      refine lv_isub hx hb dX0_paceBehind_56 ?_
      refine lv_istore_n (lv' := [(3, .int (pa - (pa / 10))), (0, .ref (h 16)), (1, .int (nI lt)), (2, .int (nI ct))]) hx hb dX0_paceBehind_57 rfl hl (by decide) rfl (fun ls hl => ?_)
      refine lv_sipush (v := 900) hx hb dX0_paceBehind_58 (by decide) ?_
      refine lv_bipush (v := 20) hx hb dX0_paceBehind_61 (by decide) ?_
      refine lv_iload_n hx hb dX0_paceBehind_63 rfl (lv_at hl 0 rfl) ?_
      refine va_mmax hx hb (hml.trans hl.1.symm) hown (hts (.methodLink RX0 43 Lib.Math.max.name) (List.mem_of_getElem? (i := 2) rfl)) (hts (.static Lib.Math.max.name) (List.mem_of_getElem? (i := 3) rfl)) (hts (.initialized "java/lang/Math") (List.mem_of_getElem? (i := 4) rfl)) (hts (.code Lib.Math.max.name Lib.Math.max.code 2 (some .int)) (List.mem_of_getElem? (i := 5) rfl)) (Nat.le_of_ble_eq_true rfl) (Nat.le_of_ble_eq_true rfl) (Nat.zero_le _) (Nat.zero_le _) dX0_paceBehind_64 ?_
      refine va_mmin hx hb (hml.trans hl.1.symm) hown (hts (.methodLink RX0 56 Lib.Math.min.name) (List.mem_of_getElem? (i := 6) rfl)) (hts (.static Lib.Math.min.name) (List.mem_of_getElem? (i := 7) rfl)) (hts (.initialized "java/lang/Math") (List.mem_of_getElem? (i := 4) rfl)) (hts (.code Lib.Math.min.name Lib.Math.min.code 2 (some .int)) (List.mem_of_getElem? (i := 8) rfl)) (Nat.le_of_ble_eq_true rfl) (Nat.le_of_ble_eq_true rfl) (Nat.zero_le _) (Nat.zero_le _) dX0_paceBehind_67 ?_
      exact W.iret (v := (if (if 20 < (pa - (pa / 10)) then (pa - (pa / 10)) else 20) < 900 then (if 20 < (pa - (pa / 10)) then (pa - (pa / 10)) else 20) else 900)) hx hb hr (fun t ht hW => ⟨⟨_, (), rfl, by unfold zpc; first | rw [if_pos (by omega)]; rfl | (rw [if_neg (by omega), if_pos (by omega)]; rfl) | (rw [if_neg (by omega), if_neg (by omega)]; rfl), by rw [ht]; exact hP, hD⟩, hS.F ht⟩) hS.2.2 dX0_paceBehind_70
  · skip
    have c_3 : ¬ (ct * 100) < (lt * 95) := fun hh => c_3 ((nI_ltI (a := (ct * 100)) (b := (lt * 95)) (by omega) (by omega)).mpr hh)
    refine lv_aload_n hx hb dX0_paceBehind_16 rfl (lv_at hl 1 rfl) ?_
    refine va_get (ci := 0) (v := .int pa) (C := RX0) (T := TX0) (N := 7) hx hb hts hinX0 hown hK hP 16 rfl rfl 4 (by decide) (hts (.fieldLink RX0 25 "TypingTutor$History" "pace" "I") (List.mem_of_getElem? (i := 1) rfl)) (fun _ h9 => h9) rfl dX0_paceBehind_17 ?_
    refine lv_aload_n hx hb dX0_paceBehind_20 rfl (lv_at hl 1 rfl) ?_
    refine va_get (ci := 0) (v := .int pa) (C := RX0) (T := TX0) (N := 7) hx hb hts hinX0 hown hK hP 16 rfl rfl 4 (by decide) (hts (.fieldLink RX0 25 "TypingTutor$History" "pace" "I") (List.mem_of_getElem? (i := 1) rfl)) (fun _ h9 => h9) rfl dX0_paceBehind_21 ?_
    refine lv_bipush (v := 20) hx hb dX0_paceBehind_24 (by decide) ?_
    refine lv_idiv hx hb dX0_paceBehind_26 (by decide) ?_
    refine lv_iadd hx hb dX0_paceBehind_27 ?_
    refine lv_iconst (v := 1) hx hb dX0_paceBehind_28 (by decide) ?_
    refine lv_iadd hx hb dX0_paceBehind_29 ?_
    refine lv_istore_n (lv' := [(3, .int ((pa + (pa / 20)) + 1)), (0, .ref (h 16)), (1, .int (nI lt)), (2, .int (nI ct))]) hx hb dX0_paceBehind_30 rfl hl (by decide) rfl (fun ls hl => ?_)
    refine lv_goto (tgt := 58) hx hb dX0_paceBehind_31 (by decide) ?_
    refine lv_sipush (v := 900) hx hb dX0_paceBehind_58 (by decide) ?_
    refine lv_bipush (v := 20) hx hb dX0_paceBehind_61 (by decide) ?_
    refine lv_iload_n hx hb dX0_paceBehind_63 rfl (lv_at hl 0 rfl) ?_
    refine va_mmax hx hb (hml.trans hl.1.symm) hown (hts (.methodLink RX0 43 Lib.Math.max.name) (List.mem_of_getElem? (i := 2) rfl)) (hts (.static Lib.Math.max.name) (List.mem_of_getElem? (i := 3) rfl)) (hts (.initialized "java/lang/Math") (List.mem_of_getElem? (i := 4) rfl)) (hts (.code Lib.Math.max.name Lib.Math.max.code 2 (some .int)) (List.mem_of_getElem? (i := 5) rfl)) (Nat.le_of_ble_eq_true rfl) (Nat.le_of_ble_eq_true rfl) (Nat.zero_le _) (Nat.zero_le _) dX0_paceBehind_64 ?_
    refine va_mmin hx hb (hml.trans hl.1.symm) hown (hts (.methodLink RX0 56 Lib.Math.min.name) (List.mem_of_getElem? (i := 6) rfl)) (hts (.static Lib.Math.min.name) (List.mem_of_getElem? (i := 7) rfl)) (hts (.initialized "java/lang/Math") (List.mem_of_getElem? (i := 4) rfl)) (hts (.code Lib.Math.min.name Lib.Math.min.code 2 (some .int)) (List.mem_of_getElem? (i := 8) rfl)) (Nat.le_of_ble_eq_true rfl) (Nat.le_of_ble_eq_true rfl) (Nat.zero_le _) (Nat.zero_le _) dX0_paceBehind_67 ?_
    exact W.iret (v := (if (if 20 < ((pa + (pa / 20)) + 1) then ((pa + (pa / 20)) + 1) else 20) < 900 then (if 20 < ((pa + (pa / 20)) + 1) then ((pa + (pa / 20)) + 1) else 20) else 900)) hx hb hr (fun t ht hW => ⟨⟨_, (), rfl, by unfold zpc; first | rw [if_pos (by omega)]; rfl | (rw [if_neg (by omega), if_pos (by omega)]; rfl) | (rw [if_neg (by omega), if_neg (by omega)]; rfl), by rw [ht]; exact hP, hD⟩, hS.F ht⟩) hS.2.2 dX0_paceBehind_70

set_option maxHeartbeats 4000000 in
set_option maxRecDepth 100000 in
theorem c_X0_keep {l : Launch} {B kr kp : Nat} {D : va_G} {cI cJ cZ : ClassId} {h : Nat → Nat} {R : va_W} {n : Nat} {L : Nat → Int64} {kt : Nat → Int32} {km : Nat → Int32} {kl : Nat → Int32} {pt : Nat → Int32} {pm : Nat → Int32} {pl : Nat → Int32} {nu : Nat → Int32} {le : Nat → Int32} {ow : Nat → Int32} {fo : Nat → Int32} {run : Bool} {wc : Nat} {lc : Nat} {tr : Nat} {cl : Nat} {tm : Nat} {ms : Nat} {yl : Nat → Int32} {yc : Nat → Int32} {yt : Nat → Int32} {co : Nat} {pa : Int32} {su : Nat} {sc : Nat} {mc : Nat → Int32} {lt : Nat} {ct : Nat} {ts : Nat}   (hco : co < 256) (h9l : lt ≤ 48) (h9c : ct ≤ 48) : Met l yX0_keep wsX0_keep ({ frames := 2, cells := 0, slots := 0, locals := 47 }) (zPc B kr kp D (zTy cI cJ cZ) (zWT cI cJ h (n, L) (kt, km, kl) (pt, pm, pl) (nu, le, ow, fo, run, wc, lc, tr, cl, tm, ms) (yl, yc, yt, co, pa, su, sc) mc ++ R) [.ref (h 16), .int (nI lt), .int (nI ct), .int (nI ts)]) (zQv B D (zWT cI cJ h (n, L) (kt, km, kl) (pt, pm, pl) (nu, le, ow, fo, run, wc, lc, tr, cl, tm, ms) ((upd yl co (nI lt)), (upd yc co (nI ct)), (upd yt co (nI ts)), (co + 1), (zpc pa lt ct), (su + lt), (sc + ct)) mc ++ R)) 0 0 (zAb B) := by
  refine Met.ofW (cc := cX0_keep) (maxL := 4) (ret := none) (by decide) rfl ?_
  intro p e s m args below meth c s₁ B0 hml hv
  obtain ⟨rfl, hP, hD, hK, hE, hB⟩ := hv
  have hx := B0.exec
  have hb := B0.bytes
  have hr := B0.returns
  have hts := atoms_spec (ws := wsX0_keep) B0.pre
  have hown : s.vm.findClass RX0 = some m.cls := findClass_of_methodNamed B0.named
  have hlocks := B0.notSynchronized
  have hA : ∀ q : Nat, s.heap.size ≤ q → zAb B q := fun q hq => Nat.le_trans hB hq
  have hS : va_S (zAb B) s.heap s.heap [] := va_S.rf
  have hl := lv_entry ([.ref (h 16), .int (nI lt), .int (nI ct), .int (nI ts)]) (n := 4) (Nat.le_of_ble_eq_true rfl)
  rw [lg_entry_eq]
  generalize (lg_sl ([.ref (h 16), .int (nI lt), .int (nI ct), .int (nI ts)]) ++ List.replicate (4 - (lg_sl ([.ref (h 16), .int (nI lt), .int (nI ct), .int (nI ts)])).length) Slot.unset).toArray = ls at hl ⊢
  have hl : lv_has ls 4 [(0, .ref (h 16)), (1, .int (nI lt)), (2, .int (nI ct)), (3, .int (nI ts))] := hl
  have hinX0 : ∀ w ∈ wsX00, w ∈ wsX0_keep := fun _ h => List.mem_cons_of_mem _ (List.mem_append_right _ h)
  have hP : va_P D vwCl (zWT cI cJ h (n, L) (kt, km, kl) (pt, pm, pl) (nu, le, ow, fo, run, wc, lc, tr, cl, tm, ms) (yl, yc, yt, co, pa, su, sc) mc ++ R) s.heap := hP
  have hD : va_D (zAb B) (zWT cI cJ h (n, L) (kt, km, kl) (pt, pm, pl) (nu, le, ow, fo, run, wc, lc, tr, cl, tm, ms) (yl, yc, yt, co, pa, su, sc) mc ++ R) := hD
  refine lv_aload_n hx hb dX0_keep_0 rfl (lv_at hl 0 rfl) ?_
  refine va_get (ci := 0) (v := .int (nI co)) (C := RX0) (T := TX0) (N := 7) hx hb hts hinX0 hown hK hP 16 rfl rfl 3 (by decide) (hts (.fieldLink RX0 21 "TypingTutor$History" "count" "I") (List.mem_of_getElem? (i := 1) rfl)) (fun _ h9 => h9) rfl dX0_keep_1 ?_
  refine lv_sipush (v := 256) hx hb dX0_keep_4 (by decide) ?_
  refine lv_icmp_lt (tgt := 11) hx hb dX0_keep_7 (by decide) (fun c_1 => ?_) (fun c_1 => ?_)
  · skip
    have c_1 : co < 256 := (nI_ltI (a := co) (b := 256) (by omega) (by omega)).mp c_1
    refine lv_aload_n hx hb dX0_keep_11 rfl (lv_at hl 0 rfl) ?_
    refine va_get (ci := 0) (v := .ref (h 17)) (C := RX0) (T := TX0) (N := 7) hx hb hts hinX0 hown hK hP 16 rfl rfl 0 (by decide) (hts (.fieldLink RX0 9 "TypingTutor$History" "letters" "[I") (List.mem_of_getElem? (i := 2) rfl)) (fun _ h9 => h9) rfl dX0_keep_12 ?_
    refine lv_aload_n hx hb dX0_keep_15 rfl (lv_at hl 0 rfl) ?_
    refine va_get (ci := 0) (v := .int (nI co)) (C := RX0) (T := TX0) (N := 7) hx hb hts hinX0 hown hK hP 16 rfl rfl 3 (by decide) (hts (.fieldLink RX0 21 "TypingTutor$History" "count" "I") (List.mem_of_getElem? (i := 1) rfl)) (fun _ h9 => h9) rfl dX0_keep_16 ?_
    refine lv_iload_n hx hb dX0_keep_19 rfl (lv_at hl 1 rfl) ?_
    refine zcv (zrSN (As := [.ref (h 17), .int (nI co), .int (nI lt)]) (rest := []) ⟨hx, hb, hml, hown, hts⟩ (zS hP hD hK hE hB hS) (c_X4_write (q0 := 17) rfl (by omega)) ⟨va_cnB 3 hts gX0_keep_X4_write_n49 rfl rfl rfl (hE.1 _ (List.mem_of_getElem? (i := 4) rfl)) (hts (.initialized RX4) (List.mem_of_getElem? (i := 9) rfl)) hds_X4_write ⟨Nat.le_of_ble_eq_true rfl, Nat.le_of_ble_eq_true rfl⟩, (hts (.static yX4_write) (List.mem_of_getElem? (i := 8) rfl)), trivial⟩ rfl rfl hl.1 rfl (lv_room (Nat.le_of_ble_eq_true rfl)) dX0_keep_20 ⟨Nat.le_of_ble_eq_true rfl, Nat.le_of_ble_eq_true rfl⟩) hS (fun H locs hP hD hS => ?_)
    have hP : va_P D vwCl (zWT cI cJ h (n, L) (kt, km, kl) (pt, pm, pl) (nu, le, ow, fo, run, wc, lc, tr, cl, tm, ms) ((zwr 256 yl (nI co) (nI lt)), yc, yt, co, pa, su, sc) mc ++ R) _ := hP
    have hD : va_D (zAb B) (zWT cI cJ h (n, L) (kt, km, kl) (pt, pm, pl) (nu, le, ow, fo, run, wc, lc, tr, cl, tm, ms) ((zwr 256 yl (nI co) (nI lt)), yc, yt, co, pa, su, sc) mc ++ R) := hD
    rw [show (zwr 256 yl (nI co) (nI lt)) = (upd yl co (nI lt)) from (zwr_in (n := 256) (k := co) (f := yl) (v := (nI lt)) (by omega) (by omega))] at hP hD
    have hP : va_P D vwCl (zWT cI cJ h (n, L) (kt, km, kl) (pt, pm, pl) (nu, le, ow, fo, run, wc, lc, tr, cl, tm, ms) ((upd yl co (nI lt)), yc, yt, co, pa, su, sc) mc ++ R) _ := hP
    have hD : va_D (zAb B) (zWT cI cJ h (n, L) (kt, km, kl) (pt, pm, pl) (nu, le, ow, fo, run, wc, lc, tr, cl, tm, ms) ((upd yl co (nI lt)), yc, yt, co, pa, su, sc) mc ++ R) := hD
    refine lv_aload_n hx hb dX0_keep_23 rfl (lv_at hl 0 rfl) ?_
    refine va_get (ci := 0) (v := .ref (h 18)) (C := RX0) (T := TX0) (N := 7) hx hb hts hinX0 hown hK hP 16 rfl rfl 1 (by decide) (hts (.fieldLink RX0 15 "TypingTutor$History" "cleans" "[I") (List.mem_of_getElem? (i := 3) rfl)) (fun _ h9 => h9) rfl dX0_keep_24 ?_
    refine lv_aload_n hx hb dX0_keep_27 rfl (lv_at hl 0 rfl) ?_
    refine va_get (ci := 0) (v := .int (nI co)) (C := RX0) (T := TX0) (N := 7) hx hb hts hinX0 hown hK hP 16 rfl rfl 3 (by decide) (hts (.fieldLink RX0 21 "TypingTutor$History" "count" "I") (List.mem_of_getElem? (i := 1) rfl)) (fun _ h9 => h9) rfl dX0_keep_28 ?_
    refine lv_iload_n hx hb dX0_keep_31 rfl (lv_at hl 2 rfl) ?_
    refine zcv (zrSN (As := [.ref (h 18), .int (nI co), .int (nI ct)]) (rest := []) ⟨hx, hb, hml, hown, hts⟩ (zS hP hD hK hE hB hS) (c_X4_write (q0 := 18) rfl (by omega)) ⟨va_cnB 3 hts gX0_keep_X4_write_n49 rfl rfl rfl (hE.1 _ (List.mem_of_getElem? (i := 4) rfl)) (hts (.initialized RX4) (List.mem_of_getElem? (i := 9) rfl)) hds_X4_write ⟨Nat.le_of_ble_eq_true rfl, Nat.le_of_ble_eq_true rfl⟩, (hts (.static yX4_write) (List.mem_of_getElem? (i := 8) rfl)), trivial⟩ rfl rfl hl.1 rfl (lv_room (Nat.le_of_ble_eq_true rfl)) dX0_keep_32 ⟨Nat.le_of_ble_eq_true rfl, Nat.le_of_ble_eq_true rfl⟩) hS (fun H locs hP hD hS => ?_)
    have hP : va_P D vwCl (zWT cI cJ h (n, L) (kt, km, kl) (pt, pm, pl) (nu, le, ow, fo, run, wc, lc, tr, cl, tm, ms) ((upd yl co (nI lt)), (zwr 256 yc (nI co) (nI ct)), yt, co, pa, su, sc) mc ++ R) _ := hP
    have hD : va_D (zAb B) (zWT cI cJ h (n, L) (kt, km, kl) (pt, pm, pl) (nu, le, ow, fo, run, wc, lc, tr, cl, tm, ms) ((upd yl co (nI lt)), (zwr 256 yc (nI co) (nI ct)), yt, co, pa, su, sc) mc ++ R) := hD
    rw [show (zwr 256 yc (nI co) (nI ct)) = (upd yc co (nI ct)) from (zwr_in (n := 256) (k := co) (f := yc) (v := (nI ct)) (by omega) (by omega))] at hP hD
    have hP : va_P D vwCl (zWT cI cJ h (n, L) (kt, km, kl) (pt, pm, pl) (nu, le, ow, fo, run, wc, lc, tr, cl, tm, ms) ((upd yl co (nI lt)), (upd yc co (nI ct)), yt, co, pa, su, sc) mc ++ R) _ := hP
    have hD : va_D (zAb B) (zWT cI cJ h (n, L) (kt, km, kl) (pt, pm, pl) (nu, le, ow, fo, run, wc, lc, tr, cl, tm, ms) ((upd yl co (nI lt)), (upd yc co (nI ct)), yt, co, pa, su, sc) mc ++ R) := hD
    refine lv_aload_n hx hb dX0_keep_35 rfl (lv_at hl 0 rfl) ?_
    refine va_get (ci := 0) (v := .ref (h 19)) (C := RX0) (T := TX0) (N := 7) hx hb hts hinX0 hown hK hP 16 rfl rfl 2 (by decide) (hts (.fieldLink RX0 18 "TypingTutor$History" "times" "[I") (List.mem_of_getElem? (i := 4) rfl)) (fun _ h9 => h9) rfl dX0_keep_36 ?_
    refine lv_aload_n hx hb dX0_keep_39 rfl (lv_at hl 0 rfl) ?_
    refine va_get (ci := 0) (v := .int (nI co)) (C := RX0) (T := TX0) (N := 7) hx hb hts hinX0 hown hK hP 16 rfl rfl 3 (by decide) (hts (.fieldLink RX0 21 "TypingTutor$History" "count" "I") (List.mem_of_getElem? (i := 1) rfl)) (fun _ h9 => h9) rfl dX0_keep_40 ?_
    refine lv_iload_n hx hb dX0_keep_43 rfl (lv_at hl 3 rfl) ?_
    refine zcv (zrSN (As := [.ref (h 19), .int (nI co), .int (nI ts)]) (rest := []) ⟨hx, hb, hml, hown, hts⟩ (zS hP hD hK hE hB hS) (c_X4_write (q0 := 19) rfl (by omega)) ⟨va_cnB 3 hts gX0_keep_X4_write_n49 rfl rfl rfl (hE.1 _ (List.mem_of_getElem? (i := 4) rfl)) (hts (.initialized RX4) (List.mem_of_getElem? (i := 9) rfl)) hds_X4_write ⟨Nat.le_of_ble_eq_true rfl, Nat.le_of_ble_eq_true rfl⟩, (hts (.static yX4_write) (List.mem_of_getElem? (i := 8) rfl)), trivial⟩ rfl rfl hl.1 rfl (lv_room (Nat.le_of_ble_eq_true rfl)) dX0_keep_44 ⟨Nat.le_of_ble_eq_true rfl, Nat.le_of_ble_eq_true rfl⟩) hS (fun H locs hP hD hS => ?_)
    have hP : va_P D vwCl (zWT cI cJ h (n, L) (kt, km, kl) (pt, pm, pl) (nu, le, ow, fo, run, wc, lc, tr, cl, tm, ms) ((upd yl co (nI lt)), (upd yc co (nI ct)), (zwr 256 yt (nI co) (nI ts)), co, pa, su, sc) mc ++ R) _ := hP
    have hD : va_D (zAb B) (zWT cI cJ h (n, L) (kt, km, kl) (pt, pm, pl) (nu, le, ow, fo, run, wc, lc, tr, cl, tm, ms) ((upd yl co (nI lt)), (upd yc co (nI ct)), (zwr 256 yt (nI co) (nI ts)), co, pa, su, sc) mc ++ R) := hD
    rw [show (zwr 256 yt (nI co) (nI ts)) = (upd yt co (nI ts)) from (zwr_in (n := 256) (k := co) (f := yt) (v := (nI ts)) (by omega) (by omega))] at hP hD
    have hP : va_P D vwCl (zWT cI cJ h (n, L) (kt, km, kl) (pt, pm, pl) (nu, le, ow, fo, run, wc, lc, tr, cl, tm, ms) ((upd yl co (nI lt)), (upd yc co (nI ct)), (upd yt co (nI ts)), co, pa, su, sc) mc ++ R) _ := hP
    have hD : va_D (zAb B) (zWT cI cJ h (n, L) (kt, km, kl) (pt, pm, pl) (nu, le, ow, fo, run, wc, lc, tr, cl, tm, ms) ((upd yl co (nI lt)), (upd yc co (nI ct)), (upd yt co (nI ts)), co, pa, su, sc) mc ++ R) := hD
    refine lv_aload_n hx hb dX0_keep_47 rfl (lv_at hl 0 rfl) ?_
    refine lv_dup hx hb dX0_keep_48 rfl ?_
    refine va_get (ci := 0) (v := .int (nI co)) (C := RX0) (T := TX0) (N := 7) hx hb hts hinX0 hown hK hP 16 rfl rfl 3 (by decide) (hts (.fieldLink RX0 21 "TypingTutor$History" "count" "I") (List.mem_of_getElem? (i := 1) rfl)) (fun _ h9 => h9) rfl dX0_keep_49 ?_
    refine lv_iconst (v := 1) hx hb dX0_keep_52 (by decide) ?_
    refine lv_iadd hx hb dX0_keep_53 ?_
    refine lv_topi (fun v_2 ev_2 => ?_)
    obtain rfl : v_2 = (nI (co + 1)) := ev_2.trans (nI_add co 1)
    refine va_put (ci := 0) (v := .int (nI (co + 1))) (ty := .int) (C := RX0) (T := TX0) (N := 7) hx hb hts hinX0 tyX0 tyX0_ok nmX0 hown hK hP hD hS 16 rfl rfl 3 (by decide) (hts (.fieldLink RX0 21 "TypingTutor$History" "count" "I") (List.mem_of_getElem? (i := 1) rfl)) (fun _ h9 => h9) rfl (by decide +kernel) rfl rfl (Nat.le_of_ble_eq_true rfl) dX0_keep_54 (fun H locs hP hD hS => ?_)
    have hP : va_P D vwCl (zWT cI cJ h (n, L) (kt, km, kl) (pt, pm, pl) (nu, le, ow, fo, run, wc, lc, tr, cl, tm, ms) ((upd yl co (nI lt)), (upd yc co (nI ct)), (upd yt co (nI ts)), (co + 1), pa, su, sc) mc ++ R) _ := hP
    have hD : va_D (zAb B) (zWT cI cJ h (n, L) (kt, km, kl) (pt, pm, pl) (nu, le, ow, fo, run, wc, lc, tr, cl, tm, ms) ((upd yl co (nI lt)), (upd yc co (nI ct)), (upd yt co (nI ts)), (co + 1), pa, su, sc) mc ++ R) := hD
    refine lv_aload_n hx hb dX0_keep_57 rfl (lv_at hl 0 rfl) ?_
    refine lv_dup hx hb dX0_keep_58 rfl ?_
    refine va_get (ci := 0) (v := .int (nI su)) (C := RX0) (T := TX0) (N := 7) hx hb hts hinX0 hown hK hP 16 rfl rfl 5 (by decide) (hts (.fieldLink RX0 28 "TypingTutor$History" "letterSum" "I") (List.mem_of_getElem? (i := 5) rfl)) (fun _ h9 => h9) rfl dX0_keep_59 ?_
    refine lv_iload_n hx hb dX0_keep_62 rfl (lv_at hl 1 rfl) ?_
    refine lv_iadd hx hb dX0_keep_63 ?_
    refine lv_topi (fun v_3 ev_3 => ?_)
    obtain rfl : v_3 = (nI (su + lt)) := ev_3.trans (nI_add su lt)
    refine va_put (ci := 0) (v := .int (nI (su + lt))) (ty := .int) (C := RX0) (T := TX0) (N := 7) hx hb hts hinX0 tyX0 tyX0_ok nmX0 hown hK hP hD hS 16 rfl rfl 5 (by decide) (hts (.fieldLink RX0 28 "TypingTutor$History" "letterSum" "I") (List.mem_of_getElem? (i := 5) rfl)) (fun _ h9 => h9) rfl (by decide +kernel) rfl rfl (Nat.le_of_ble_eq_true rfl) dX0_keep_64 (fun H locs hP hD hS => ?_)
    have hP : va_P D vwCl (zWT cI cJ h (n, L) (kt, km, kl) (pt, pm, pl) (nu, le, ow, fo, run, wc, lc, tr, cl, tm, ms) ((upd yl co (nI lt)), (upd yc co (nI ct)), (upd yt co (nI ts)), (co + 1), pa, (su + lt), sc) mc ++ R) _ := hP
    have hD : va_D (zAb B) (zWT cI cJ h (n, L) (kt, km, kl) (pt, pm, pl) (nu, le, ow, fo, run, wc, lc, tr, cl, tm, ms) ((upd yl co (nI lt)), (upd yc co (nI ct)), (upd yt co (nI ts)), (co + 1), pa, (su + lt), sc) mc ++ R) := hD
    refine lv_aload_n hx hb dX0_keep_67 rfl (lv_at hl 0 rfl) ?_
    refine lv_dup hx hb dX0_keep_68 rfl ?_
    refine va_get (ci := 0) (v := .int (nI sc)) (C := RX0) (T := TX0) (N := 7) hx hb hts hinX0 hown hK hP 16 rfl rfl 6 (by decide) (hts (.fieldLink RX0 31 "TypingTutor$History" "cleanSum" "I") (List.mem_of_getElem? (i := 6) rfl)) (fun _ h9 => h9) rfl dX0_keep_69 ?_
    refine lv_iload_n hx hb dX0_keep_72 rfl (lv_at hl 2 rfl) ?_
    refine lv_iadd hx hb dX0_keep_73 ?_
    refine lv_topi (fun v_4 ev_4 => ?_)
    obtain rfl : v_4 = (nI (sc + ct)) := ev_4.trans (nI_add sc ct)
    refine va_put (ci := 0) (v := .int (nI (sc + ct))) (ty := .int) (C := RX0) (T := TX0) (N := 7) hx hb hts hinX0 tyX0 tyX0_ok nmX0 hown hK hP hD hS 16 rfl rfl 6 (by decide) (hts (.fieldLink RX0 31 "TypingTutor$History" "cleanSum" "I") (List.mem_of_getElem? (i := 6) rfl)) (fun _ h9 => h9) rfl (by decide +kernel) rfl rfl (Nat.le_of_ble_eq_true rfl) dX0_keep_74 (fun H locs hP hD hS => ?_)
    have hP : va_P D vwCl (zWT cI cJ h (n, L) (kt, km, kl) (pt, pm, pl) (nu, le, ow, fo, run, wc, lc, tr, cl, tm, ms) ((upd yl co (nI lt)), (upd yc co (nI ct)), (upd yt co (nI ts)), (co + 1), pa, (su + lt), (sc + ct)) mc ++ R) _ := hP
    have hD : va_D (zAb B) (zWT cI cJ h (n, L) (kt, km, kl) (pt, pm, pl) (nu, le, ow, fo, run, wc, lc, tr, cl, tm, ms) ((upd yl co (nI lt)), (upd yc co (nI ct)), (upd yt co (nI ts)), (co + 1), pa, (su + lt), (sc + ct)) mc ++ R) := hD
    refine lv_aload_n hx hb dX0_keep_77 rfl (lv_at hl 0 rfl) ?_
    refine lv_aload_n hx hb dX0_keep_78 rfl (lv_at hl 0 rfl) ?_
    refine lv_iload_n hx hb dX0_keep_79 rfl (lv_at hl 1 rfl) ?_
    refine lv_iload_n hx hb dX0_keep_80 rfl (lv_at hl 2 rfl) ?_
    refine zci (zrV (As := [.int (nI lt), .int (nI ct)]) (rest := [.ref (h 16)]) ⟨hx, hb, hml, hown, hts⟩ (zV 16 hP hD hK hE hB hS rfl rfl) (c_X0_paceBehind (lt := lt) (ct := ct) (by omega) (by omega)) (cwV 2 hts gX0_keep_X0_paceBehind rfl rfl rfl hdv_X0_paceBehind ⟨Nat.le_of_ble_eq_true rfl, Nat.le_of_ble_eq_true rfl⟩) rfl rfl hl.1 rfl (lv_room (Nat.le_of_ble_eq_true rfl)) dX0_keep_81 ⟨Nat.le_of_ble_eq_true rfl, Nat.le_of_ble_eq_true rfl⟩) hS (fun H locs hP hD hS => ?_)
    have hP : va_P D vwCl (zWT cI cJ h (n, L) (kt, km, kl) (pt, pm, pl) (nu, le, ow, fo, run, wc, lc, tr, cl, tm, ms) ((upd yl co (nI lt)), (upd yc co (nI ct)), (upd yt co (nI ts)), (co + 1), pa, (su + lt), (sc + ct)) mc ++ R) _ := hP
    have hD : va_D (zAb B) (zWT cI cJ h (n, L) (kt, km, kl) (pt, pm, pl) (nu, le, ow, fo, run, wc, lc, tr, cl, tm, ms) ((upd yl co (nI lt)), (upd yc co (nI ct)), (upd yt co (nI ts)), (co + 1), pa, (su + lt), (sc + ct)) mc ++ R) := hD
    refine va_put (ci := 0) (v := .int (zpc pa lt ct)) (ty := .int) (C := RX0) (T := TX0) (N := 7) hx hb hts hinX0 tyX0 tyX0_ok nmX0 hown hK hP hD hS 16 rfl rfl 4 (by decide) (hts (.fieldLink RX0 25 "TypingTutor$History" "pace" "I") (List.mem_of_getElem? (i := 7) rfl)) (fun _ h9 => h9) rfl (by decide +kernel) rfl rfl (Nat.le_of_ble_eq_true rfl) dX0_keep_84 (fun H locs hP hD hS => ?_)
    have hP : va_P D vwCl (zWT cI cJ h (n, L) (kt, km, kl) (pt, pm, pl) (nu, le, ow, fo, run, wc, lc, tr, cl, tm, ms) ((upd yl co (nI lt)), (upd yc co (nI ct)), (upd yt co (nI ts)), (co + 1), (zpc pa lt ct), (su + lt), (sc + ct)) mc ++ R) _ := hP
    have hD : va_D (zAb B) (zWT cI cJ h (n, L) (kt, km, kl) (pt, pm, pl) (nu, le, ow, fo, run, wc, lc, tr, cl, tm, ms) ((upd yl co (nI lt)), (upd yc co (nI ct)), (upd yt co (nI ts)), (co + 1), (zpc pa lt ct), (su + lt), (sc + ct)) mc ++ R) := hD
    exact W.vret hx hb hr (fun t ht hW => ⟨⟨(), rfl, trivial, by rw [ht]; exact hP, hD⟩, hS.F ht⟩) hS.2.2 dX0_keep_87
  · skip
    have c_1 : ¬ co < 256 := fun hh => c_1 ((nI_ltI (a := co) (b := 256) (by omega) (by omega)).mpr hh)
    exfalso; first | omega | (revert c_1; decide) | (exact absurd rfl c_1) | simp_all
