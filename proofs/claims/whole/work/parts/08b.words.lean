set_option maxHeartbeats 1000000 in
set_option maxRecDepth 100000 in
theorem c_X4_addWord {l : Launch} {B kr kp : Nat} {D : va_G} {cI cJ cZ : ClassId} {h : Nat → Nat} {R : va_W} {n : Nat} {L : Nat → Int64} {kt : Nat → Int32} {km : Nat → Int32} {kl : Nat → Int32} {pt : Nat → Int32} {pm : Nat → Int32} {pl : Nat → Int32} {nu : Nat → Int32} {le : Nat → Int32} {ow : Nat → Int32} {fo : Nat → Int32} {run : Bool} {wc : Nat} {lc : Nat} {tr : Nat} {cl : Nat} {tm : Nat} {ms : Nat} {yl : Nat → Int32} {yc : Nat → Int32} {yt : Nat → Int32} {co : Nat} {pa : Int32} {su : Nat} {sc : Nat} {mc : Nat → Int32} {w : Int64}   (hz : zok w = true) (hn : n < 40) (hh9 : zhd L w n = false) : Met l yX4_addWord wsX4_addWord ({ frames := 2, cells := 0, slots := 0, locals := 44 }) (zPc B kr kp D (zTy cI cJ cZ) (zWT cI cJ h (n, L) (kt, km, kl) (pt, pm, pl) (nu, le, ow, fo, run, wc, lc, tr, cl, tm, ms) (yl, yc, yt, co, pa, su, sc) mc ++ R) [.ref (h 0), .long w]) (zQi B D (zWT cI cJ h ((n + 1), (vp_updL L n w)) (kt, km, kl) (pt, pm, pl) (nu, le, ow, fo, run, wc, lc, tr, cl, tm, ms) (yl, yc, yt, co, pa, su, sc) mc ++ R) (nI n)) 0 0 (zAb B) := by
  refine Met.ofW (cc := cX4_addWord) (maxL := 3) (ret := (some .int)) (by decide) rfl ?_
  intro p e s m args below meth c s₁ B0 hml hv
  obtain ⟨rfl, hP, hD, hK, hE, hB⟩ := hv
  have hx := B0.exec
  have hb := B0.bytes
  have hr := B0.returns
  have hts := atoms_spec (ws := wsX4_addWord) B0.pre
  have hown : s.vm.findClass RX4 = some m.cls := findClass_of_methodNamed B0.named
  have hlocks := B0.notSynchronized
  have hA : ∀ q : Nat, s.heap.size ≤ q → zAb B q := fun q hq => Nat.le_trans hB hq
  have hS : va_S (zAb B) s.heap s.heap [] := va_S.rf
  have hgr : s.heap.size ≤ s.heap.size := Nat.le_refl _
  have hl := lv_entry ([.ref (h 0), .long w]) (n := 3) (Nat.le_of_ble_eq_true rfl)
  rw [lg_entry_eq]
  generalize (lg_sl ([.ref (h 0), .long w]) ++ List.replicate (3 - (lg_sl ([.ref (h 0), .long w])).length) Slot.unset).toArray = ls at hl ⊢
  have hl : lv_has ls 3 [(0, .ref (h 0)), (1, .long w)] := hl
  have hinX4 : ∀ w ∈ wsX40, w ∈ wsX4_addWord := fun _ h => List.mem_cons_of_mem _ (List.mem_append_left _ (List.mem_append_left _ (List.mem_append_left _ (List.mem_append_right _ h))))
  have hP : va_P D vwCl (zWT cI cJ h (n, L) (kt, km, kl) (pt, pm, pl) (nu, le, ow, fo, run, wc, lc, tr, cl, tm, ms) (yl, yc, yt, co, pa, su, sc) mc ++ R) s.heap := hP
  have hD : va_D (zAb B) (zWT cI cJ h (n, L) (kt, km, kl) (pt, pm, pl) (nu, le, ow, fo, run, wc, lc, tr, cl, tm, ms) (yl, yc, yt, co, pa, su, sc) mc ++ R) := hD
  refine lv_lload_n hx hb dX4_addWord_0 rfl (lv_at hl 1 rfl) ?_
  refine zci (zrS (As := [.long w]) (rest := []) ⟨hx, hb, hml, hown, hts⟩ (zS hP hD hK hE hB hS) (c_X4_tellsWord  ) (va_cwS 1 hts gX4_addWord_X4_tellsWord rfl rfl rfl hds_X4_tellsWord ⟨Nat.le_of_ble_eq_true rfl, Nat.le_of_ble_eq_true rfl⟩) rfl rfl hl.1 rfl (lv_room (Nat.le_of_ble_eq_true rfl)) dX4_addWord_1 ⟨Nat.le_of_ble_eq_true rfl, Nat.le_of_ble_eq_true rfl⟩) hS (fun H locs hP hD hS => ?_)
  have hP : va_P D vwCl (zWT cI cJ h (n, L) (kt, km, kl) (pt, pm, pl) (nu, le, ow, fo, run, wc, lc, tr, cl, tm, ms) (yl, yc, yt, co, pa, su, sc) mc ++ R) _ := hP
  have hD : va_D (zAb B) (zWT cI cJ h (n, L) (kt, km, kl) (pt, pm, pl) (nu, le, ow, fo, run, wc, lc, tr, cl, tm, ms) (yl, yc, yt, co, pa, su, sc) mc ++ R) := hD
  refine lv_if_ne (tgt := 17) hx hb dX4_addWord_4 (by decide) (fun c_1 => ?_) (fun c_1 => ?_)
  · skip
    have c_1 : (zok w) = true := zb_n c_1
    refine lv_aload_n hx hb dX4_addWord_17 rfl (lv_at hl 0 rfl) ?_
    refine va_get (ci := 4) (v := .ref (h 1)) (C := RX4) (T := TX4) (N := 6) hx hb hts hinX4 hown hK hP 0 rfl rfl 0 (by decide) (hts (.fieldLink RX4 12 "TypingTutor" "list" "LTypingTutor$WordList;") (List.mem_of_getElem? (i := 5) rfl)) (fun _ h9 => h9) rfl dX4_addWord_18 ?_
    refine zci (zrV (As := []) (rest := []) ⟨hx, hb, hml, hown, hts⟩ (zV 1 hP hD hK hE hB hS rfl rfl) (c_X3_isFull  (by omega)) (cwV 0 hts gX4_addWord_X3_isFull rfl rfl rfl hdv_X3_isFull ⟨Nat.le_of_ble_eq_true rfl, Nat.le_of_ble_eq_true rfl⟩) rfl rfl hl.1 rfl (lv_room (Nat.le_of_ble_eq_true rfl)) dX4_addWord_21 ⟨Nat.le_of_ble_eq_true rfl, Nat.le_of_ble_eq_true rfl⟩) hS (fun H locs hP hD hS => ?_)
    have hP : va_P D vwCl (zWT cI cJ h (n, L) (kt, km, kl) (pt, pm, pl) (nu, le, ow, fo, run, wc, lc, tr, cl, tm, ms) (yl, yc, yt, co, pa, su, sc) mc ++ R) _ := hP
    have hD : va_D (zAb B) (zWT cI cJ h (n, L) (kt, km, kl) (pt, pm, pl) (nu, le, ow, fo, run, wc, lc, tr, cl, tm, ms) (yl, yc, yt, co, pa, su, sc) mc ++ R) := hD
    refine lv_if_ne (tgt := 38) hx hb dX4_addWord_24 (by decide) (fun c_2 => ?_) (fun c_2 => ?_)
    · skip
      have c_2 := zq_n c_2
      exfalso; first | omega | (revert c_2; decide) | (exact absurd rfl c_2) | simp_all
    · skip
      have c_2 := zq_0 c_2
      refine lv_aload_n hx hb dX4_addWord_27 rfl (lv_at hl 0 rfl) ?_
      refine va_get (ci := 4) (v := .ref (h 1)) (C := RX4) (T := TX4) (N := 6) hx hb hts hinX4 hown hK hP 0 rfl rfl 0 (by decide) (hts (.fieldLink RX4 12 "TypingTutor" "list" "LTypingTutor$WordList;") (List.mem_of_getElem? (i := 5) rfl)) (fun _ h9 => h9) rfl dX4_addWord_28 ?_
      refine lv_lload_n hx hb dX4_addWord_31 rfl (lv_at hl 1 rfl) ?_
      refine zci (zrV (As := [.long w]) (rest := []) ⟨hx, hb, hml, hown, hts⟩ (zV 1 hP hD hK hE hB hS rfl rfl) (c_X3_holds  (by omega)) (cwV 1 hts gX4_addWord_X3_holds rfl rfl rfl hdv_X3_holds ⟨Nat.le_of_ble_eq_true rfl, Nat.le_of_ble_eq_true rfl⟩) rfl rfl hl.1 rfl (lv_room (Nat.le_of_ble_eq_true rfl)) dX4_addWord_32 ⟨Nat.le_of_ble_eq_true rfl, Nat.le_of_ble_eq_true rfl⟩) hS (fun H locs hP hD hS => ?_)
      have hP : va_P D vwCl (zWT cI cJ h (n, L) (kt, km, kl) (pt, pm, pl) (nu, le, ow, fo, run, wc, lc, tr, cl, tm, ms) (yl, yc, yt, co, pa, su, sc) mc ++ R) _ := hP
      have hD : va_D (zAb B) (zWT cI cJ h (n, L) (kt, km, kl) (pt, pm, pl) (nu, le, ow, fo, run, wc, lc, tr, cl, tm, ms) (yl, yc, yt, co, pa, su, sc) mc ++ R) := hD
      refine lv_if_eq (tgt := 48) hx hb dX4_addWord_35 (by decide) (fun c_3 => ?_) (fun c_3 => ?_)
      · skip
        have c_3 : (zhd L w n) = false := zb_0 c_3
        refine lv_aload_n hx hb dX4_addWord_48 rfl (lv_at hl 0 rfl) ?_
        refine va_get (ci := 4) (v := .ref (h 1)) (C := RX4) (T := TX4) (N := 6) hx hb hts hinX4 hown hK hP 0 rfl rfl 0 (by decide) (hts (.fieldLink RX4 12 "TypingTutor" "list" "LTypingTutor$WordList;") (List.mem_of_getElem? (i := 5) rfl)) (fun _ h9 => h9) rfl dX4_addWord_49 ?_
        refine lv_lload_n hx hb dX4_addWord_52 rfl (lv_at hl 1 rfl) ?_
        refine zci (zrV (As := [.long w]) (rest := []) ⟨hx, hb, hml, hown, hts⟩ (zV 1 hP hD hK hE hB hS rfl rfl) (c_X3_append  (by omega)) (cwV 1 hts gX4_addWord_X3_append rfl rfl rfl hdv_X3_append ⟨Nat.le_of_ble_eq_true rfl, Nat.le_of_ble_eq_true rfl⟩) rfl rfl hl.1 rfl (lv_room (Nat.le_of_ble_eq_true rfl)) dX4_addWord_53 ⟨Nat.le_of_ble_eq_true rfl, Nat.le_of_ble_eq_true rfl⟩) hS (fun H locs hP hD hS => ?_)
        have hP : va_P D vwCl (zWT cI cJ h ((n + 1), (vp_updL L n w)) (kt, km, kl) (pt, pm, pl) (nu, le, ow, fo, run, wc, lc, tr, cl, tm, ms) (yl, yc, yt, co, pa, su, sc) mc ++ R) _ := hP
        have hD : va_D (zAb B) (zWT cI cJ h ((n + 1), (vp_updL L n w)) (kt, km, kl) (pt, pm, pl) (nu, le, ow, fo, run, wc, lc, tr, cl, tm, ms) (yl, yc, yt, co, pa, su, sc) mc ++ R) := hD
        exact W.iret (v := (nI n)) hx hb hr (fun t ht hW => ⟨⟨_, (), rfl, rfl, by rw [ht]; exact hP, hD⟩, hS.F ht⟩) hS.2.2 dX4_addWord_56
      · skip
        have c_3 : (zhd L w n) = true := zb_n c_3
        exact absurd (c_3.symm.trans hh9) (by decide)
  · skip
    have c_1 : (zok w) = false := zb_0 c_1
    exact absurd (c_1.symm.trans hz) (by decide)

set_option maxHeartbeats 1000000 in
set_option maxRecDepth 100000 in
theorem c_X4_addWord_x1 {l : Launch} {B kr kp : Nat} {D : va_G} {cI cJ cZ : ClassId} {h : Nat → Nat} {R : va_W} {n : Nat} {L : Nat → Int64} {kt : Nat → Int32} {km : Nat → Int32} {kl : Nat → Int32} {pt : Nat → Int32} {pm : Nat → Int32} {pl : Nat → Int32} {nu : Nat → Int32} {le : Nat → Int32} {ow : Nat → Int32} {fo : Nat → Int32} {run : Bool} {wc : Nat} {lc : Nat} {tr : Nat} {cl : Nat} {tm : Nat} {ms : Nat} {yl : Nat → Int32} {yc : Nat → Int32} {yt : Nat → Int32} {co : Nat} {pa : Int32} {su : Nat} {sc : Nat} {mc : Nat → Int32} {w : Int64}   (hls : l.stackTraces = false) (hz : zok w = false) : vx_Met l yX4_addWord wsX4_addWord ({ frames := 6, cells := 1, slots := 6, locals := 82 }) (zPc B kr kp D (zTy cI cJ cZ) (zWT cI cJ h (n, L) (kt, km, kl) (pt, pm, pl) (nu, le, ow, fo, run, wc, lc, tr, cl, tm, ms) (yl, yc, yt, co, pa, su, sc) mc ++ R) [.ref (h 0), .long w]) (zQxi B D (zWT cI cJ h (n, L) (kt, km, kl) (pt, pm, pl) (nu, le, ow, fo, run, wc, lc, tr, cl, tm, ms) (yl, yc, yt, co, pa, su, sc) mc ++ R)) (zXC "java/lang/IllegalArgumentException" B D (zWT cI cJ h (n, L) (kt, km, kl) (pt, pm, pl) (nu, le, ow, fo, run, wc, lc, tr, cl, tm, ms) (yl, yc, yt, co, pa, su, sc) mc ++ R)) 1 6 (zAb B) := by
  refine vx_ofW (cc := cX4_addWord) (maxL := 3) (ret := (some .int)) (by decide) rfl ?_
  intro p e s m args below meth c s₁ B0 hml ht9 hv
  obtain ⟨rfl, hP, hD, hK, hE, hB⟩ := hv
  have hx := B0.exec
  have hb := B0.bytes
  have hr := B0.returns
  have hts := atoms_spec (ws := wsX4_addWord) B0.pre
  have hown : s.vm.findClass RX4 = some m.cls := findClass_of_methodNamed B0.named
  have hlocks := B0.notSynchronized
  have hA : ∀ q : Nat, s.heap.size ≤ q → zAb B q := fun q hq => Nat.le_trans hB hq
  have hS : va_S (zAb B) s.heap s.heap [] := va_S.rf
  have hgr : s.heap.size ≤ s.heap.size := Nat.le_refl _
  have hl := lv_entry ([.ref (h 0), .long w]) (n := 3) (Nat.le_of_ble_eq_true rfl)
  rw [lg_entry_eq]
  generalize (lg_sl ([.ref (h 0), .long w]) ++ List.replicate (3 - (lg_sl ([.ref (h 0), .long w])).length) Slot.unset).toArray = ls at hl ⊢
  have hl : lv_has ls 3 [(0, .ref (h 0)), (1, .long w)] := hl
  have hP : va_P D vwCl (zWT cI cJ h (n, L) (kt, km, kl) (pt, pm, pl) (nu, le, ow, fo, run, wc, lc, tr, cl, tm, ms) (yl, yc, yt, co, pa, su, sc) mc ++ R) s.heap := hP
  have hD : va_D (zAb B) (zWT cI cJ h (n, L) (kt, km, kl) (pt, pm, pl) (nu, le, ow, fo, run, wc, lc, tr, cl, tm, ms) (yl, yc, yt, co, pa, su, sc) mc ++ R) := hD
  refine lv_lload_n hx hb dX4_addWord_0 rfl (lv_at hl 1 rfl) ?_
  refine zci (zrS (As := [.long w]) (rest := []) ⟨hx, hb, hml, hown, hts⟩ (zS hP hD hK hE hB hS) (c_X4_tellsWord  ) (va_cwS 1 hts gX4_addWord_X4_tellsWord rfl rfl rfl hds_X4_tellsWord ⟨Nat.le_of_ble_eq_true rfl, Nat.le_of_ble_eq_true rfl⟩) rfl rfl hl.1 rfl (lv_room (Nat.le_of_ble_eq_true rfl)) dX4_addWord_1 ⟨Nat.le_of_ble_eq_true rfl, Nat.le_of_ble_eq_true rfl⟩) hS (fun H locs hP hD hS => ?_)
  have hP : va_P D vwCl (zWT cI cJ h (n, L) (kt, km, kl) (pt, pm, pl) (nu, le, ow, fo, run, wc, lc, tr, cl, tm, ms) (yl, yc, yt, co, pa, su, sc) mc ++ R) _ := hP
  have hD : va_D (zAb B) (zWT cI cJ h (n, L) (kt, km, kl) (pt, pm, pl) (nu, le, ow, fo, run, wc, lc, tr, cl, tm, ms) (yl, yc, yt, co, pa, su, sc) mc ++ R) := hD
  refine lv_if_ne (tgt := 17) hx hb dX4_addWord_4 (by decide) (fun c_1 => ?_) (fun c_1 => ?_)
  · skip
    have c_1 : (zok w) = true := zb_n c_1
    exact absurd (c_1.symm.trans hz) (by decide)
  · skip
    have c_1 : (zok w) = false := zb_0 c_1
    exact zthrow hx hb hls hown hE hP hD hS (hl.1.trans hml.symm) ht9 hlocks (by decide +kernel) (List.mem_of_getElem? (i := 0) rfl) (by decide +kernel) (hts (.classLink RX4 50 "java/lang/IllegalArgumentException") (List.mem_of_getElem? (i := 1) rfl)) (hts (.initialized "java/lang/IllegalArgumentException") (List.mem_of_getElem? (i := 2) rfl)) (fun w h9 => hts w (List.mem_cons_of_mem _ (List.mem_append_left _ (List.mem_append_right _ h9)))) (by decide +kernel) (by decide +kernel) dX4_addWord_7 dX4_addWord_10 dX4_addWord_11 dX4_addWord_13 dX4_addWord_16 ⟨Nat.le_of_ble_eq_true rfl, Nat.le_of_ble_eq_true rfl, Nat.le_of_ble_eq_true rfl, Nat.le_of_ble_eq_true rfl⟩

set_option maxHeartbeats 1000000 in
set_option maxRecDepth 100000 in
theorem c_X4_addWord_x2 {l : Launch} {B kr kp : Nat} {D : va_G} {cI cJ cZ : ClassId} {h : Nat → Nat} {R : va_W} {n : Nat} {L : Nat → Int64} {kt : Nat → Int32} {km : Nat → Int32} {kl : Nat → Int32} {pt : Nat → Int32} {pm : Nat → Int32} {pl : Nat → Int32} {nu : Nat → Int32} {le : Nat → Int32} {ow : Nat → Int32} {fo : Nat → Int32} {run : Bool} {wc : Nat} {lc : Nat} {tr : Nat} {cl : Nat} {tm : Nat} {ms : Nat} {yl : Nat → Int32} {yc : Nat → Int32} {yt : Nat → Int32} {co : Nat} {pa : Int32} {su : Nat} {sc : Nat} {mc : Nat → Int32} {w : Int64}   (hls : l.stackTraces = false) (hz : zok w = true) (hn : n ≤ 40) (hf : ¬ n < 40 ∨ zhd L w n = true) : vx_Met l yX4_addWord wsX4_addWord ({ frames := 6, cells := 1, slots := 6, locals := 82 }) (zPc B kr kp D (zTy cI cJ cZ) (zWT cI cJ h (n, L) (kt, km, kl) (pt, pm, pl) (nu, le, ow, fo, run, wc, lc, tr, cl, tm, ms) (yl, yc, yt, co, pa, su, sc) mc ++ R) [.ref (h 0), .long w]) (zQxi B D (zWT cI cJ h (n, L) (kt, km, kl) (pt, pm, pl) (nu, le, ow, fo, run, wc, lc, tr, cl, tm, ms) (yl, yc, yt, co, pa, su, sc) mc ++ R)) (zXC "java/lang/IllegalStateException" B D (zWT cI cJ h (n, L) (kt, km, kl) (pt, pm, pl) (nu, le, ow, fo, run, wc, lc, tr, cl, tm, ms) (yl, yc, yt, co, pa, su, sc) mc ++ R)) 1 6 (zAb B) := by
  refine vx_ofW (cc := cX4_addWord) (maxL := 3) (ret := (some .int)) (by decide) rfl ?_
  intro p e s m args below meth c s₁ B0 hml ht9 hv
  obtain ⟨rfl, hP, hD, hK, hE, hB⟩ := hv
  have hx := B0.exec
  have hb := B0.bytes
  have hr := B0.returns
  have hts := atoms_spec (ws := wsX4_addWord) B0.pre
  have hown : s.vm.findClass RX4 = some m.cls := findClass_of_methodNamed B0.named
  have hlocks := B0.notSynchronized
  have hA : ∀ q : Nat, s.heap.size ≤ q → zAb B q := fun q hq => Nat.le_trans hB hq
  have hS : va_S (zAb B) s.heap s.heap [] := va_S.rf
  have hgr : s.heap.size ≤ s.heap.size := Nat.le_refl _
  have hl := lv_entry ([.ref (h 0), .long w]) (n := 3) (Nat.le_of_ble_eq_true rfl)
  rw [lg_entry_eq]
  generalize (lg_sl ([.ref (h 0), .long w]) ++ List.replicate (3 - (lg_sl ([.ref (h 0), .long w])).length) Slot.unset).toArray = ls at hl ⊢
  have hl : lv_has ls 3 [(0, .ref (h 0)), (1, .long w)] := hl
  have hinX4 : ∀ w ∈ wsX40, w ∈ wsX4_addWord := fun _ h => List.mem_cons_of_mem _ (List.mem_append_left _ (List.mem_append_left _ (List.mem_append_left _ (List.mem_append_right _ h))))
  have hP : va_P D vwCl (zWT cI cJ h (n, L) (kt, km, kl) (pt, pm, pl) (nu, le, ow, fo, run, wc, lc, tr, cl, tm, ms) (yl, yc, yt, co, pa, su, sc) mc ++ R) s.heap := hP
  have hD : va_D (zAb B) (zWT cI cJ h (n, L) (kt, km, kl) (pt, pm, pl) (nu, le, ow, fo, run, wc, lc, tr, cl, tm, ms) (yl, yc, yt, co, pa, su, sc) mc ++ R) := hD
  refine lv_lload_n hx hb dX4_addWord_0 rfl (lv_at hl 1 rfl) ?_
  refine zci (zrS (As := [.long w]) (rest := []) ⟨hx, hb, hml, hown, hts⟩ (zS hP hD hK hE hB hS) (c_X4_tellsWord  ) (va_cwS 1 hts gX4_addWord_X4_tellsWord rfl rfl rfl hds_X4_tellsWord ⟨Nat.le_of_ble_eq_true rfl, Nat.le_of_ble_eq_true rfl⟩) rfl rfl hl.1 rfl (lv_room (Nat.le_of_ble_eq_true rfl)) dX4_addWord_1 ⟨Nat.le_of_ble_eq_true rfl, Nat.le_of_ble_eq_true rfl⟩) hS (fun H locs hP hD hS => ?_)
  have hP : va_P D vwCl (zWT cI cJ h (n, L) (kt, km, kl) (pt, pm, pl) (nu, le, ow, fo, run, wc, lc, tr, cl, tm, ms) (yl, yc, yt, co, pa, su, sc) mc ++ R) _ := hP
  have hD : va_D (zAb B) (zWT cI cJ h (n, L) (kt, km, kl) (pt, pm, pl) (nu, le, ow, fo, run, wc, lc, tr, cl, tm, ms) (yl, yc, yt, co, pa, su, sc) mc ++ R) := hD
  refine lv_if_ne (tgt := 17) hx hb dX4_addWord_4 (by decide) (fun c_1 => ?_) (fun c_1 => ?_)
  · skip
    have c_1 : (zok w) = true := zb_n c_1
    refine lv_aload_n hx hb dX4_addWord_17 rfl (lv_at hl 0 rfl) ?_
    refine va_get (ci := 4) (v := .ref (h 1)) (C := RX4) (T := TX4) (N := 6) hx hb hts hinX4 hown hK hP 0 rfl rfl 0 (by decide) (hts (.fieldLink RX4 12 "TypingTutor" "list" "LTypingTutor$WordList;") (List.mem_of_getElem? (i := 5) rfl)) (fun _ h9 => h9) rfl dX4_addWord_18 ?_
    refine zci (zrV (As := []) (rest := []) ⟨hx, hb, hml, hown, hts⟩ (zV 1 hP hD hK hE hB hS rfl rfl) (c_X3_isFull  (by omega)) (cwV 0 hts gX4_addWord_X3_isFull rfl rfl rfl hdv_X3_isFull ⟨Nat.le_of_ble_eq_true rfl, Nat.le_of_ble_eq_true rfl⟩) rfl rfl hl.1 rfl (lv_room (Nat.le_of_ble_eq_true rfl)) dX4_addWord_21 ⟨Nat.le_of_ble_eq_true rfl, Nat.le_of_ble_eq_true rfl⟩) hS (fun H locs hP hD hS => ?_)
    have hP : va_P D vwCl (zWT cI cJ h (n, L) (kt, km, kl) (pt, pm, pl) (nu, le, ow, fo, run, wc, lc, tr, cl, tm, ms) (yl, yc, yt, co, pa, su, sc) mc ++ R) _ := hP
    have hD : va_D (zAb B) (zWT cI cJ h (n, L) (kt, km, kl) (pt, pm, pl) (nu, le, ow, fo, run, wc, lc, tr, cl, tm, ms) (yl, yc, yt, co, pa, su, sc) mc ++ R) := hD
    refine lv_if_ne (tgt := 38) hx hb dX4_addWord_24 (by decide) (fun c_2 => ?_) (fun c_2 => ?_)
    · skip
      have c_2 := zq_n c_2
      exact zthrow hx hb hls hown hE hP hD hS (hl.1.trans hml.symm) ht9 hlocks (by decide +kernel) (List.mem_of_getElem? (i := 1) rfl) (by decide +kernel) (hts (.classLink RX4 64 "java/lang/IllegalStateException") (List.mem_of_getElem? (i := 3) rfl)) (hts (.initialized "java/lang/IllegalStateException") (List.mem_of_getElem? (i := 4) rfl)) (fun w h9 => hts w (List.mem_cons_of_mem _ (List.mem_append_right _ h9))) (by decide +kernel) (by decide +kernel) dX4_addWord_38 dX4_addWord_41 dX4_addWord_42 dX4_addWord_44 dX4_addWord_47 ⟨Nat.le_of_ble_eq_true rfl, Nat.le_of_ble_eq_true rfl, Nat.le_of_ble_eq_true rfl, Nat.le_of_ble_eq_true rfl⟩
    · skip
      have c_2 := zq_0 c_2
      refine lv_aload_n hx hb dX4_addWord_27 rfl (lv_at hl 0 rfl) ?_
      refine va_get (ci := 4) (v := .ref (h 1)) (C := RX4) (T := TX4) (N := 6) hx hb hts hinX4 hown hK hP 0 rfl rfl 0 (by decide) (hts (.fieldLink RX4 12 "TypingTutor" "list" "LTypingTutor$WordList;") (List.mem_of_getElem? (i := 5) rfl)) (fun _ h9 => h9) rfl dX4_addWord_28 ?_
      refine lv_lload_n hx hb dX4_addWord_31 rfl (lv_at hl 1 rfl) ?_
      refine zci (zrV (As := [.long w]) (rest := []) ⟨hx, hb, hml, hown, hts⟩ (zV 1 hP hD hK hE hB hS rfl rfl) (c_X3_holds  (by omega)) (cwV 1 hts gX4_addWord_X3_holds rfl rfl rfl hdv_X3_holds ⟨Nat.le_of_ble_eq_true rfl, Nat.le_of_ble_eq_true rfl⟩) rfl rfl hl.1 rfl (lv_room (Nat.le_of_ble_eq_true rfl)) dX4_addWord_32 ⟨Nat.le_of_ble_eq_true rfl, Nat.le_of_ble_eq_true rfl⟩) hS (fun H locs hP hD hS => ?_)
      have hP : va_P D vwCl (zWT cI cJ h (n, L) (kt, km, kl) (pt, pm, pl) (nu, le, ow, fo, run, wc, lc, tr, cl, tm, ms) (yl, yc, yt, co, pa, su, sc) mc ++ R) _ := hP
      have hD : va_D (zAb B) (zWT cI cJ h (n, L) (kt, km, kl) (pt, pm, pl) (nu, le, ow, fo, run, wc, lc, tr, cl, tm, ms) (yl, yc, yt, co, pa, su, sc) mc ++ R) := hD
      refine lv_if_eq (tgt := 48) hx hb dX4_addWord_35 (by decide) (fun c_3 => ?_) (fun c_3 => ?_)
      · skip
        have c_3 : (zhd L w n) = false := zb_0 c_3
        exact hf.elim (fun q => absurd (by omega) q) (fun q => absurd (c_3.symm.trans q) (by decide))
      · skip
        have c_3 : (zhd L w n) = true := zb_n c_3
        exact zthrow hx hb hls hown hE hP hD hS (hl.1.trans hml.symm) ht9 hlocks (by decide +kernel) (List.mem_of_getElem? (i := 1) rfl) (by decide +kernel) (hts (.classLink RX4 64 "java/lang/IllegalStateException") (List.mem_of_getElem? (i := 3) rfl)) (hts (.initialized "java/lang/IllegalStateException") (List.mem_of_getElem? (i := 4) rfl)) (fun w h9 => hts w (List.mem_cons_of_mem _ (List.mem_append_right _ h9))) (by decide +kernel) (by decide +kernel) dX4_addWord_38 dX4_addWord_41 dX4_addWord_42 dX4_addWord_44 dX4_addWord_47 ⟨Nat.le_of_ble_eq_true rfl, Nat.le_of_ble_eq_true rfl, Nat.le_of_ble_eq_true rfl, Nat.le_of_ble_eq_true rfl⟩
  · skip
    have c_1 : (zok w) = false := zb_0 c_1
    exact absurd (c_1.symm.trans hz) (by decide)

set_option maxHeartbeats 1000000 in
set_option maxRecDepth 100000 in
theorem c_X4_wordCount {l : Launch} {B kr kp : Nat} {D : va_G} {cI cJ cZ : ClassId} {h : Nat → Nat} {R : va_W} {n : Nat} {L : Nat → Int64} {kt : Nat → Int32} {km : Nat → Int32} {kl : Nat → Int32} {pt : Nat → Int32} {pm : Nat → Int32} {pl : Nat → Int32} {nu : Nat → Int32} {le : Nat → Int32} {ow : Nat → Int32} {fo : Nat → Int32} {run : Bool} {wc : Nat} {lc : Nat} {tr : Nat} {cl : Nat} {tm : Nat} {ms : Nat} {yl : Nat → Int32} {yc : Nat → Int32} {yt : Nat → Int32} {co : Nat} {pa : Int32} {su : Nat} {sc : Nat} {mc : Nat → Int32}     : Met l yX4_wordCount wsX4_wordCount ({ frames := 1, cells := 0, slots := 0, locals := 20 }) (zPc B kr kp D (zTy cI cJ cZ) (zWT cI cJ h (n, L) (kt, km, kl) (pt, pm, pl) (nu, le, ow, fo, run, wc, lc, tr, cl, tm, ms) (yl, yc, yt, co, pa, su, sc) mc ++ R) [.ref (h 0)]) (zQi B D (zWT cI cJ h (n, L) (kt, km, kl) (pt, pm, pl) (nu, le, ow, fo, run, wc, lc, tr, cl, tm, ms) (yl, yc, yt, co, pa, su, sc) mc ++ R) (nI n)) 0 0 (zAb B) := by
  refine Met.ofW (cc := cX4_wordCount) (maxL := 1) (ret := (some .int)) (by decide) rfl ?_
  intro p e s m args below meth c s₁ B0 hml hv
  obtain ⟨rfl, hP, hD, hK, hE, hB⟩ := hv
  have hx := B0.exec
  have hb := B0.bytes
  have hr := B0.returns
  have hts := atoms_spec (ws := wsX4_wordCount) B0.pre
  have hown : s.vm.findClass RX4 = some m.cls := findClass_of_methodNamed B0.named
  have hlocks := B0.notSynchronized
  have hA : ∀ q : Nat, s.heap.size ≤ q → zAb B q := fun q hq => Nat.le_trans hB hq
  have hS : va_S (zAb B) s.heap s.heap [] := va_S.rf
  have hgr : s.heap.size ≤ s.heap.size := Nat.le_refl _
  have hl := lv_entry ([.ref (h 0)]) (n := 1) (Nat.le_of_ble_eq_true rfl)
  rw [lg_entry_eq]
  generalize (lg_sl ([.ref (h 0)]) ++ List.replicate (1 - (lg_sl ([.ref (h 0)])).length) Slot.unset).toArray = ls at hl ⊢
  have hl : lv_has ls 1 [(0, .ref (h 0))] := hl
  have hinX4 : ∀ w ∈ wsX40, w ∈ wsX4_wordCount := fun _ h => List.mem_cons_of_mem _ (List.mem_append_left _ (List.mem_append_right _ h))
  have hP : va_P D vwCl (zWT cI cJ h (n, L) (kt, km, kl) (pt, pm, pl) (nu, le, ow, fo, run, wc, lc, tr, cl, tm, ms) (yl, yc, yt, co, pa, su, sc) mc ++ R) s.heap := hP
  have hD : va_D (zAb B) (zWT cI cJ h (n, L) (kt, km, kl) (pt, pm, pl) (nu, le, ow, fo, run, wc, lc, tr, cl, tm, ms) (yl, yc, yt, co, pa, su, sc) mc ++ R) := hD
  refine lv_aload_n hx hb dX4_wordCount_0 rfl (lv_at hl 0 rfl) ?_
  refine va_get (ci := 4) (v := .ref (h 1)) (C := RX4) (T := TX4) (N := 6) hx hb hts hinX4 hown hK hP 0 rfl rfl 0 (by decide) (hts (.fieldLink RX4 12 "TypingTutor" "list" "LTypingTutor$WordList;") (List.mem_of_getElem? (i := 1) rfl)) (fun _ h9 => h9) rfl dX4_wordCount_1 ?_
  refine zci (zrV (As := []) (rest := []) ⟨hx, hb, hml, hown, hts⟩ (zV 1 hP hD hK hE hB hS rfl rfl) (c_X3_size  ) (cwV 0 hts gX4_wordCount_X3_size rfl rfl rfl hdv_X3_size ⟨Nat.le_of_ble_eq_true rfl, Nat.le_of_ble_eq_true rfl⟩) rfl rfl hl.1 rfl (lv_room (Nat.le_of_ble_eq_true rfl)) dX4_wordCount_4 ⟨Nat.le_of_ble_eq_true rfl, Nat.le_of_ble_eq_true rfl⟩) hS (fun H locs hP hD hS => ?_)
  have hP : va_P D vwCl (zWT cI cJ h (n, L) (kt, km, kl) (pt, pm, pl) (nu, le, ow, fo, run, wc, lc, tr, cl, tm, ms) (yl, yc, yt, co, pa, su, sc) mc ++ R) _ := hP
  have hD : va_D (zAb B) (zWT cI cJ h (n, L) (kt, km, kl) (pt, pm, pl) (nu, le, ow, fo, run, wc, lc, tr, cl, tm, ms) (yl, yc, yt, co, pa, su, sc) mc ++ R) := hD
  exact W.iret (v := (nI n)) hx hb hr (fun t ht hW => ⟨⟨_, (), rfl, rfl, by rw [ht]; exact hP, hD⟩, hS.F ht⟩) hS.2.2 dX4_wordCount_7

set_option maxHeartbeats 1000000 in
set_option maxRecDepth 100000 in
theorem c_X4_word {l : Launch} {B kr kp : Nat} {D : va_G} {cI cJ cZ : ClassId} {h : Nat → Nat} {R : va_W} {n : Nat} {L : Nat → Int64} {kt : Nat → Int32} {km : Nat → Int32} {kl : Nat → Int32} {pt : Nat → Int32} {pm : Nat → Int32} {pl : Nat → Int32} {nu : Nat → Int32} {le : Nat → Int32} {ow : Nat → Int32} {fo : Nat → Int32} {run : Bool} {wc : Nat} {lc : Nat} {tr : Nat} {cl : Nat} {tm : Nat} {ms : Nat} {yl : Nat → Int32} {yc : Nat → Int32} {yt : Nat → Int32} {co : Nat} {pa : Int32} {su : Nat} {sc : Nat} {mc : Nat → Int32} {k : Nat}   (hk : k < n) (hn : n ≤ 40) : Met l yX4_word wsX4_word ({ frames := 1, cells := 0, slots := 0, locals := 21 }) (zPc B kr kp D (zTy cI cJ cZ) (zWT cI cJ h (n, L) (kt, km, kl) (pt, pm, pl) (nu, le, ow, fo, run, wc, lc, tr, cl, tm, ms) (yl, yc, yt, co, pa, su, sc) mc ++ R) [.ref (h 0), .int (nI k)]) (zQl B D (zWT cI cJ h (n, L) (kt, km, kl) (pt, pm, pl) (nu, le, ow, fo, run, wc, lc, tr, cl, tm, ms) (yl, yc, yt, co, pa, su, sc) mc ++ R) (L k)) 0 0 (zAb B) := by
  refine Met.ofW (cc := cX4_word) (maxL := 2) (ret := (some .long)) (by decide) rfl ?_
  intro p e s m args below meth c s₁ B0 hml hv
  obtain ⟨rfl, hP, hD, hK, hE, hB⟩ := hv
  have hx := B0.exec
  have hb := B0.bytes
  have hr := B0.returns
  have hts := atoms_spec (ws := wsX4_word) B0.pre
  have hown : s.vm.findClass RX4 = some m.cls := findClass_of_methodNamed B0.named
  have hlocks := B0.notSynchronized
  have hA : ∀ q : Nat, s.heap.size ≤ q → zAb B q := fun q hq => Nat.le_trans hB hq
  have hS : va_S (zAb B) s.heap s.heap [] := va_S.rf
  have hgr : s.heap.size ≤ s.heap.size := Nat.le_refl _
  have hl := lv_entry ([.ref (h 0), .int (nI k)]) (n := 2) (Nat.le_of_ble_eq_true rfl)
  rw [lg_entry_eq]
  generalize (lg_sl ([.ref (h 0), .int (nI k)]) ++ List.replicate (2 - (lg_sl ([.ref (h 0), .int (nI k)])).length) Slot.unset).toArray = ls at hl ⊢
  have hl : lv_has ls 2 [(0, .ref (h 0)), (1, .int (nI k))] := hl
  have hinX4 : ∀ w ∈ wsX40, w ∈ wsX4_word := fun _ h => List.mem_cons_of_mem _ (List.mem_append_left _ (List.mem_append_left _ (List.mem_append_right _ h)))
  have hP : va_P D vwCl (zWT cI cJ h (n, L) (kt, km, kl) (pt, pm, pl) (nu, le, ow, fo, run, wc, lc, tr, cl, tm, ms) (yl, yc, yt, co, pa, su, sc) mc ++ R) s.heap := hP
  have hD : va_D (zAb B) (zWT cI cJ h (n, L) (kt, km, kl) (pt, pm, pl) (nu, le, ow, fo, run, wc, lc, tr, cl, tm, ms) (yl, yc, yt, co, pa, su, sc) mc ++ R) := hD
  refine lv_aload_n hx hb dX4_word_0 rfl (lv_at hl 0 rfl) ?_
  refine va_get (ci := 4) (v := .ref (h 1)) (C := RX4) (T := TX4) (N := 6) hx hb hts hinX4 hown hK hP 0 rfl rfl 0 (by decide) (hts (.fieldLink RX4 12 "TypingTutor" "list" "LTypingTutor$WordList;") (List.mem_of_getElem? (i := 3) rfl)) (fun _ h9 => h9) rfl dX4_word_1 ?_
  refine lv_iload_n hx hb dX4_word_4 rfl (lv_at hl 1 rfl) ?_
  refine zci (zrV (As := [.int (nI k)]) (rest := []) ⟨hx, hb, hml, hown, hts⟩ (zV 1 hP hD hK hE hB hS rfl rfl) (c_X3_hasNumber (k := k) (by omega) (by omega)) (cwV 1 hts gX4_word_X3_hasNumber rfl rfl rfl hdv_X3_hasNumber ⟨Nat.le_of_ble_eq_true rfl, Nat.le_of_ble_eq_true rfl⟩) rfl rfl hl.1 rfl (lv_room (Nat.le_of_ble_eq_true rfl)) dX4_word_5 ⟨Nat.le_of_ble_eq_true rfl, Nat.le_of_ble_eq_true rfl⟩) hS (fun H locs hP hD hS => ?_)
  have hP : va_P D vwCl (zWT cI cJ h (n, L) (kt, km, kl) (pt, pm, pl) (nu, le, ow, fo, run, wc, lc, tr, cl, tm, ms) (yl, yc, yt, co, pa, su, sc) mc ++ R) _ := hP
  have hD : va_D (zAb B) (zWT cI cJ h (n, L) (kt, km, kl) (pt, pm, pl) (nu, le, ow, fo, run, wc, lc, tr, cl, tm, ms) (yl, yc, yt, co, pa, su, sc) mc ++ R) := hD
  refine lv_if_ne (tgt := 21) hx hb dX4_word_8 (by decide) (fun c_1 => ?_) (fun c_1 => ?_)
  · skip
    refine lv_aload_n hx hb dX4_word_21 rfl (lv_at hl 0 rfl) ?_
    refine va_get (ci := 4) (v := .ref (h 1)) (C := RX4) (T := TX4) (N := 6) hx hb hts hinX4 hown hK hP 0 rfl rfl 0 (by decide) (hts (.fieldLink RX4 12 "TypingTutor" "list" "LTypingTutor$WordList;") (List.mem_of_getElem? (i := 3) rfl)) (fun _ h9 => h9) rfl dX4_word_22 ?_
    refine lv_iload_n hx hb dX4_word_25 rfl (lv_at hl 1 rfl) ?_
    refine zcl (zrV (As := [.int (nI k)]) (rest := []) ⟨hx, hb, hml, hown, hts⟩ (zV 1 hP hD hK hE hB hS rfl rfl) (c_X3_wordAt (k := k) (by omega)) (cwV 1 hts gX4_word_X3_wordAt rfl rfl rfl hdv_X3_wordAt ⟨Nat.le_of_ble_eq_true rfl, Nat.le_of_ble_eq_true rfl⟩) rfl rfl hl.1 rfl (lv_room (Nat.le_of_ble_eq_true rfl)) dX4_word_26 ⟨Nat.le_of_ble_eq_true rfl, Nat.le_of_ble_eq_true rfl⟩) hS (fun H locs hP hD hS => ?_)
    have hP : va_P D vwCl (zWT cI cJ h (n, L) (kt, km, kl) (pt, pm, pl) (nu, le, ow, fo, run, wc, lc, tr, cl, tm, ms) (yl, yc, yt, co, pa, su, sc) mc ++ R) _ := hP
    have hD : va_D (zAb B) (zWT cI cJ h (n, L) (kt, km, kl) (pt, pm, pl) (nu, le, ow, fo, run, wc, lc, tr, cl, tm, ms) (yl, yc, yt, co, pa, su, sc) mc ++ R) := hD
    exact W.lret (v := (L k)) hx hb hr (fun t ht hW => ⟨⟨_, (), rfl, rfl, by rw [ht]; exact hP, hD⟩, hS.F ht⟩) hS.2.2 dX4_word_29
  · skip
    exfalso; first | omega | (revert c_1; decide) | (exact absurd rfl c_1) | simp_all

set_option maxHeartbeats 1000000 in
set_option maxRecDepth 100000 in
theorem c_X4_word_x {l : Launch} {B kr kp : Nat} {D : va_G} {cI cJ cZ : ClassId} {h : Nat → Nat} {R : va_W} {n : Nat} {L : Nat → Int64} {kt : Nat → Int32} {km : Nat → Int32} {kl : Nat → Int32} {pt : Nat → Int32} {pm : Nat → Int32} {pl : Nat → Int32} {nu : Nat → Int32} {le : Nat → Int32} {ow : Nat → Int32} {fo : Nat → Int32} {run : Bool} {wc : Nat} {lc : Nat} {tr : Nat} {cl : Nat} {tm : Nat} {ms : Nat} {yl : Nat → Int32} {yc : Nat → Int32} {yt : Nat → Int32} {co : Nat} {pa : Int32} {su : Nat} {sc : Nat} {mc : Nat → Int32} {i : Int32}   (hls : l.stackTraces = false) (hi : i < 0 ∨ nI n ≤ i) (hn : n ≤ 40) : vx_Met l yX4_word wsX4_word ({ frames := 6, cells := 1, slots := 6, locals := 82 }) (zPc B kr kp D (zTy cI cJ cZ) (zWT cI cJ h (n, L) (kt, km, kl) (pt, pm, pl) (nu, le, ow, fo, run, wc, lc, tr, cl, tm, ms) (yl, yc, yt, co, pa, su, sc) mc ++ R) [.ref (h 0), .int i]) (zQxl B D (zWT cI cJ h (n, L) (kt, km, kl) (pt, pm, pl) (nu, le, ow, fo, run, wc, lc, tr, cl, tm, ms) (yl, yc, yt, co, pa, su, sc) mc ++ R)) (zXC "java/lang/IndexOutOfBoundsException" B D (zWT cI cJ h (n, L) (kt, km, kl) (pt, pm, pl) (nu, le, ow, fo, run, wc, lc, tr, cl, tm, ms) (yl, yc, yt, co, pa, su, sc) mc ++ R)) 1 6 (zAb B) := by
  refine vx_ofW (cc := cX4_word) (maxL := 2) (ret := (some .long)) (by decide) rfl ?_
  intro p e s m args below meth c s₁ B0 hml ht9 hv
  obtain ⟨rfl, hP, hD, hK, hE, hB⟩ := hv
  have hx := B0.exec
  have hb := B0.bytes
  have hr := B0.returns
  have hts := atoms_spec (ws := wsX4_word) B0.pre
  have hown : s.vm.findClass RX4 = some m.cls := findClass_of_methodNamed B0.named
  have hlocks := B0.notSynchronized
  have hA : ∀ q : Nat, s.heap.size ≤ q → zAb B q := fun q hq => Nat.le_trans hB hq
  have hS : va_S (zAb B) s.heap s.heap [] := va_S.rf
  have hgr : s.heap.size ≤ s.heap.size := Nat.le_refl _
  have hl := lv_entry ([.ref (h 0), .int i]) (n := 2) (Nat.le_of_ble_eq_true rfl)
  rw [lg_entry_eq]
  generalize (lg_sl ([.ref (h 0), .int i]) ++ List.replicate (2 - (lg_sl ([.ref (h 0), .int i])).length) Slot.unset).toArray = ls at hl ⊢
  have hl : lv_has ls 2 [(0, .ref (h 0)), (1, .int i)] := hl
  have hinX4 : ∀ w ∈ wsX40, w ∈ wsX4_word := fun _ h => List.mem_cons_of_mem _ (List.mem_append_left _ (List.mem_append_left _ (List.mem_append_right _ h)))
  have hP : va_P D vwCl (zWT cI cJ h (n, L) (kt, km, kl) (pt, pm, pl) (nu, le, ow, fo, run, wc, lc, tr, cl, tm, ms) (yl, yc, yt, co, pa, su, sc) mc ++ R) s.heap := hP
  have hD : va_D (zAb B) (zWT cI cJ h (n, L) (kt, km, kl) (pt, pm, pl) (nu, le, ow, fo, run, wc, lc, tr, cl, tm, ms) (yl, yc, yt, co, pa, su, sc) mc ++ R) := hD
  refine lv_aload_n hx hb dX4_word_0 rfl (lv_at hl 0 rfl) ?_
  refine va_get (ci := 4) (v := .ref (h 1)) (C := RX4) (T := TX4) (N := 6) hx hb hts hinX4 hown hK hP 0 rfl rfl 0 (by decide) (hts (.fieldLink RX4 12 "TypingTutor" "list" "LTypingTutor$WordList;") (List.mem_of_getElem? (i := 3) rfl)) (fun _ h9 => h9) rfl dX4_word_1 ?_
  refine lv_iload_n hx hb dX4_word_4 rfl (lv_at hl 1 rfl) ?_
  refine zci (zrV (As := [.int i]) (rest := []) ⟨hx, hb, hml, hown, hts⟩ (zV 1 hP hD hK hE hB hS rfl rfl) (c_X3_hasNumber_x  (hi) (hn)) (cwV 1 hts gX4_word_X3_hasNumber rfl rfl rfl hdv_X3_hasNumber ⟨Nat.le_of_ble_eq_true rfl, Nat.le_of_ble_eq_true rfl⟩) rfl rfl hl.1 rfl (lv_room (Nat.le_of_ble_eq_true rfl)) dX4_word_5 ⟨Nat.le_of_ble_eq_true rfl, Nat.le_of_ble_eq_true rfl⟩) hS (fun H locs hP hD hS => ?_)
  have hP : va_P D vwCl (zWT cI cJ h (n, L) (kt, km, kl) (pt, pm, pl) (nu, le, ow, fo, run, wc, lc, tr, cl, tm, ms) (yl, yc, yt, co, pa, su, sc) mc ++ R) _ := hP
  have hD : va_D (zAb B) (zWT cI cJ h (n, L) (kt, km, kl) (pt, pm, pl) (nu, le, ow, fo, run, wc, lc, tr, cl, tm, ms) (yl, yc, yt, co, pa, su, sc) mc ++ R) := hD
  refine lv_if_ne (tgt := 21) hx hb dX4_word_8 (by decide) (fun c_1 => ?_) (fun c_1 => ?_)
  · skip
    exfalso; first | omega | (revert c_1; decide) | (exact absurd rfl c_1) | simp_all
  · skip
    exact zthrow hx hb hls hown hE hP hD hS (hl.1.trans hml.symm) ht9 hlocks (by decide +kernel) (List.mem_of_getElem? (i := 2) rfl) (by decide +kernel) (hts (.classLink RX4 81 "java/lang/IndexOutOfBoundsException") (List.mem_of_getElem? (i := 1) rfl)) (hts (.initialized "java/lang/IndexOutOfBoundsException") (List.mem_of_getElem? (i := 2) rfl)) (fun w h9 => hts w (List.mem_cons_of_mem _ (List.mem_append_right _ h9))) (by decide +kernel) (by decide +kernel) dX4_word_11 dX4_word_14 dX4_word_15 dX4_word_17 dX4_word_20 ⟨Nat.le_of_ble_eq_true rfl, Nat.le_of_ble_eq_true rfl, Nat.le_of_ble_eq_true rfl, Nat.le_of_ble_eq_true rfl⟩

set_option maxHeartbeats 1000000 in
set_option maxRecDepth 100000 in
theorem c_X4_weight {l : Launch} {B kr kp : Nat} {D : va_G} {cI cJ cZ : ClassId} {h : Nat → Nat} {R : va_W} {n : Nat} {L : Nat → Int64} {kt : Nat → Int32} {km : Nat → Int32} {kl : Nat → Int32} {pt : Nat → Int32} {pm : Nat → Int32} {pl : Nat → Int32} {nu : Nat → Int32} {le : Nat → Int32} {ow : Nat → Int32} {fo : Nat → Int32} {run : Bool} {wc : Nat} {lc : Nat} {tr : Nat} {cl : Nat} {tm : Nat} {ms : Nat} {yl : Nat → Int32} {yc : Nat → Int32} {yt : Nat → Int32} {co : Nat} {pa : Int32} {su : Nat} {sc : Nat} {mc : Nat → Int32} {k : Nat}   (hk : k < n) (hn : n ≤ 40) (hL : 0 < zsz (L k)) : Met l yX4_weight wsX4_weight ({ frames := 4, cells := 0, slots := 0, locals := 89 }) (zPc B kr kp D (zTy cI cJ cZ) (zWT cI cJ h (n, L) (kt, km, kl) (pt, pm, pl) (nu, le, ow, fo, run, wc, lc, tr, cl, tm, ms) (yl, yc, yt, co, pa, su, sc) mc ++ R) [.ref (h 0), .int (nI k)]) (zQi B D (zWT cI cJ h (n, L) (kt, km, kl) (pt, pm, pl) (nu, le, ow, fo, run, wc, lc, tr, cl, tm, ms) (yl, yc, yt, co, pa, su, sc) mc ++ R) (zwg kl pt pl (L k))) 0 0 (zAb B) := by
  refine Met.ofW (cc := cX4_weight) (maxL := 2) (ret := (some .int)) (by decide) rfl ?_
  intro p e s m args below meth c s₁ B0 hml hv
  obtain ⟨rfl, hP, hD, hK, hE, hB⟩ := hv
  have hx := B0.exec
  have hb := B0.bytes
  have hr := B0.returns
  have hts := atoms_spec (ws := wsX4_weight) B0.pre
  have hown : s.vm.findClass RX4 = some m.cls := findClass_of_methodNamed B0.named
  have hlocks := B0.notSynchronized
  have hA : ∀ q : Nat, s.heap.size ≤ q → zAb B q := fun q hq => Nat.le_trans hB hq
  have hS : va_S (zAb B) s.heap s.heap [] := va_S.rf
  have hgr : s.heap.size ≤ s.heap.size := Nat.le_refl _
  have hl := lv_entry ([.ref (h 0), .int (nI k)]) (n := 2) (Nat.le_of_ble_eq_true rfl)
  rw [lg_entry_eq]
  generalize (lg_sl ([.ref (h 0), .int (nI k)]) ++ List.replicate (2 - (lg_sl ([.ref (h 0), .int (nI k)])).length) Slot.unset).toArray = ls at hl ⊢
  have hl : lv_has ls 2 [(0, .ref (h 0)), (1, .int (nI k))] := hl
  have hinX4 : ∀ w ∈ wsX40, w ∈ wsX4_weight := fun _ h => List.mem_cons_of_mem _ (List.mem_append_left _ (List.mem_append_left _ (List.mem_append_left _ (List.mem_append_right _ h))))
  have hP : va_P D vwCl (zWT cI cJ h (n, L) (kt, km, kl) (pt, pm, pl) (nu, le, ow, fo, run, wc, lc, tr, cl, tm, ms) (yl, yc, yt, co, pa, su, sc) mc ++ R) s.heap := hP
  have hD : va_D (zAb B) (zWT cI cJ h (n, L) (kt, km, kl) (pt, pm, pl) (nu, le, ow, fo, run, wc, lc, tr, cl, tm, ms) (yl, yc, yt, co, pa, su, sc) mc ++ R) := hD
  refine lv_aload_n hx hb dX4_weight_0 rfl (lv_at hl 0 rfl) ?_
  refine va_get (ci := 4) (v := .ref (h 1)) (C := RX4) (T := TX4) (N := 6) hx hb hts hinX4 hown hK hP 0 rfl rfl 0 (by decide) (hts (.fieldLink RX4 12 "TypingTutor" "list" "LTypingTutor$WordList;") (List.mem_of_getElem? (i := 3) rfl)) (fun _ h9 => h9) rfl dX4_weight_1 ?_
  refine lv_iload_n hx hb dX4_weight_4 rfl (lv_at hl 1 rfl) ?_
  refine zci (zrV (As := [.int (nI k)]) (rest := []) ⟨hx, hb, hml, hown, hts⟩ (zV 1 hP hD hK hE hB hS rfl rfl) (c_X3_hasNumber (k := k) (by omega) (by omega)) (cwV 1 hts gX4_weight_X3_hasNumber rfl rfl rfl hdv_X3_hasNumber ⟨Nat.le_of_ble_eq_true rfl, Nat.le_of_ble_eq_true rfl⟩) rfl rfl hl.1 rfl (lv_room (Nat.le_of_ble_eq_true rfl)) dX4_weight_5 ⟨Nat.le_of_ble_eq_true rfl, Nat.le_of_ble_eq_true rfl⟩) hS (fun H locs hP hD hS => ?_)
  have hP : va_P D vwCl (zWT cI cJ h (n, L) (kt, km, kl) (pt, pm, pl) (nu, le, ow, fo, run, wc, lc, tr, cl, tm, ms) (yl, yc, yt, co, pa, su, sc) mc ++ R) _ := hP
  have hD : va_D (zAb B) (zWT cI cJ h (n, L) (kt, km, kl) (pt, pm, pl) (nu, le, ow, fo, run, wc, lc, tr, cl, tm, ms) (yl, yc, yt, co, pa, su, sc) mc ++ R) := hD
  refine lv_if_ne (tgt := 21) hx hb dX4_weight_8 (by decide) (fun c_1 => ?_) (fun c_1 => ?_)
  · skip
    refine lv_aload_n hx hb dX4_weight_21 rfl (lv_at hl 0 rfl) ?_
    refine lv_aload_n hx hb dX4_weight_22 rfl (lv_at hl 0 rfl) ?_
    refine va_get (ci := 4) (v := .ref (h 1)) (C := RX4) (T := TX4) (N := 6) hx hb hts hinX4 hown hK hP 0 rfl rfl 0 (by decide) (hts (.fieldLink RX4 12 "TypingTutor" "list" "LTypingTutor$WordList;") (List.mem_of_getElem? (i := 3) rfl)) (fun _ h9 => h9) rfl dX4_weight_23 ?_
    refine lv_iload_n hx hb dX4_weight_26 rfl (lv_at hl 1 rfl) ?_
    refine zcl (zrV (As := [.int (nI k)]) (rest := [.ref (h 0)]) ⟨hx, hb, hml, hown, hts⟩ (zV 1 hP hD hK hE hB hS rfl rfl) (c_X3_wordAt (k := k) (by omega)) (cwV 1 hts gX4_weight_X3_wordAt rfl rfl rfl hdv_X3_wordAt ⟨Nat.le_of_ble_eq_true rfl, Nat.le_of_ble_eq_true rfl⟩) rfl rfl hl.1 rfl (lv_room (Nat.le_of_ble_eq_true rfl)) dX4_weight_27 ⟨Nat.le_of_ble_eq_true rfl, Nat.le_of_ble_eq_true rfl⟩) hS (fun H locs hP hD hS => ?_)
    have hP : va_P D vwCl (zWT cI cJ h (n, L) (kt, km, kl) (pt, pm, pl) (nu, le, ow, fo, run, wc, lc, tr, cl, tm, ms) (yl, yc, yt, co, pa, su, sc) mc ++ R) _ := hP
    have hD : va_D (zAb B) (zWT cI cJ h (n, L) (kt, km, kl) (pt, pm, pl) (nu, le, ow, fo, run, wc, lc, tr, cl, tm, ms) (yl, yc, yt, co, pa, su, sc) mc ++ R) := hD
    refine zci (zrV (As := [.long (L k)]) (rest := []) ⟨hx, hb, hml, hown, hts⟩ (zV 0 hP hD hK hE hB hS rfl rfl) (c_X4_weightOf  (hL)) (cwV 1 hts gX4_weight_X4_weightOf rfl rfl rfl hdv_X4_weightOf ⟨Nat.le_of_ble_eq_true rfl, Nat.le_of_ble_eq_true rfl⟩) rfl rfl hl.1 rfl (lv_room (Nat.le_of_ble_eq_true rfl)) dX4_weight_30 ⟨Nat.le_of_ble_eq_true rfl, Nat.le_of_ble_eq_true rfl⟩) hS (fun H locs hP hD hS => ?_)
    have hP : va_P D vwCl (zWT cI cJ h (n, L) (kt, km, kl) (pt, pm, pl) (nu, le, ow, fo, run, wc, lc, tr, cl, tm, ms) (yl, yc, yt, co, pa, su, sc) mc ++ R) _ := hP
    have hD : va_D (zAb B) (zWT cI cJ h (n, L) (kt, km, kl) (pt, pm, pl) (nu, le, ow, fo, run, wc, lc, tr, cl, tm, ms) (yl, yc, yt, co, pa, su, sc) mc ++ R) := hD
    exact W.iret (v := (zwg kl pt pl (L k))) hx hb hr (fun t ht hW => ⟨⟨_, (), rfl, rfl, by rw [ht]; exact hP, hD⟩, hS.F ht⟩) hS.2.2 dX4_weight_33
  · skip
    exfalso; first | omega | (revert c_1; decide) | (exact absurd rfl c_1) | simp_all

set_option maxHeartbeats 1000000 in
set_option maxRecDepth 100000 in
theorem c_X4_weight_x {l : Launch} {B kr kp : Nat} {D : va_G} {cI cJ cZ : ClassId} {h : Nat → Nat} {R : va_W} {n : Nat} {L : Nat → Int64} {kt : Nat → Int32} {km : Nat → Int32} {kl : Nat → Int32} {pt : Nat → Int32} {pm : Nat → Int32} {pl : Nat → Int32} {nu : Nat → Int32} {le : Nat → Int32} {ow : Nat → Int32} {fo : Nat → Int32} {run : Bool} {wc : Nat} {lc : Nat} {tr : Nat} {cl : Nat} {tm : Nat} {ms : Nat} {yl : Nat → Int32} {yc : Nat → Int32} {yt : Nat → Int32} {co : Nat} {pa : Int32} {su : Nat} {sc : Nat} {mc : Nat → Int32} {i : Int32}   (hls : l.stackTraces = false) (hi : i < 0 ∨ nI n ≤ i) (hn : n ≤ 40) : vx_Met l yX4_weight wsX4_weight ({ frames := 6, cells := 1, slots := 6, locals := 82 }) (zPc B kr kp D (zTy cI cJ cZ) (zWT cI cJ h (n, L) (kt, km, kl) (pt, pm, pl) (nu, le, ow, fo, run, wc, lc, tr, cl, tm, ms) (yl, yc, yt, co, pa, su, sc) mc ++ R) [.ref (h 0), .int i]) (zQxi B D (zWT cI cJ h (n, L) (kt, km, kl) (pt, pm, pl) (nu, le, ow, fo, run, wc, lc, tr, cl, tm, ms) (yl, yc, yt, co, pa, su, sc) mc ++ R)) (zXC "java/lang/IndexOutOfBoundsException" B D (zWT cI cJ h (n, L) (kt, km, kl) (pt, pm, pl) (nu, le, ow, fo, run, wc, lc, tr, cl, tm, ms) (yl, yc, yt, co, pa, su, sc) mc ++ R)) 1 6 (zAb B) := by
  refine vx_ofW (cc := cX4_weight) (maxL := 2) (ret := (some .int)) (by decide) rfl ?_
  intro p e s m args below meth c s₁ B0 hml ht9 hv
  obtain ⟨rfl, hP, hD, hK, hE, hB⟩ := hv
  have hx := B0.exec
  have hb := B0.bytes
  have hr := B0.returns
  have hts := atoms_spec (ws := wsX4_weight) B0.pre
  have hown : s.vm.findClass RX4 = some m.cls := findClass_of_methodNamed B0.named
  have hlocks := B0.notSynchronized
  have hA : ∀ q : Nat, s.heap.size ≤ q → zAb B q := fun q hq => Nat.le_trans hB hq
  have hS : va_S (zAb B) s.heap s.heap [] := va_S.rf
  have hgr : s.heap.size ≤ s.heap.size := Nat.le_refl _
  have hl := lv_entry ([.ref (h 0), .int i]) (n := 2) (Nat.le_of_ble_eq_true rfl)
  rw [lg_entry_eq]
  generalize (lg_sl ([.ref (h 0), .int i]) ++ List.replicate (2 - (lg_sl ([.ref (h 0), .int i])).length) Slot.unset).toArray = ls at hl ⊢
  have hl : lv_has ls 2 [(0, .ref (h 0)), (1, .int i)] := hl
  have hinX4 : ∀ w ∈ wsX40, w ∈ wsX4_weight := fun _ h => List.mem_cons_of_mem _ (List.mem_append_left _ (List.mem_append_left _ (List.mem_append_left _ (List.mem_append_right _ h))))
  have hP : va_P D vwCl (zWT cI cJ h (n, L) (kt, km, kl) (pt, pm, pl) (nu, le, ow, fo, run, wc, lc, tr, cl, tm, ms) (yl, yc, yt, co, pa, su, sc) mc ++ R) s.heap := hP
  have hD : va_D (zAb B) (zWT cI cJ h (n, L) (kt, km, kl) (pt, pm, pl) (nu, le, ow, fo, run, wc, lc, tr, cl, tm, ms) (yl, yc, yt, co, pa, su, sc) mc ++ R) := hD
  refine lv_aload_n hx hb dX4_weight_0 rfl (lv_at hl 0 rfl) ?_
  refine va_get (ci := 4) (v := .ref (h 1)) (C := RX4) (T := TX4) (N := 6) hx hb hts hinX4 hown hK hP 0 rfl rfl 0 (by decide) (hts (.fieldLink RX4 12 "TypingTutor" "list" "LTypingTutor$WordList;") (List.mem_of_getElem? (i := 3) rfl)) (fun _ h9 => h9) rfl dX4_weight_1 ?_
  refine lv_iload_n hx hb dX4_weight_4 rfl (lv_at hl 1 rfl) ?_
  refine zci (zrV (As := [.int i]) (rest := []) ⟨hx, hb, hml, hown, hts⟩ (zV 1 hP hD hK hE hB hS rfl rfl) (c_X3_hasNumber_x  (hi) (hn)) (cwV 1 hts gX4_weight_X3_hasNumber rfl rfl rfl hdv_X3_hasNumber ⟨Nat.le_of_ble_eq_true rfl, Nat.le_of_ble_eq_true rfl⟩) rfl rfl hl.1 rfl (lv_room (Nat.le_of_ble_eq_true rfl)) dX4_weight_5 ⟨Nat.le_of_ble_eq_true rfl, Nat.le_of_ble_eq_true rfl⟩) hS (fun H locs hP hD hS => ?_)
  have hP : va_P D vwCl (zWT cI cJ h (n, L) (kt, km, kl) (pt, pm, pl) (nu, le, ow, fo, run, wc, lc, tr, cl, tm, ms) (yl, yc, yt, co, pa, su, sc) mc ++ R) _ := hP
  have hD : va_D (zAb B) (zWT cI cJ h (n, L) (kt, km, kl) (pt, pm, pl) (nu, le, ow, fo, run, wc, lc, tr, cl, tm, ms) (yl, yc, yt, co, pa, su, sc) mc ++ R) := hD
  refine lv_if_ne (tgt := 21) hx hb dX4_weight_8 (by decide) (fun c_1 => ?_) (fun c_1 => ?_)
  · skip
    exfalso; first | omega | (revert c_1; decide) | (exact absurd rfl c_1) | simp_all
  · skip
    exact zthrow hx hb hls hown hE hP hD hS (hl.1.trans hml.symm) ht9 hlocks (by decide +kernel) (List.mem_of_getElem? (i := 2) rfl) (by decide +kernel) (hts (.classLink RX4 81 "java/lang/IndexOutOfBoundsException") (List.mem_of_getElem? (i := 1) rfl)) (hts (.initialized "java/lang/IndexOutOfBoundsException") (List.mem_of_getElem? (i := 2) rfl)) (fun w h9 => hts w (List.mem_cons_of_mem _ (List.mem_append_right _ h9))) (by decide +kernel) (by decide +kernel) dX4_weight_11 dX4_weight_14 dX4_weight_15 dX4_weight_17 dX4_weight_20 ⟨Nat.le_of_ble_eq_true rfl, Nat.le_of_ble_eq_true rfl, Nat.le_of_ble_eq_true rfl, Nat.le_of_ble_eq_true rfl⟩

set_option maxHeartbeats 1000000 in
set_option maxRecDepth 100000 in
theorem c_X4_areNeighbours {l : Launch} {B kr kp : Nat} {D : va_G} {cI cJ cZ : ClassId} {h : Nat → Nat} {R : va_W} {n : Nat} {L : Nat → Int64} {kt : Nat → Int32} {km : Nat → Int32} {kl : Nat → Int32} {pt : Nat → Int32} {pm : Nat → Int32} {pl : Nat → Int32} {nu : Nat → Int32} {le : Nat → Int32} {ow : Nat → Int32} {fo : Nat → Int32} {run : Bool} {wc : Nat} {lc : Nat} {tr : Nat} {cl : Nat} {tm : Nat} {ms : Nat} {yl : Nat → Int32} {yc : Nat → Int32} {yt : Nat → Int32} {co : Nat} {pa : Int32} {su : Nat} {sc : Nat} {mc : Nat → Int32} {a : Int32} {b : Int32}   (h1 : ¬ a < 0 ∧ ¬ 26 ≤ a) (h2 : ¬ b < 0 ∧ ¬ 26 ≤ b) : Met l yX4_areNeighbours wsX4_areNeighbours ({ frames := 2, cells := 0, slots := 0, locals := 47 }) (zPc B kr kp D (zTy cI cJ cZ) (zWT cI cJ h (n, L) (kt, km, kl) (pt, pm, pl) (nu, le, ow, fo, run, wc, lc, tr, cl, tm, ms) (yl, yc, yt, co, pa, su, sc) mc ++ R) [.ref (h 0), .int a, .int b]) (zQi B D (zWT cI cJ h (n, L) (kt, km, kl) (pt, pm, pl) (nu, le, ow, fo, run, wc, lc, tr, cl, tm, ms) (yl, yc, yt, co, pa, su, sc) mc ++ R) (zb (zst a b))) 0 0 (zAb B) := by
  refine Met.ofW (cc := cX4_areNeighbours) (maxL := 3) (ret := (some .boolean)) (by decide) rfl ?_
  intro p e s m args below meth c s₁ B0 hml hv
  obtain ⟨rfl, hP, hD, hK, hE, hB⟩ := hv
  have hx := B0.exec
  have hb := B0.bytes
  have hr := B0.returns
  have hts := atoms_spec (ws := wsX4_areNeighbours) B0.pre
  have hown : s.vm.findClass RX4 = some m.cls := findClass_of_methodNamed B0.named
  have hlocks := B0.notSynchronized
  have hA : ∀ q : Nat, s.heap.size ≤ q → zAb B q := fun q hq => Nat.le_trans hB hq
  have hS : va_S (zAb B) s.heap s.heap [] := va_S.rf
  have hgr : s.heap.size ≤ s.heap.size := Nat.le_refl _
  have hl := lv_entry ([.ref (h 0), .int a, .int b]) (n := 3) (Nat.le_of_ble_eq_true rfl)
  rw [lg_entry_eq]
  generalize (lg_sl ([.ref (h 0), .int a, .int b]) ++ List.replicate (3 - (lg_sl ([.ref (h 0), .int a, .int b])).length) Slot.unset).toArray = ls at hl ⊢
  have hl : lv_has ls 3 [(0, .ref (h 0)), (1, .int a), (2, .int b)] := hl
  have hP : va_P D vwCl (zWT cI cJ h (n, L) (kt, km, kl) (pt, pm, pl) (nu, le, ow, fo, run, wc, lc, tr, cl, tm, ms) (yl, yc, yt, co, pa, su, sc) mc ++ R) s.heap := hP
  have hD : va_D (zAb B) (zWT cI cJ h (n, L) (kt, km, kl) (pt, pm, pl) (nu, le, ow, fo, run, wc, lc, tr, cl, tm, ms) (yl, yc, yt, co, pa, su, sc) mc ++ R) := hD
  refine lv_iload_n hx hb dX4_areNeighbours_0 rfl (lv_at hl 1 rfl) ?_
  refine zci (zrS (As := [.int a]) (rest := []) ⟨hx, hb, hml, hown, hts⟩ (zS hP hD hK hE hB hS) (c_X4_isKey  ) (va_cwS 1 hts gX4_areNeighbours_X4_isKey rfl rfl rfl hds_X4_isKey ⟨Nat.le_of_ble_eq_true rfl, Nat.le_of_ble_eq_true rfl⟩) rfl rfl hl.1 rfl (lv_room (Nat.le_of_ble_eq_true rfl)) dX4_areNeighbours_1 ⟨Nat.le_of_ble_eq_true rfl, Nat.le_of_ble_eq_true rfl⟩) hS (fun H locs hP hD hS => ?_)
  have hP : va_P D vwCl (zWT cI cJ h (n, L) (kt, km, kl) (pt, pm, pl) (nu, le, ow, fo, run, wc, lc, tr, cl, tm, ms) (yl, yc, yt, co, pa, su, sc) mc ++ R) _ := hP
  have hD : va_D (zAb B) (zWT cI cJ h (n, L) (kt, km, kl) (pt, pm, pl) (nu, le, ow, fo, run, wc, lc, tr, cl, tm, ms) (yl, yc, yt, co, pa, su, sc) mc ++ R) := hD
  refine lv_if_eq (tgt := 14) hx hb dX4_areNeighbours_4 (by decide) (fun c_1 => ?_) (fun c_1 => ?_)
  · skip
    have c_1 := zq_0 c_1
    exact absurd h1 c_1
  · skip
    have c_1 := zq_n c_1
    refine lv_iload_n hx hb dX4_areNeighbours_7 rfl (lv_at hl 2 rfl) ?_
    refine zci (zrS (As := [.int b]) (rest := []) ⟨hx, hb, hml, hown, hts⟩ (zS hP hD hK hE hB hS) (c_X4_isKey  ) (va_cwS 1 hts gX4_areNeighbours_X4_isKey rfl rfl rfl hds_X4_isKey ⟨Nat.le_of_ble_eq_true rfl, Nat.le_of_ble_eq_true rfl⟩) rfl rfl hl.1 rfl (lv_room (Nat.le_of_ble_eq_true rfl)) dX4_areNeighbours_8 ⟨Nat.le_of_ble_eq_true rfl, Nat.le_of_ble_eq_true rfl⟩) hS (fun H locs hP hD hS => ?_)
    have hP : va_P D vwCl (zWT cI cJ h (n, L) (kt, km, kl) (pt, pm, pl) (nu, le, ow, fo, run, wc, lc, tr, cl, tm, ms) (yl, yc, yt, co, pa, su, sc) mc ++ R) _ := hP
    have hD : va_D (zAb B) (zWT cI cJ h (n, L) (kt, km, kl) (pt, pm, pl) (nu, le, ow, fo, run, wc, lc, tr, cl, tm, ms) (yl, yc, yt, co, pa, su, sc) mc ++ R) := hD
    refine lv_if_ne (tgt := 24) hx hb dX4_areNeighbours_11 (by decide) (fun c_2 => ?_) (fun c_2 => ?_)
    · skip
      have c_2 := zq_n c_2
      refine lv_iload_n hx hb dX4_areNeighbours_24 rfl (lv_at hl 1 rfl) ?_
      refine lv_iload_n hx hb dX4_areNeighbours_25 rfl (lv_at hl 2 rfl) ?_
      refine zci (zrS (As := [.int a, .int b]) (rest := []) ⟨hx, hb, hml, hown, hts⟩ (zS hP hD hK hE hB hS) (c_X4_standSideBySide  ) (va_cwS 2 hts gX4_areNeighbours_X4_standSideBySide rfl rfl rfl hds_X4_standSideBySide ⟨Nat.le_of_ble_eq_true rfl, Nat.le_of_ble_eq_true rfl⟩) rfl rfl hl.1 rfl (lv_room (Nat.le_of_ble_eq_true rfl)) dX4_areNeighbours_26 ⟨Nat.le_of_ble_eq_true rfl, Nat.le_of_ble_eq_true rfl⟩) hS (fun H locs hP hD hS => ?_)
      have hP : va_P D vwCl (zWT cI cJ h (n, L) (kt, km, kl) (pt, pm, pl) (nu, le, ow, fo, run, wc, lc, tr, cl, tm, ms) (yl, yc, yt, co, pa, su, sc) mc ++ R) _ := hP
      have hD : va_D (zAb B) (zWT cI cJ h (n, L) (kt, km, kl) (pt, pm, pl) (nu, le, ow, fo, run, wc, lc, tr, cl, tm, ms) (yl, yc, yt, co, pa, su, sc) mc ++ R) := hD
      exact W.zret (v := (zb (zst a b))) hx hb hr zb_nar (fun t ht hW => ⟨⟨_, (), rfl, rfl, by rw [ht]; exact hP, hD⟩, hS.F ht⟩) hS.2.2 dX4_areNeighbours_29
    · skip
      have c_2 := zq_0 c_2
      exact absurd h2 c_2

set_option maxHeartbeats 1000000 in
set_option maxRecDepth 100000 in
theorem c_X4_areNeighbours_x {l : Launch} {B kr kp : Nat} {D : va_G} {cI cJ cZ : ClassId} {h : Nat → Nat} {R : va_W} {n : Nat} {L : Nat → Int64} {kt : Nat → Int32} {km : Nat → Int32} {kl : Nat → Int32} {pt : Nat → Int32} {pm : Nat → Int32} {pl : Nat → Int32} {nu : Nat → Int32} {le : Nat → Int32} {ow : Nat → Int32} {fo : Nat → Int32} {run : Bool} {wc : Nat} {lc : Nat} {tr : Nat} {cl : Nat} {tm : Nat} {ms : Nat} {yl : Nat → Int32} {yc : Nat → Int32} {yt : Nat → Int32} {co : Nat} {pa : Int32} {su : Nat} {sc : Nat} {mc : Nat → Int32} {a : Int32} {b : Int32}   (hls : l.stackTraces = false) (h1 : ¬ ((¬ a < 0 ∧ ¬ 26 ≤ a) ∧ (¬ b < 0 ∧ ¬ 26 ≤ b))) : vx_Met l yX4_areNeighbours wsX4_areNeighbours ({ frames := 6, cells := 1, slots := 6, locals := 82 }) (zPc B kr kp D (zTy cI cJ cZ) (zWT cI cJ h (n, L) (kt, km, kl) (pt, pm, pl) (nu, le, ow, fo, run, wc, lc, tr, cl, tm, ms) (yl, yc, yt, co, pa, su, sc) mc ++ R) [.ref (h 0), .int a, .int b]) (zQxi B D (zWT cI cJ h (n, L) (kt, km, kl) (pt, pm, pl) (nu, le, ow, fo, run, wc, lc, tr, cl, tm, ms) (yl, yc, yt, co, pa, su, sc) mc ++ R)) (zXC "java/lang/IndexOutOfBoundsException" B D (zWT cI cJ h (n, L) (kt, km, kl) (pt, pm, pl) (nu, le, ow, fo, run, wc, lc, tr, cl, tm, ms) (yl, yc, yt, co, pa, su, sc) mc ++ R)) 1 6 (zAb B) := by
  refine vx_ofW (cc := cX4_areNeighbours) (maxL := 3) (ret := (some .boolean)) (by decide) rfl ?_
  intro p e s m args below meth c s₁ B0 hml ht9 hv
  obtain ⟨rfl, hP, hD, hK, hE, hB⟩ := hv
  have hx := B0.exec
  have hb := B0.bytes
  have hr := B0.returns
  have hts := atoms_spec (ws := wsX4_areNeighbours) B0.pre
  have hown : s.vm.findClass RX4 = some m.cls := findClass_of_methodNamed B0.named
  have hlocks := B0.notSynchronized
  have hA : ∀ q : Nat, s.heap.size ≤ q → zAb B q := fun q hq => Nat.le_trans hB hq
  have hS : va_S (zAb B) s.heap s.heap [] := va_S.rf
  have hgr : s.heap.size ≤ s.heap.size := Nat.le_refl _
  have hl := lv_entry ([.ref (h 0), .int a, .int b]) (n := 3) (Nat.le_of_ble_eq_true rfl)
  rw [lg_entry_eq]
  generalize (lg_sl ([.ref (h 0), .int a, .int b]) ++ List.replicate (3 - (lg_sl ([.ref (h 0), .int a, .int b])).length) Slot.unset).toArray = ls at hl ⊢
  have hl : lv_has ls 3 [(0, .ref (h 0)), (1, .int a), (2, .int b)] := hl
  have hP : va_P D vwCl (zWT cI cJ h (n, L) (kt, km, kl) (pt, pm, pl) (nu, le, ow, fo, run, wc, lc, tr, cl, tm, ms) (yl, yc, yt, co, pa, su, sc) mc ++ R) s.heap := hP
  have hD : va_D (zAb B) (zWT cI cJ h (n, L) (kt, km, kl) (pt, pm, pl) (nu, le, ow, fo, run, wc, lc, tr, cl, tm, ms) (yl, yc, yt, co, pa, su, sc) mc ++ R) := hD
  refine lv_iload_n hx hb dX4_areNeighbours_0 rfl (lv_at hl 1 rfl) ?_
  refine zci (zrS (As := [.int a]) (rest := []) ⟨hx, hb, hml, hown, hts⟩ (zS hP hD hK hE hB hS) (c_X4_isKey  ) (va_cwS 1 hts gX4_areNeighbours_X4_isKey rfl rfl rfl hds_X4_isKey ⟨Nat.le_of_ble_eq_true rfl, Nat.le_of_ble_eq_true rfl⟩) rfl rfl hl.1 rfl (lv_room (Nat.le_of_ble_eq_true rfl)) dX4_areNeighbours_1 ⟨Nat.le_of_ble_eq_true rfl, Nat.le_of_ble_eq_true rfl⟩) hS (fun H locs hP hD hS => ?_)
  have hP : va_P D vwCl (zWT cI cJ h (n, L) (kt, km, kl) (pt, pm, pl) (nu, le, ow, fo, run, wc, lc, tr, cl, tm, ms) (yl, yc, yt, co, pa, su, sc) mc ++ R) _ := hP
  have hD : va_D (zAb B) (zWT cI cJ h (n, L) (kt, km, kl) (pt, pm, pl) (nu, le, ow, fo, run, wc, lc, tr, cl, tm, ms) (yl, yc, yt, co, pa, su, sc) mc ++ R) := hD
  refine lv_if_eq (tgt := 14) hx hb dX4_areNeighbours_4 (by decide) (fun c_1 => ?_) (fun c_1 => ?_)
  · skip
    have c_1 := zq_0 c_1
    exact zthrow hx hb hls hown hE hP hD hS (hl.1.trans hml.symm) ht9 hlocks (by decide +kernel) (List.mem_of_getElem? (i := 3) rfl) (by decide +kernel) (hts (.classLink RX4 81 "java/lang/IndexOutOfBoundsException") (List.mem_of_getElem? (i := 1) rfl)) (hts (.initialized "java/lang/IndexOutOfBoundsException") (List.mem_of_getElem? (i := 2) rfl)) (fun w h9 => hts w (List.mem_cons_of_mem _ (List.mem_append_right _ h9))) (by decide +kernel) (by decide +kernel) dX4_areNeighbours_14 dX4_areNeighbours_17 dX4_areNeighbours_18 dX4_areNeighbours_20 dX4_areNeighbours_23 ⟨Nat.le_of_ble_eq_true rfl, Nat.le_of_ble_eq_true rfl, Nat.le_of_ble_eq_true rfl, Nat.le_of_ble_eq_true rfl⟩
  · skip
    have c_1 := zq_n c_1
    refine lv_iload_n hx hb dX4_areNeighbours_7 rfl (lv_at hl 2 rfl) ?_
    refine zci (zrS (As := [.int b]) (rest := []) ⟨hx, hb, hml, hown, hts⟩ (zS hP hD hK hE hB hS) (c_X4_isKey  ) (va_cwS 1 hts gX4_areNeighbours_X4_isKey rfl rfl rfl hds_X4_isKey ⟨Nat.le_of_ble_eq_true rfl, Nat.le_of_ble_eq_true rfl⟩) rfl rfl hl.1 rfl (lv_room (Nat.le_of_ble_eq_true rfl)) dX4_areNeighbours_8 ⟨Nat.le_of_ble_eq_true rfl, Nat.le_of_ble_eq_true rfl⟩) hS (fun H locs hP hD hS => ?_)
    have hP : va_P D vwCl (zWT cI cJ h (n, L) (kt, km, kl) (pt, pm, pl) (nu, le, ow, fo, run, wc, lc, tr, cl, tm, ms) (yl, yc, yt, co, pa, su, sc) mc ++ R) _ := hP
    have hD : va_D (zAb B) (zWT cI cJ h (n, L) (kt, km, kl) (pt, pm, pl) (nu, le, ow, fo, run, wc, lc, tr, cl, tm, ms) (yl, yc, yt, co, pa, su, sc) mc ++ R) := hD
    refine lv_if_ne (tgt := 24) hx hb dX4_areNeighbours_11 (by decide) (fun c_2 => ?_) (fun c_2 => ?_)
    · skip
      have c_2 := zq_n c_2
      exact absurd ⟨c_1, c_2⟩ h1
    · skip
      have c_2 := zq_0 c_2
      exact zthrow hx hb hls hown hE hP hD hS (hl.1.trans hml.symm) ht9 hlocks (by decide +kernel) (List.mem_of_getElem? (i := 3) rfl) (by decide +kernel) (hts (.classLink RX4 81 "java/lang/IndexOutOfBoundsException") (List.mem_of_getElem? (i := 1) rfl)) (hts (.initialized "java/lang/IndexOutOfBoundsException") (List.mem_of_getElem? (i := 2) rfl)) (fun w h9 => hts w (List.mem_cons_of_mem _ (List.mem_append_right _ h9))) (by decide +kernel) (by decide +kernel) dX4_areNeighbours_14 dX4_areNeighbours_17 dX4_areNeighbours_18 dX4_areNeighbours_20 dX4_areNeighbours_23 ⟨Nat.le_of_ble_eq_true rfl, Nat.le_of_ble_eq_true rfl, Nat.le_of_ble_eq_true rfl, Nat.le_of_ble_eq_true rfl⟩
