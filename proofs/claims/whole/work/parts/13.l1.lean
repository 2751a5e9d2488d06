def zbl : Bool → Int64 | true => 1 | false => 0
set_option maxHeartbeats 1000000 in
set_option maxRecDepth 100000 in
theorem c_L_strike_r {l : Launch} {B kr kp : Nat} {D : va_G} {cI cJ cZ : ClassId} {h : Nat → Nat} {R : va_W} {n : Nat} {L : Nat → Int64} {kt : Nat → Int32} {km : Nat → Int32} {kl : Nat → Int32} {pt : Nat → Int32} {pm : Nat → Int32} {pl : Nat → Int32} {nu : Nat → Int32} {le : Nat → Int32} {ow : Nat → Int32} {fo : Nat → Int32} {run : Bool} {wc : Nat} {lc : Nat} {tr : Nat} {cl : Nat} {tm : Nat} {ms : Nat} {yl : Nat → Int32} {yc : Nat → Int32} {yt : Nat → Int32} {co : Nat} {pa : Int32} {su : Nat} {sc : Nat} {mc : Nat → Int32} {oa : Nat} {yo : Nat → Int64} {key : Int32} {time : Nat} {x : Nat} {o : Option Nat} {fin : Bool}  (h1 : ¬ key < 0 ∧ ¬ 26 ≤ key) (ht1 : 1 ≤ time) (ht2 : time ≤ 5000) (hrun : run = true) (hx9 : le tr = nI x) (hx26 : x < 26) (ho : zis le ow lc tr (nI tr - 1) = zoI o) (hoy : ∀ y, o = some y → y < 26) (hf : zsel fin (tr + 1 = lc) (tr + 1 < lc)) (htr : tr < lc) (hlc : lc ≤ 48) (hcl : cl ≤ tr) (hco : co < 256) (h2ms : ms ≤ 2) (hk0 : zkd key le ow lc tr = 0) : Met l yL_strike wsL_strike ({ frames := 5, cells := 0, slots := 0, locals := 117 }) (zPc B kr kp D (zTy cI cJ cZ) (zWT cI cJ h (n, L) (kt, km, kl) (pt, pm, pl) (nu, le, ow, fo, run, wc, lc, tr, cl, tm, ms) (yl, yc, yt, co, pa, su, sc) mc ++ ((oa, .inl (cJ, 1, .inr (.inl yo))) :: R)) [.ref (h 0), .int key, .int (nI time), .ref oa]) (zQi B D (zWT cI cJ h (n, L) ((zkt kt x), (zkm (zc0 ms) km x), (zkl (zc0 ms) kl x (nI time))) ((zou o x pt (zkt pt)), (zou o x pm (zkm (zc0 ms) pm)), (zou o x pl (fun p => zkl (zc0 ms) pl p (nI time)))) (nu, le, ow, fo, (zsel fin false run), wc, lc, (tr + 1), (zsel (zc0 ms) (cl + 1) cl), (tm + time), 0) ((zsel fin (upd yl co (nI lc)) yl), (zsel fin (upd yc co (nI (zsel (zc0 ms) (cl + 1) cl))) yc), (zsel fin (upd yt co (nI (tm + time))) yt), (zsel fin (co + 1) co), (zsel fin (zpc pa lc (zsel (zc0 ms) (cl + 1) cl)) pa), (zsel fin (su + lc) su), (zsel fin (sc + (zsel (zc0 ms) (cl + 1) cl)) sc)) mc ++ ((oa, .inl (cJ, 1, .inr (.inl (vp_updL yo 0 ((0 : Int32).toInt64))))) :: R)) 0) 0 0 (zAb B) := by
  refine va_MetW (cc := cL_strike) (maxL := 5) (ret := (some .int)) (by decide) rfl ?_
  intro p e s m args below meth c s₁ B0 hml hv
  obtain ⟨rfl, hP, hD, hK, hE, hB⟩ := hv
  have hx := B0.exec
  have hb := B0.bytes
  have hr := B0.returns
  have hts := atoms_spec (ws := wsL_strike) B0.pre
  have hown : s.vm.findClass RL = some m.cls := findClass_of_methodNamed B0.named
  have hlocks := B0.notSynchronized
  have hA : ∀ q : Nat, s.heap.size ≤ q → zAb B q := fun q hq => Nat.le_trans hB hq
  have hS : va_S (zAb B) s.heap s.heap [] := va_S.rf
  have hgr : s.heap.size ≤ s.heap.size := Nat.le_refl _
  have hl := lv_entry ([.ref (h 0), .int key, .int (nI time), .ref oa]) (n := 5) (Nat.le_of_ble_eq_true rfl)
  rw [lg_entry_eq]
  generalize (lg_sl ([.ref (h 0), .int key, .int (nI time), .ref oa]) ++ List.replicate (5 - (lg_sl ([.ref (h 0), .int key, .int (nI time), .ref oa])).length) Slot.unset).toArray = ls at hl ⊢
  have hl : lv_has ls 5 [(0, .ref (h 0)), (1, .int key), (2, .int (nI time)), (3, .ref oa)] := hl
  have htab : c.exceptionTable.toList = tableOf [(0, 10, 13, 21), (0, 10, 17, 13), (0, 10, 21, 15)] := vx_table (x := yL_strike) B0 (hts _ List.mem_cons_self)
  have hP : va_P D vwCl (zWT cI cJ h (n, L) (kt, km, kl) (pt, pm, pl) (nu, le, ow, fo, run, wc, lc, tr, cl, tm, ms) (yl, yc, yt, co, pa, su, sc) mc ++ ((oa, .inl (cJ, 1, .inr (.inl yo))) :: R)) s.heap := hP
  have hD : va_D (zAb B) (zWT cI cJ h (n, L) (kt, km, kl) (pt, pm, pl) (nu, le, ow, fo, run, wc, lc, tr, cl, tm, ms) (yl, yc, yt, co, pa, su, sc) mc ++ ((oa, .inl (cJ, 1, .inr (.inl yo))) :: R)) := hD
  refine lv_aload_n hx hb dL_strike_0 rfl (lv_at hl 3 rfl) ?_
  refine lv_iconst (v := 0) hx hb dL_strike_1 (by decide) ?_
  refine lv_aload_n hx hb dL_strike_2 rfl (lv_at hl 0 rfl) ?_
  refine lv_iload_n hx hb dL_strike_3 rfl (lv_at hl 1 rfl) ?_
  refine lv_iload_n hx hb dL_strike_4 rfl (lv_at hl 2 rfl) ?_
  refine zci (zrV (As := [.int key, .int (nI time)]) (rest := [.int 0, .ref oa]) ⟨hx, hb, hml, hown, hts⟩ (zV 0 hP hD hK hE hB hS rfl rfl) (c_X4_strike_r (time := time) (x := x) (o := o) (fin := fin) (h1) (ht1) (ht2) (hrun) (hx9) (hx26) (ho) (hoy) (hf) (htr) (hlc) (hcl) (hco) (h2ms) (hk0)) (cwV 2 hts gL_strike_X4_strike rfl rfl rfl hdv_X4_strike ⟨Nat.le_of_ble_eq_true rfl, Nat.le_of_ble_eq_true rfl⟩) rfl rfl hl.1 rfl (lv_room (Nat.le_of_ble_eq_true rfl)) dL_strike_5 ⟨Nat.le_of_ble_eq_true rfl, Nat.le_of_ble_eq_true rfl⟩) hS (fun H locs hP hD hS => ?_)
  have hP : va_P D vwCl (zWT cI cJ h (n, L) ((zkt kt x), (zkm (zc0 ms) km x), (zkl (zc0 ms) kl x (nI time))) ((zou o x pt (zkt pt)), (zou o x pm (zkm (zc0 ms) pm)), (zou o x pl (fun p => zkl (zc0 ms) pl p (nI time)))) (nu, le, ow, fo, (zsel fin false run), wc, lc, (tr + 1), (zsel (zc0 ms) (cl + 1) cl), (tm + time), 0) ((zsel fin (upd yl co (nI lc)) yl), (zsel fin (upd yc co (nI (zsel (zc0 ms) (cl + 1) cl))) yc), (zsel fin (upd yt co (nI (tm + time))) yt), (zsel fin (co + 1) co), (zsel fin (zpc pa lc (zsel (zc0 ms) (cl + 1) cl)) pa), (zsel fin (su + lc) su), (zsel fin (sc + (zsel (zc0 ms) (cl + 1) cl)) sc)) mc ++ ((oa, .inl (cJ, 1, .inr (.inl yo))) :: R)) _ := hP
  have hD : va_D (zAb B) (zWT cI cJ h (n, L) ((zkt kt x), (zkm (zc0 ms) km x), (zkl (zc0 ms) kl x (nI time))) ((zou o x pt (zkt pt)), (zou o x pm (zkm (zc0 ms) pm)), (zou o x pl (fun p => zkl (zc0 ms) pl p (nI time)))) (nu, le, ow, fo, (zsel fin false run), wc, lc, (tr + 1), (zsel (zc0 ms) (cl + 1) cl), (tm + time), 0) ((zsel fin (upd yl co (nI lc)) yl), (zsel fin (upd yc co (nI (zsel (zc0 ms) (cl + 1) cl))) yc), (zsel fin (upd yt co (nI (tm + time))) yt), (zsel fin (co + 1) co), (zsel fin (zpc pa lc (zsel (zc0 ms) (cl + 1) cl)) pa), (zsel fin (su + lc) su), (zsel fin (sc + (zsel (zc0 ms) (cl + 1) cl)) sc)) mc ++ ((oa, .inl (cJ, 1, .inr (.inl yo))) :: R)) := hD
  refine lv_i2l (v := (0 : Int32).toInt64) hx hb dL_strike_8 rfl ?_
  refine va_last hx hb hK hP hD hS 21 1 rfl rfl (vp_in_nI (n := 0) (N := 1) (by omega) (by omega)) dL_strike_9 (fun H locs hP hD hS => ?_)
  rw [pk_cl (x := (0 : Int32)) 0 (rfl) (by omega)] at hP hD
  have hP : va_P D vwCl (zWT cI cJ h (n, L) ((zkt kt x), (zkm (zc0 ms) km x), (zkl (zc0 ms) kl x (nI time))) ((zou o x pt (zkt pt)), (zou o x pm (zkm (zc0 ms) pm)), (zou o x pl (fun p => zkl (zc0 ms) pl p (nI time)))) (nu, le, ow, fo, (zsel fin false run), wc, lc, (tr + 1), (zsel (zc0 ms) (cl + 1) cl), (tm + time), 0) ((zsel fin (upd yl co (nI lc)) yl), (zsel fin (upd yc co (nI (zsel (zc0 ms) (cl + 1) cl))) yc), (zsel fin (upd yt co (nI (tm + time))) yt), (zsel fin (co + 1) co), (zsel fin (zpc pa lc (zsel (zc0 ms) (cl + 1) cl)) pa), (zsel fin (su + lc) su), (zsel fin (sc + (zsel (zc0 ms) (cl + 1) cl)) sc)) mc ++ ((oa, .inl (cJ, 1, .inr (.inl (vp_updL yo 0 ((0 : Int32).toInt64))))) :: R)) _ := hP
  have hD : va_D (zAb B) (zWT cI cJ h (n, L) ((zkt kt x), (zkm (zc0 ms) km x), (zkl (zc0 ms) kl x (nI time))) ((zou o x pt (zkt pt)), (zou o x pm (zkm (zc0 ms) pm)), (zou o x pl (fun p => zkl (zc0 ms) pl p (nI time)))) (nu, le, ow, fo, (zsel fin false run), wc, lc, (tr + 1), (zsel (zc0 ms) (cl + 1) cl), (tm + time), 0) ((zsel fin (upd yl co (nI lc)) yl), (zsel fin (upd yc co (nI (zsel (zc0 ms) (cl + 1) cl))) yc), (zsel fin (upd yt co (nI (tm + time))) yt), (zsel fin (co + 1) co), (zsel fin (zpc pa lc (zsel (zc0 ms) (cl + 1) cl)) pa), (zsel fin (su + lc) su), (zsel fin (sc + (zsel (zc0 ms) (cl + 1) cl)) sc)) mc ++ ((oa, .inl (cJ, 1, .inr (.inl (vp_updL yo 0 ((0 : Int32).toInt64))))) :: R)) := hD
  refine lv_goto (tgt := 25) hx hb dL_strike_10 (by decide) ?_
  refine lv_iconst (v := 0) hx hb dL_strike_25 (by decide) ?_
  exact W.iret (v := 0) hx hb hr (fun t ht hW => ⟨⟨_, (), rfl, rfl, by rw [ht]; exact hP, hD⟩, hS.F ht⟩) hS.2.2 dL_strike_26

set_option maxHeartbeats 1000000 in
set_option maxRecDepth 100000 in
theorem c_L_strike_w1 {l : Launch} {B kr kp : Nat} {D : va_G} {cI cJ cZ : ClassId} {h : Nat → Nat} {R : va_W} {n : Nat} {L : Nat → Int64} {kt : Nat → Int32} {km : Nat → Int32} {kl : Nat → Int32} {pt : Nat → Int32} {pm : Nat → Int32} {pl : Nat → Int32} {nu : Nat → Int32} {le : Nat → Int32} {ow : Nat → Int32} {fo : Nat → Int32} {run : Bool} {wc : Nat} {lc : Nat} {tr : Nat} {cl : Nat} {tm : Nat} {ms : Nat} {yl : Nat → Int32} {yc : Nat → Int32} {yt : Nat → Int32} {co : Nat} {pa : Int32} {su : Nat} {sc : Nat} {mc : Nat → Int32} {oa : Nat} {yo : Nat → Int64} {key : Int32} {time : Nat} {kk : Nat}  (h1 : ¬ key < 0 ∧ ¬ 26 ≤ key) (ht1 : 1 ≤ time) (ht2 : time ≤ 5000) (hrun : run = true) (htr : tr < lc) (hlc : lc ≤ 48) (hms : ms = 0) (hkk : zkd key le ow lc tr = nI kk) (hk1 : 1 ≤ kk) (hk4 : kk ≤ 4) : Met l yL_strike wsL_strike ({ frames := 5, cells := 0, slots := 0, locals := 107 }) (zPc B kr kp D (zTy cI cJ cZ) (zWT cI cJ h (n, L) (kt, km, kl) (pt, pm, pl) (nu, le, ow, fo, run, wc, lc, tr, cl, tm, ms) (yl, yc, yt, co, pa, su, sc) mc ++ ((oa, .inl (cJ, 1, .inr (.inl yo))) :: R)) [.ref (h 0), .int key, .int (nI time), .ref oa]) (zQi B D (zWT cI cJ h (n, L) (kt, km, kl) (pt, pm, pl) (nu, le, ow, fo, run, wc, lc, tr, cl, (tm + time), (ms + 1)) (yl, yc, yt, co, pa, su, sc) (upd mc kk (mc kk + 1)) ++ ((oa, .inl (cJ, 1, .inr (.inl (vp_updL yo 0 (((nI kk)).toInt64))))) :: R)) 0) 0 0 (zAb B) := by
  refine va_MetW (cc := cL_strike) (maxL := 5) (ret := (some .int)) (by decide) rfl ?_
  intro p e s m args below meth c s₁ B0 hml hv
  obtain ⟨rfl, hP, hD, hK, hE, hB⟩ := hv
  have hx := B0.exec
  have hb := B0.bytes
  have hr := B0.returns
  have hts := atoms_spec (ws := wsL_strike) B0.pre
  have hown : s.vm.findClass RL = some m.cls := findClass_of_methodNamed B0.named
  have hlocks := B0.notSynchronized
  have hA : ∀ q : Nat, s.heap.size ≤ q → zAb B q := fun q hq => Nat.le_trans hB hq
  have hS : va_S (zAb B) s.heap s.heap [] := va_S.rf
  have hgr : s.heap.size ≤ s.heap.size := Nat.le_refl _
  have hl := lv_entry ([.ref (h 0), .int key, .int (nI time), .ref oa]) (n := 5) (Nat.le_of_ble_eq_true rfl)
  rw [lg_entry_eq]
  generalize (lg_sl ([.ref (h 0), .int key, .int (nI time), .ref oa]) ++ List.replicate (5 - (lg_sl ([.ref (h 0), .int key, .int (nI time), .ref oa])).length) Slot.unset).toArray = ls at hl ⊢
  have hl : lv_has ls 5 [(0, .ref (h 0)), (1, .int key), (2, .int (nI time)), (3, .ref oa)] := hl
  have htab : c.exceptionTable.toList = tableOf [(0, 10, 13, 21), (0, 10, 17, 13), (0, 10, 21, 15)] := vx_table (x := yL_strike) B0 (hts _ List.mem_cons_self)
  have hP : va_P D vwCl (zWT cI cJ h (n, L) (kt, km, kl) (pt, pm, pl) (nu, le, ow, fo, run, wc, lc, tr, cl, tm, ms) (yl, yc, yt, co, pa, su, sc) mc ++ ((oa, .inl (cJ, 1, .inr (.inl yo))) :: R)) s.heap := hP
  have hD : va_D (zAb B) (zWT cI cJ h (n, L) (kt, km, kl) (pt, pm, pl) (nu, le, ow, fo, run, wc, lc, tr, cl, tm, ms) (yl, yc, yt, co, pa, su, sc) mc ++ ((oa, .inl (cJ, 1, .inr (.inl yo))) :: R)) := hD
  refine lv_aload_n hx hb dL_strike_0 rfl (lv_at hl 3 rfl) ?_
  refine lv_iconst (v := 0) hx hb dL_strike_1 (by decide) ?_
  refine lv_aload_n hx hb dL_strike_2 rfl (lv_at hl 0 rfl) ?_
  refine lv_iload_n hx hb dL_strike_3 rfl (lv_at hl 1 rfl) ?_
  refine lv_iload_n hx hb dL_strike_4 rfl (lv_at hl 2 rfl) ?_
  refine zci (zrV (As := [.int key, .int (nI time)]) (rest := [.int 0, .ref oa]) ⟨hx, hb, hml, hown, hts⟩ (zV 0 hP hD hK hE hB hS rfl rfl) (c_X4_strike_w1 (time := time) (kk := kk) (h1) (ht1) (ht2) (hrun) (htr) (hlc) (hms) (hkk) (hk1) (hk4)) (cwV 2 hts gL_strike_X4_strike rfl rfl rfl hdv_X4_strike ⟨Nat.le_of_ble_eq_true rfl, Nat.le_of_ble_eq_true rfl⟩) rfl rfl hl.1 rfl (lv_room (Nat.le_of_ble_eq_true rfl)) dL_strike_5 ⟨Nat.le_of_ble_eq_true rfl, Nat.le_of_ble_eq_true rfl⟩) hS (fun H locs hP hD hS => ?_)
  have hP : va_P D vwCl (zWT cI cJ h (n, L) (kt, km, kl) (pt, pm, pl) (nu, le, ow, fo, run, wc, lc, tr, cl, (tm + time), (ms + 1)) (yl, yc, yt, co, pa, su, sc) (upd mc kk (mc kk + 1)) ++ ((oa, .inl (cJ, 1, .inr (.inl yo))) :: R)) _ := hP
  have hD : va_D (zAb B) (zWT cI cJ h (n, L) (kt, km, kl) (pt, pm, pl) (nu, le, ow, fo, run, wc, lc, tr, cl, (tm + time), (ms + 1)) (yl, yc, yt, co, pa, su, sc) (upd mc kk (mc kk + 1)) ++ ((oa, .inl (cJ, 1, .inr (.inl yo))) :: R)) := hD
  refine lv_i2l (v := ((nI kk)).toInt64) hx hb dL_strike_8 rfl ?_
  refine va_last hx hb hK hP hD hS 21 1 rfl rfl (vp_in_nI (n := 0) (N := 1) (by omega) (by omega)) dL_strike_9 (fun H locs hP hD hS => ?_)
  rw [pk_cl (x := (0 : Int32)) 0 (rfl) (by omega)] at hP hD
  have hP : va_P D vwCl (zWT cI cJ h (n, L) (kt, km, kl) (pt, pm, pl) (nu, le, ow, fo, run, wc, lc, tr, cl, (tm + time), (ms + 1)) (yl, yc, yt, co, pa, su, sc) (upd mc kk (mc kk + 1)) ++ ((oa, .inl (cJ, 1, .inr (.inl (vp_updL yo 0 (((nI kk)).toInt64))))) :: R)) _ := hP
  have hD : va_D (zAb B) (zWT cI cJ h (n, L) (kt, km, kl) (pt, pm, pl) (nu, le, ow, fo, run, wc, lc, tr, cl, (tm + time), (ms + 1)) (yl, yc, yt, co, pa, su, sc) (upd mc kk (mc kk + 1)) ++ ((oa, .inl (cJ, 1, .inr (.inl (vp_updL yo 0 (((nI kk)).toInt64))))) :: R)) := hD
  refine lv_goto (tgt := 25) hx hb dL_strike_10 (by decide) ?_
  refine lv_iconst (v := 0) hx hb dL_strike_25 (by decide) ?_
  exact W.iret (v := 0) hx hb hr (fun t ht hW => ⟨⟨_, (), rfl, rfl, by rw [ht]; exact hP, hD⟩, hS.F ht⟩) hS.2.2 dL_strike_26

set_option maxHeartbeats 1000000 in
set_option maxRecDepth 100000 in
theorem c_L_strike_w2 {l : Launch} {B kr kp : Nat} {D : va_G} {cI cJ cZ : ClassId} {h : Nat → Nat} {R : va_W} {n : Nat} {L : Nat → Int64} {kt : Nat → Int32} {km : Nat → Int32} {kl : Nat → Int32} {pt : Nat → Int32} {pm : Nat → Int32} {pl : Nat → Int32} {nu : Nat → Int32} {le : Nat → Int32} {ow : Nat → Int32} {fo : Nat → Int32} {run : Bool} {wc : Nat} {lc : Nat} {tr : Nat} {cl : Nat} {tm : Nat} {ms : Nat} {yl : Nat → Int32} {yc : Nat → Int32} {yt : Nat → Int32} {co : Nat} {pa : Int32} {su : Nat} {sc : Nat} {mc : Nat → Int32} {oa : Nat} {yo : Nat → Int64} {key : Int32} {time : Nat} {x : Nat} {o : Option Nat} {fin : Bool} {kk : Nat}  (h1 : ¬ key < 0 ∧ ¬ 26 ≤ key) (ht1 : 1 ≤ time) (ht2 : time ≤ 5000) (hrun : run = true) (hx9 : le tr = nI x) (hx26 : x < 26) (ho : zis le ow lc tr (nI tr - 1) = zoI o) (hoy : ∀ y, o = some y → y < 26) (hf : zsel fin (tr + 1 = lc) (tr + 1 < lc)) (htr : tr < lc) (hlc : lc ≤ 48) (hcl : cl ≤ tr) (hco : co < 256) (h2ms : ms ≤ 2) (hms : ms = 1) (hkk : zkd key le ow lc tr = nI kk) (hk1 : 1 ≤ kk) (hk4 : kk ≤ 4) : Met l yL_strike wsL_strike ({ frames := 5, cells := 0, slots := 0, locals := 117 }) (zPc B kr kp D (zTy cI cJ cZ) (zWT cI cJ h (n, L) (kt, km, kl) (pt, pm, pl) (nu, le, ow, fo, run, wc, lc, tr, cl, tm, ms) (yl, yc, yt, co, pa, su, sc) mc ++ ((oa, .inl (cJ, 1, .inr (.inl yo))) :: R)) [.ref (h 0), .int key, .int (nI time), .ref oa]) (zQi B D (zWT cI cJ h (n, L) ((zkt kt x), (zkm (zc0 (ms + 1)) km x), (zkl (zc0 (ms + 1)) kl x (nI time))) ((zou o x pt (zkt pt)), (zou o x pm (zkm (zc0 (ms + 1)) pm)), (zou o x pl (fun p => zkl (zc0 (ms + 1)) pl p (nI time)))) (nu, le, ow, fo, (zsel fin false run), wc, lc, (tr + 1), (zsel (zc0 (ms + 1)) (cl + 1) cl), (tm + time), 0) ((zsel fin (upd yl co (nI lc)) yl), (zsel fin (upd yc co (nI (zsel (zc0 (ms + 1)) (cl + 1) cl))) yc), (zsel fin (upd yt co (nI (tm + time))) yt), (zsel fin (co + 1) co), (zsel fin (zpc pa lc (zsel (zc0 (ms + 1)) (cl + 1) cl)) pa), (zsel fin (su + lc) su), (zsel fin (sc + (zsel (zc0 (ms + 1)) (cl + 1) cl)) sc)) (upd mc kk (mc kk + 1)) ++ ((oa, .inl (cJ, 1, .inr (.inl (vp_updL yo 0 (((nI kk)).toInt64))))) :: R)) 0) 0 0 (zAb B) := by
  refine va_MetW (cc := cL_strike) (maxL := 5) (ret := (some .int)) (by decide) rfl ?_
  intro p e s m args below meth c s₁ B0 hml hv
  obtain ⟨rfl, hP, hD, hK, hE, hB⟩ := hv
  have hx := B0.exec
  have hb := B0.bytes
  have hr := B0.returns
  have hts := atoms_spec (ws := wsL_strike) B0.pre
  have hown : s.vm.findClass RL = some m.cls := findClass_of_methodNamed B0.named
  have hlocks := B0.notSynchronized
  have hA : ∀ q : Nat, s.heap.size ≤ q → zAb B q := fun q hq => Nat.le_trans hB hq
  have hS : va_S (zAb B) s.heap s.heap [] := va_S.rf
  have hgr : s.heap.size ≤ s.heap.size := Nat.le_refl _
  have hl := lv_entry ([.ref (h 0), .int key, .int (nI time), .ref oa]) (n := 5) (Nat.le_of_ble_eq_true rfl)
  rw [lg_entry_eq]
  generalize (lg_sl ([.ref (h 0), .int key, .int (nI time), .ref oa]) ++ List.replicate (5 - (lg_sl ([.ref (h 0), .int key, .int (nI time), .ref oa])).length) Slot.unset).toArray = ls at hl ⊢
  have hl : lv_has ls 5 [(0, .ref (h 0)), (1, .int key), (2, .int (nI time)), (3, .ref oa)] := hl
  have htab : c.exceptionTable.toList = tableOf [(0, 10, 13, 21), (0, 10, 17, 13), (0, 10, 21, 15)] := vx_table (x := yL_strike) B0 (hts _ List.mem_cons_self)
  have hP : va_P D vwCl (zWT cI cJ h (n, L) (kt, km, kl) (pt, pm, pl) (nu, le, ow, fo, run, wc, lc, tr, cl, tm, ms) (yl, yc, yt, co, pa, su, sc) mc ++ ((oa, .inl (cJ, 1, .inr (.inl yo))) :: R)) s.heap := hP
  have hD : va_D (zAb B) (zWT cI cJ h (n, L) (kt, km, kl) (pt, pm, pl) (nu, le, ow, fo, run, wc, lc, tr, cl, tm, ms) (yl, yc, yt, co, pa, su, sc) mc ++ ((oa, .inl (cJ, 1, .inr (.inl yo))) :: R)) := hD
  refine lv_aload_n hx hb dL_strike_0 rfl (lv_at hl 3 rfl) ?_
  refine lv_iconst (v := 0) hx hb dL_strike_1 (by decide) ?_
  refine lv_aload_n hx hb dL_strike_2 rfl (lv_at hl 0 rfl) ?_
  refine lv_iload_n hx hb dL_strike_3 rfl (lv_at hl 1 rfl) ?_
  refine lv_iload_n hx hb dL_strike_4 rfl (lv_at hl 2 rfl) ?_
  refine zci (zrV (As := [.int key, .int (nI time)]) (rest := [.int 0, .ref oa]) ⟨hx, hb, hml, hown, hts⟩ (zV 0 hP hD hK hE hB hS rfl rfl) (c_X4_strike_w2 (time := time) (x := x) (o := o) (fin := fin) (kk := kk) (h1) (ht1) (ht2) (hrun) (hx9) (hx26) (ho) (hoy) (hf) (htr) (hlc) (hcl) (hco) (h2ms) (hms) (hkk) (hk1) (hk4)) (cwV 2 hts gL_strike_X4_strike rfl rfl rfl hdv_X4_strike ⟨Nat.le_of_ble_eq_true rfl, Nat.le_of_ble_eq_true rfl⟩) rfl rfl hl.1 rfl (lv_room (Nat.le_of_ble_eq_true rfl)) dL_strike_5 ⟨Nat.le_of_ble_eq_true rfl, Nat.le_of_ble_eq_true rfl⟩) hS (fun H locs hP hD hS => ?_)
  have hP : va_P D vwCl (zWT cI cJ h (n, L) ((zkt kt x), (zkm (zc0 (ms + 1)) km x), (zkl (zc0 (ms + 1)) kl x (nI time))) ((zou o x pt (zkt pt)), (zou o x pm (zkm (zc0 (ms + 1)) pm)), (zou o x pl (fun p => zkl (zc0 (ms + 1)) pl p (nI time)))) (nu, le, ow, fo, (zsel fin false run), wc, lc, (tr + 1), (zsel (zc0 (ms + 1)) (cl + 1) cl), (tm + time), 0) ((zsel fin (upd yl co (nI lc)) yl), (zsel fin (upd yc co (nI (zsel (zc0 (ms + 1)) (cl + 1) cl))) yc), (zsel fin (upd yt co (nI (tm + time))) yt), (zsel fin (co + 1) co), (zsel fin (zpc pa lc (zsel (zc0 (ms + 1)) (cl + 1) cl)) pa), (zsel fin (su + lc) su), (zsel fin (sc + (zsel (zc0 (ms + 1)) (cl + 1) cl)) sc)) (upd mc kk (mc kk + 1)) ++ ((oa, .inl (cJ, 1, .inr (.inl yo))) :: R)) _ := hP
  have hD : va_D (zAb B) (zWT cI cJ h (n, L) ((zkt kt x), (zkm (zc0 (ms + 1)) km x), (zkl (zc0 (ms + 1)) kl x (nI time))) ((zou o x pt (zkt pt)), (zou o x pm (zkm (zc0 (ms + 1)) pm)), (zou o x pl (fun p => zkl (zc0 (ms + 1)) pl p (nI time)))) (nu, le, ow, fo, (zsel fin false run), wc, lc, (tr + 1), (zsel (zc0 (ms + 1)) (cl + 1) cl), (tm + time), 0) ((zsel fin (upd yl co (nI lc)) yl), (zsel fin (upd yc co (nI (zsel (zc0 (ms + 1)) (cl + 1) cl))) yc), (zsel fin (upd yt co (nI (tm + time))) yt), (zsel fin (co + 1) co), (zsel fin (zpc pa lc (zsel (zc0 (ms + 1)) (cl + 1) cl)) pa), (zsel fin (su + lc) su), (zsel fin (sc + (zsel (zc0 (ms + 1)) (cl + 1) cl)) sc)) (upd mc kk (mc kk + 1)) ++ ((oa, .inl (cJ, 1, .inr (.inl yo))) :: R)) := hD
  refine lv_i2l (v := ((nI kk)).toInt64) hx hb dL_strike_8 rfl ?_
  refine va_last hx hb hK hP hD hS 21 1 rfl rfl (vp_in_nI (n := 0) (N := 1) (by omega) (by omega)) dL_strike_9 (fun H locs hP hD hS => ?_)
  rw [pk_cl (x := (0 : Int32)) 0 (rfl) (by omega)] at hP hD
  have hP : va_P D vwCl (zWT cI cJ h (n, L) ((zkt kt x), (zkm (zc0 (ms + 1)) km x), (zkl (zc0 (ms + 1)) kl x (nI time))) ((zou o x pt (zkt pt)), (zou o x pm (zkm (zc0 (ms + 1)) pm)), (zou o x pl (fun p => zkl (zc0 (ms + 1)) pl p (nI time)))) (nu, le, ow, fo, (zsel fin false run), wc, lc, (tr + 1), (zsel (zc0 (ms + 1)) (cl + 1) cl), (tm + time), 0) ((zsel fin (upd yl co (nI lc)) yl), (zsel fin (upd yc co (nI (zsel (zc0 (ms + 1)) (cl + 1) cl))) yc), (zsel fin (upd yt co (nI (tm + time))) yt), (zsel fin (co + 1) co), (zsel fin (zpc pa lc (zsel (zc0 (ms + 1)) (cl + 1) cl)) pa), (zsel fin (su + lc) su), (zsel fin (sc + (zsel (zc0 (ms + 1)) (cl + 1) cl)) sc)) (upd mc kk (mc kk + 1)) ++ ((oa, .inl (cJ, 1, .inr (.inl (vp_updL yo 0 (((nI kk)).toInt64))))) :: R)) _ := hP
  have hD : va_D (zAb B) (zWT cI cJ h (n, L) ((zkt kt x), (zkm (zc0 (ms + 1)) km x), (zkl (zc0 (ms + 1)) kl x (nI time))) ((zou o x pt (zkt pt)), (zou o x pm (zkm (zc0 (ms + 1)) pm)), (zou o x pl (fun p => zkl (zc0 (ms + 1)) pl p (nI time)))) (nu, le, ow, fo, (zsel fin false run), wc, lc, (tr + 1), (zsel (zc0 (ms + 1)) (cl + 1) cl), (tm + time), 0) ((zsel fin (upd yl co (nI lc)) yl), (zsel fin (upd yc co (nI (zsel (zc0 (ms + 1)) (cl + 1) cl))) yc), (zsel fin (upd yt co (nI (tm + time))) yt), (zsel fin (co + 1) co), (zsel fin (zpc pa lc (zsel (zc0 (ms + 1)) (cl + 1) cl)) pa), (zsel fin (su + lc) su), (zsel fin (sc + (zsel (zc0 (ms + 1)) (cl + 1) cl)) sc)) (upd mc kk (mc kk + 1)) ++ ((oa, .inl (cJ, 1, .inr (.inl (vp_updL yo 0 (((nI kk)).toInt64))))) :: R)) := hD
  refine lv_goto (tgt := 25) hx hb dL_strike_10 (by decide) ?_
  refine lv_iconst (v := 0) hx hb dL_strike_25 (by decide) ?_
  exact W.iret (v := 0) hx hb hr (fun t ht hW => ⟨⟨_, (), rfl, rfl, by rw [ht]; exact hP, hD⟩, hS.F ht⟩) hS.2.2 dL_strike_26

set_option maxHeartbeats 1000000 in
set_option maxRecDepth 100000 in
theorem c_L_strike_x1 {l : Launch} {B kr kp : Nat} {D : va_G} {cI cJ cZ : ClassId} {h : Nat → Nat} {R : va_W} {n : Nat} {L : Nat → Int64} {kt : Nat → Int32} {km : Nat → Int32} {kl : Nat → Int32} {pt : Nat → Int32} {pm : Nat → Int32} {pl : Nat → Int32} {nu : Nat → Int32} {le : Nat → Int32} {ow : Nat → Int32} {fo : Nat → Int32} {run : Bool} {wc : Nat} {lc : Nat} {tr : Nat} {cl : Nat} {tm : Nat} {ms : Nat} {yl : Nat → Int32} {yc : Nat → Int32} {yt : Nat → Int32} {co : Nat} {pa : Int32} {su : Nat} {sc : Nat} {mc : Nat → Int32} {oa : Nat} {yo : Nat → Int64} {key : Int32} {time : Int32}   (hls : l.stackTraces = false) (h1 : ¬ (¬ key < 0 ∧ ¬ 26 ≤ key)) : Met l yL_strike wsL_strike ({ frames := 7, cells := 1, slots := 6, locals := 105 }) (zPc B kr kp D (zTy cI cJ cZ) (zWT cI cJ h (n, L) (kt, km, kl) (pt, pm, pl) (nu, le, ow, fo, run, wc, lc, tr, cl, tm, ms) (yl, yc, yt, co, pa, su, sc) mc ++ ((oa, .inl (cJ, 1, .inr (.inl yo))) :: R)) [.ref (h 0), .int key, .int time, .ref oa]) (zQi B D (zWT cI cJ h (n, L) (kt, km, kl) (pt, pm, pl) (nu, le, ow, fo, run, wc, lc, tr, cl, tm, ms) (yl, yc, yt, co, pa, su, sc) mc ++ ((oa, .inl (cJ, 1, .inr (.inl yo))) :: R)) 1) 1 6 (zAb B) := by
  refine va_MetW (cc := cL_strike) (maxL := 5) (ret := (some .int)) (by decide) rfl ?_
  intro p e s m args below meth c s₁ B0 hml hv
  obtain ⟨rfl, hP, hD, hK, hE, hB⟩ := hv
  have hx := B0.exec
  have hb := B0.bytes
  have hr := B0.returns
  have hts := atoms_spec (ws := wsL_strike) B0.pre
  have hown : s.vm.findClass RL = some m.cls := findClass_of_methodNamed B0.named
  have hlocks := B0.notSynchronized
  have hA : ∀ q : Nat, s.heap.size ≤ q → zAb B q := fun q hq => Nat.le_trans hB hq
  have hS : va_S (zAb B) s.heap s.heap [] := va_S.rf
  have hgr : s.heap.size ≤ s.heap.size := Nat.le_refl _
  have hl := lv_entry ([.ref (h 0), .int key, .int time, .ref oa]) (n := 5) (Nat.le_of_ble_eq_true rfl)
  rw [lg_entry_eq]
  generalize (lg_sl ([.ref (h 0), .int key, .int time, .ref oa]) ++ List.replicate (5 - (lg_sl ([.ref (h 0), .int key, .int time, .ref oa])).length) Slot.unset).toArray = ls at hl ⊢
  have hl : lv_has ls 5 [(0, .ref (h 0)), (1, .int key), (2, .int time), (3, .ref oa)] := hl
  have htab : c.exceptionTable.toList = tableOf [(0, 10, 13, 21), (0, 10, 17, 13), (0, 10, 21, 15)] := vx_table (x := yL_strike) B0 (hts _ List.mem_cons_self)
  have hP : va_P D vwCl (zWT cI cJ h (n, L) (kt, km, kl) (pt, pm, pl) (nu, le, ow, fo, run, wc, lc, tr, cl, tm, ms) (yl, yc, yt, co, pa, su, sc) mc ++ ((oa, .inl (cJ, 1, .inr (.inl yo))) :: R)) s.heap := hP
  have hD : va_D (zAb B) (zWT cI cJ h (n, L) (kt, km, kl) (pt, pm, pl) (nu, le, ow, fo, run, wc, lc, tr, cl, tm, ms) (yl, yc, yt, co, pa, su, sc) mc ++ ((oa, .inl (cJ, 1, .inr (.inl yo))) :: R)) := hD
  refine lv_aload_n hx hb dL_strike_0 rfl (lv_at hl 3 rfl) ?_
  refine lv_iconst (v := 0) hx hb dL_strike_1 (by decide) ?_
  refine lv_aload_n hx hb dL_strike_2 rfl (lv_at hl 0 rfl) ?_
  refine lv_iload_n hx hb dL_strike_3 rfl (lv_at hl 1 rfl) ?_
  refine lv_iload_n hx hb dL_strike_4 rfl (lv_at hl 2 rfl) ?_
  refine vx_calli (vx_runV (As := [.int key, .int time]) (rest := [.int 0, .ref oa]) ⟨hx, hb, hml, hown, hts⟩ (c_X4_strike_x1 hls   h1) (cwV 2 hts gL_strike_X4_strike rfl rfl rfl hdv_X4_strike ⟨Nat.le_of_ble_eq_true rfl, Nat.le_of_ble_eq_true rfl⟩) (zV 0 hP hD hK hE hB hS rfl rfl) rfl rfl hl.1 rfl (lv_room (Nat.le_of_ble_eq_true rfl)) dL_strike_5 ⟨Nat.le_of_ble_eq_true rfl, Nat.le_of_ble_eq_true rfl⟩) hS (fun _ _ h => h) (fun _ h => h) (fun _ _ h => h) (fun E ce q9 u t H locs ht hal hpx hbx hsz hkp hS hce hcv hcl => ?_) (fun r u t H locs ht hal hpo hbo hsz hkp hS => hpo.elim)
  obtain ⟨rfl, hP, hD⟩ := hbx
  rw [ht] at hP
  refine vx_catch (name := "java/lang/IndexOutOfBoundsException") hown [] ⟨0, 10, 13, 21⟩ [⟨0, 10, 17, 13⟩, ⟨0, 10, 21, 15⟩] htab (fun _ h9 => absurd h9 List.not_mem_nil) (by decide) (by decide) (hts (.classLink RL 21 "java/lang/IndexOutOfBoundsException") (List.mem_of_getElem? (i := 1) rfl)) (va_tabs rfl rfl (hE.2.1.1 "java/lang/IndexOutOfBoundsException" (by decide +kernel))) hce hcv hcl ?_
  have hP : va_P D vwCl (zWT cI cJ h (n, L) (kt, km, kl) (pt, pm, pl) (nu, le, ow, fo, run, wc, lc, tr, cl, tm, ms) (yl, yc, yt, co, pa, su, sc) mc ++ ((oa, .inl (cJ, 1, .inr (.inl yo))) :: R)) _ := hP
  have hD : va_D (zAb B) (zWT cI cJ h (n, L) (kt, km, kl) (pt, pm, pl) (nu, le, ow, fo, run, wc, lc, tr, cl, tm, ms) (yl, yc, yt, co, pa, su, sc) mc ++ ((oa, .inl (cJ, 1, .inr (.inl yo))) :: R)) := hD
  refine lv_astore (lv' := [(4, .ref q9), (0, .ref (h 0)), (1, .int key), (2, .int time), (3, .ref oa)]) hx hb dL_strike_13 hl (by decide) rfl (fun ls hl => ?_)
  refine lv_iconst (v := 1) hx hb dL_strike_15 (by decide) ?_
  exact W.iret (v := 1) hx hb hr (fun t ht hW => ⟨⟨_, (), rfl, rfl, by rw [ht]; exact hP, hD⟩, hS.F ht⟩) hS.2.2 dL_strike_16

set_option maxHeartbeats 1000000 in
set_option maxRecDepth 100000 in
theorem c_L_strike_x2 {l : Launch} {B kr kp : Nat} {D : va_G} {cI cJ cZ : ClassId} {h : Nat → Nat} {R : va_W} {n : Nat} {L : Nat → Int64} {kt : Nat → Int32} {km : Nat → Int32} {kl : Nat → Int32} {pt : Nat → Int32} {pm : Nat → Int32} {pl : Nat → Int32} {nu : Nat → Int32} {le : Nat → Int32} {ow : Nat → Int32} {fo : Nat → Int32} {run : Bool} {wc : Nat} {lc : Nat} {tr : Nat} {cl : Nat} {tm : Nat} {ms : Nat} {yl : Nat → Int32} {yc : Nat → Int32} {yt : Nat → Int32} {co : Nat} {pa : Int32} {su : Nat} {sc : Nat} {mc : Nat → Int32} {oa : Nat} {yo : Nat → Int64} {key : Int32} {time : Int32}   (hls : l.stackTraces = false) (h1 : ¬ key < 0 ∧ ¬ 26 ≤ key) (ht9x : time < 1 ∨ ¬ time ≤ 5000) : Met l yL_strike wsL_strike ({ frames := 7, cells := 1, slots := 6, locals := 105 }) (zPc B kr kp D (zTy cI cJ cZ) (zWT cI cJ h (n, L) (kt, km, kl) (pt, pm, pl) (nu, le, ow, fo, run, wc, lc, tr, cl, tm, ms) (yl, yc, yt, co, pa, su, sc) mc ++ ((oa, .inl (cJ, 1, .inr (.inl yo))) :: R)) [.ref (h 0), .int key, .int time, .ref oa]) (zQi B D (zWT cI cJ h (n, L) (kt, km, kl) (pt, pm, pl) (nu, le, ow, fo, run, wc, lc, tr, cl, tm, ms) (yl, yc, yt, co, pa, su, sc) mc ++ ((oa, .inl (cJ, 1, .inr (.inl yo))) :: R)) 2) 1 6 (zAb B) := by
  refine va_MetW (cc := cL_strike) (maxL := 5) (ret := (some .int)) (by decide) rfl ?_
  intro p e s m args below meth c s₁ B0 hml hv
  obtain ⟨rfl, hP, hD, hK, hE, hB⟩ := hv
  have hx := B0.exec
  have hb := B0.bytes
  have hr := B0.returns
  have hts := atoms_spec (ws := wsL_strike) B0.pre
  have hown : s.vm.findClass RL = some m.cls := findClass_of_methodNamed B0.named
  have hlocks := B0.notSynchronized
  have hA : ∀ q : Nat, s.heap.size ≤ q → zAb B q := fun q hq => Nat.le_trans hB hq
  have hS : va_S (zAb B) s.heap s.heap [] := va_S.rf
  have hgr : s.heap.size ≤ s.heap.size := Nat.le_refl _
  have hl := lv_entry ([.ref (h 0), .int key, .int time, .ref oa]) (n := 5) (Nat.le_of_ble_eq_true rfl)
  rw [lg_entry_eq]
  generalize (lg_sl ([.ref (h 0), .int key, .int time, .ref oa]) ++ List.replicate (5 - (lg_sl ([.ref (h 0), .int key, .int time, .ref oa])).length) Slot.unset).toArray = ls at hl ⊢
  have hl : lv_has ls 5 [(0, .ref (h 0)), (1, .int key), (2, .int time), (3, .ref oa)] := hl
  have htab : c.exceptionTable.toList = tableOf [(0, 10, 13, 21), (0, 10, 17, 13), (0, 10, 21, 15)] := vx_table (x := yL_strike) B0 (hts _ List.mem_cons_self)
  have hP : va_P D vwCl (zWT cI cJ h (n, L) (kt, km, kl) (pt, pm, pl) (nu, le, ow, fo, run, wc, lc, tr, cl, tm, ms) (yl, yc, yt, co, pa, su, sc) mc ++ ((oa, .inl (cJ, 1, .inr (.inl yo))) :: R)) s.heap := hP
  have hD : va_D (zAb B) (zWT cI cJ h (n, L) (kt, km, kl) (pt, pm, pl) (nu, le, ow, fo, run, wc, lc, tr, cl, tm, ms) (yl, yc, yt, co, pa, su, sc) mc ++ ((oa, .inl (cJ, 1, .inr (.inl yo))) :: R)) := hD
  refine lv_aload_n hx hb dL_strike_0 rfl (lv_at hl 3 rfl) ?_
  refine lv_iconst (v := 0) hx hb dL_strike_1 (by decide) ?_
  refine lv_aload_n hx hb dL_strike_2 rfl (lv_at hl 0 rfl) ?_
  refine lv_iload_n hx hb dL_strike_3 rfl (lv_at hl 1 rfl) ?_
  refine lv_iload_n hx hb dL_strike_4 rfl (lv_at hl 2 rfl) ?_
  refine vx_calli (vx_runV (As := [.int key, .int time]) (rest := [.int 0, .ref oa]) ⟨hx, hb, hml, hown, hts⟩ (c_X4_strike_x2 hls   h1 ht9x) (cwV 2 hts gL_strike_X4_strike rfl rfl rfl hdv_X4_strike ⟨Nat.le_of_ble_eq_true rfl, Nat.le_of_ble_eq_true rfl⟩) (zV 0 hP hD hK hE hB hS rfl rfl) rfl rfl hl.1 rfl (lv_room (Nat.le_of_ble_eq_true rfl)) dL_strike_5 ⟨Nat.le_of_ble_eq_true rfl, Nat.le_of_ble_eq_true rfl⟩) hS (fun _ _ h => h) (fun _ h => h) (fun _ _ h => h) (fun E ce q9 u t H locs ht hal hpx hbx hsz hkp hS hce hcv hcl => ?_) (fun r u t H locs ht hal hpo hbo hsz hkp hS => hpo.elim)
  obtain ⟨rfl, hP, hD⟩ := hbx
  rw [ht] at hP
  refine vx_catch (name := "java/lang/IllegalArgumentException") hown [⟨0, 10, 13, 21⟩] ⟨0, 10, 17, 13⟩ [⟨0, 10, 21, 15⟩] htab (List.forall_mem_cons.mpr ⟨Or.inr ⟨by decide, "java/lang/IndexOutOfBoundsException", (hts (.classLink RL 21 "java/lang/IndexOutOfBoundsException") (List.mem_of_getElem? (i := 1) rfl)), hE.2.1.2.2 ("java/lang/IllegalArgumentException", "java/lang/IndexOutOfBoundsException") (by decide +kernel)⟩, (fun _ h9 => absurd h9 List.not_mem_nil)⟩) (by decide) (by decide) (hts (.classLink RL 13 "java/lang/IllegalArgumentException") (List.mem_of_getElem? (i := 2) rfl)) (va_tabs rfl rfl (hE.2.1.1 "java/lang/IllegalArgumentException" (by decide +kernel))) hce hcv hcl ?_
  have hP : va_P D vwCl (zWT cI cJ h (n, L) (kt, km, kl) (pt, pm, pl) (nu, le, ow, fo, run, wc, lc, tr, cl, tm, ms) (yl, yc, yt, co, pa, su, sc) mc ++ ((oa, .inl (cJ, 1, .inr (.inl yo))) :: R)) _ := hP
  have hD : va_D (zAb B) (zWT cI cJ h (n, L) (kt, km, kl) (pt, pm, pl) (nu, le, ow, fo, run, wc, lc, tr, cl, tm, ms) (yl, yc, yt, co, pa, su, sc) mc ++ ((oa, .inl (cJ, 1, .inr (.inl yo))) :: R)) := hD
  refine lv_astore (lv' := [(4, .ref q9), (0, .ref (h 0)), (1, .int key), (2, .int time), (3, .ref oa)]) hx hb dL_strike_17 hl (by decide) rfl (fun ls hl => ?_)
  refine lv_iconst (v := 2) hx hb dL_strike_19 (by decide) ?_
  exact W.iret (v := 2) hx hb hr (fun t ht hW => ⟨⟨_, (), rfl, rfl, by rw [ht]; exact hP, hD⟩, hS.F ht⟩) hS.2.2 dL_strike_20

set_option maxHeartbeats 1000000 in
set_option maxRecDepth 100000 in
theorem c_L_strike_x3 {l : Launch} {B kr kp : Nat} {D : va_G} {cI cJ cZ : ClassId} {h : Nat → Nat} {R : va_W} {n : Nat} {L : Nat → Int64} {kt : Nat → Int32} {km : Nat → Int32} {kl : Nat → Int32} {pt : Nat → Int32} {pm : Nat → Int32} {pl : Nat → Int32} {nu : Nat → Int32} {le : Nat → Int32} {ow : Nat → Int32} {fo : Nat → Int32} {run : Bool} {wc : Nat} {lc : Nat} {tr : Nat} {cl : Nat} {tm : Nat} {ms : Nat} {yl : Nat → Int32} {yc : Nat → Int32} {yt : Nat → Int32} {co : Nat} {pa : Int32} {su : Nat} {sc : Nat} {mc : Nat → Int32} {oa : Nat} {yo : Nat → Int64} {key : Int32} {time : Int32}   (hls : l.stackTraces = false) (h1 : ¬ key < 0 ∧ ¬ 26 ≤ key) (ht1 : ¬ time < 1) (ht2 : time ≤ 5000) (hrun : run = false) : Met l yL_strike wsL_strike ({ frames := 7, cells := 1, slots := 6, locals := 105 }) (zPc B kr kp D (zTy cI cJ cZ) (zWT cI cJ h (n, L) (kt, km, kl) (pt, pm, pl) (nu, le, ow, fo, run, wc, lc, tr, cl, tm, ms) (yl, yc, yt, co, pa, su, sc) mc ++ ((oa, .inl (cJ, 1, .inr (.inl yo))) :: R)) [.ref (h 0), .int key, .int time, .ref oa]) (zQi B D (zWT cI cJ h (n, L) (kt, km, kl) (pt, pm, pl) (nu, le, ow, fo, run, wc, lc, tr, cl, tm, ms) (yl, yc, yt, co, pa, su, sc) mc ++ ((oa, .inl (cJ, 1, .inr (.inl yo))) :: R)) 3) 1 6 (zAb B) := by
  refine va_MetW (cc := cL_strike) (maxL := 5) (ret := (some .int)) (by decide) rfl ?_
  intro p e s m args below meth c s₁ B0 hml hv
  obtain ⟨rfl, hP, hD, hK, hE, hB⟩ := hv
  have hx := B0.exec
  have hb := B0.bytes
  have hr := B0.returns
  have hts := atoms_spec (ws := wsL_strike) B0.pre
  have hown : s.vm.findClass RL = some m.cls := findClass_of_methodNamed B0.named
  have hlocks := B0.notSynchronized
  have hA : ∀ q : Nat, s.heap.size ≤ q → zAb B q := fun q hq => Nat.le_trans hB hq
  have hS : va_S (zAb B) s.heap s.heap [] := va_S.rf
  have hgr : s.heap.size ≤ s.heap.size := Nat.le_refl _
  have hl := lv_entry ([.ref (h 0), .int key, .int time, .ref oa]) (n := 5) (Nat.le_of_ble_eq_true rfl)
  rw [lg_entry_eq]
  generalize (lg_sl ([.ref (h 0), .int key, .int time, .ref oa]) ++ List.replicate (5 - (lg_sl ([.ref (h 0), .int key, .int time, .ref oa])).length) Slot.unset).toArray = ls at hl ⊢
  have hl : lv_has ls 5 [(0, .ref (h 0)), (1, .int key), (2, .int time), (3, .ref oa)] := hl
  have htab : c.exceptionTable.toList = tableOf [(0, 10, 13, 21), (0, 10, 17, 13), (0, 10, 21, 15)] := vx_table (x := yL_strike) B0 (hts _ List.mem_cons_self)
  have hP : va_P D vwCl (zWT cI cJ h (n, L) (kt, km, kl) (pt, pm, pl) (nu, le, ow, fo, run, wc, lc, tr, cl, tm, ms) (yl, yc, yt, co, pa, su, sc) mc ++ ((oa, .inl (cJ, 1, .inr (.inl yo))) :: R)) s.heap := hP
  have hD : va_D (zAb B) (zWT cI cJ h (n, L) (kt, km, kl) (pt, pm, pl) (nu, le, ow, fo, run, wc, lc, tr, cl, tm, ms) (yl, yc, yt, co, pa, su, sc) mc ++ ((oa, .inl (cJ, 1, .inr (.inl yo))) :: R)) := hD
  refine lv_aload_n hx hb dL_strike_0 rfl (lv_at hl 3 rfl) ?_
  refine lv_iconst (v := 0) hx hb dL_strike_1 (by decide) ?_
  refine lv_aload_n hx hb dL_strike_2 rfl (lv_at hl 0 rfl) ?_
  refine lv_iload_n hx hb dL_strike_3 rfl (lv_at hl 1 rfl) ?_
  refine lv_iload_n hx hb dL_strike_4 rfl (lv_at hl 2 rfl) ?_
  refine vx_calli (vx_runV (As := [.int key, .int time]) (rest := [.int 0, .ref oa]) ⟨hx, hb, hml, hown, hts⟩ (c_X4_strike_x3 hls   h1 ht1 ht2 hrun) (cwV 2 hts gL_strike_X4_strike rfl rfl rfl hdv_X4_strike ⟨Nat.le_of_ble_eq_true rfl, Nat.le_of_ble_eq_true rfl⟩) (zV 0 hP hD hK hE hB hS rfl rfl) rfl rfl hl.1 rfl (lv_room (Nat.le_of_ble_eq_true rfl)) dL_strike_5 ⟨Nat.le_of_ble_eq_true rfl, Nat.le_of_ble_eq_true rfl⟩) hS (fun _ _ h => h) (fun _ h => h) (fun _ _ h => h) (fun E ce q9 u t H locs ht hal hpx hbx hsz hkp hS hce hcv hcl => ?_) (fun r u t H locs ht hal hpo hbo hsz hkp hS => hpo.elim)
  obtain ⟨rfl, hP, hD⟩ := hbx
  rw [ht] at hP
  refine vx_catch (name := "java/lang/IllegalStateException") hown [⟨0, 10, 13, 21⟩, ⟨0, 10, 17, 13⟩] ⟨0, 10, 21, 15⟩ [] htab (List.forall_mem_cons.mpr ⟨Or.inr ⟨by decide, "java/lang/IndexOutOfBoundsException", (hts (.classLink RL 21 "java/lang/IndexOutOfBoundsException") (List.mem_of_getElem? (i := 1) rfl)), hE.2.1.2.2 ("java/lang/IllegalStateException", "java/lang/IndexOutOfBoundsException") (by decide +kernel)⟩, (List.forall_mem_cons.mpr ⟨Or.inr ⟨by decide, "java/lang/IllegalArgumentException", (hts (.classLink RL 13 "java/lang/IllegalArgumentException") (List.mem_of_getElem? (i := 2) rfl)), hE.2.1.2.2 ("java/lang/IllegalStateException", "java/lang/IllegalArgumentException") (by decide +kernel)⟩, (fun _ h9 => absurd h9 List.not_mem_nil)⟩)⟩) (by decide) (by decide) (hts (.classLink RL 15 "java/lang/IllegalStateException") (List.mem_of_getElem? (i := 3) rfl)) (va_tabs rfl rfl (hE.2.1.1 "java/lang/IllegalStateException" (by decide +kernel))) hce hcv hcl ?_
  have hP : va_P D vwCl (zWT cI cJ h (n, L) (kt, km, kl) (pt, pm, pl) (nu, le, ow, fo, run, wc, lc, tr, cl, tm, ms) (yl, yc, yt, co, pa, su, sc) mc ++ ((oa, .inl (cJ, 1, .inr (.inl yo))) :: R)) _ := hP
  have hD : va_D (zAb B) (zWT cI cJ h (n, L) (kt, km, kl) (pt, pm, pl) (nu, le, ow, fo, run, wc, lc, tr, cl, tm, ms) (yl, yc, yt, co, pa, su, sc) mc ++ ((oa, .inl (cJ, 1, .inr (.inl yo))) :: R)) := hD
  refine lv_astore (lv' := [(4, .ref q9), (0, .ref (h 0)), (1, .int key), (2, .int time), (3, .ref oa)]) hx hb dL_strike_21 hl (by decide) rfl (fun ls hl => ?_)
  refine lv_iconst (v := 3) hx hb dL_strike_23 (by decide) ?_
  exact W.iret (v := 3) hx hb hr (fun t ht hW => ⟨⟨_, (), rfl, rfl, by rw [ht]; exact hP, hD⟩, hS.F ht⟩) hS.2.2 dL_strike_24

set_option maxHeartbeats 1000000 in
set_option maxRecDepth 100000 in
theorem c_L_addWord {l : Launch} {B kr kp : Nat} {D : va_G} {cI cJ cZ : ClassId} {h : Nat → Nat} {R : va_W} {n : Nat} {L : Nat → Int64} {kt : Nat → Int32} {km : Nat → Int32} {kl : Nat → Int32} {pt : Nat → Int32} {pm : Nat → Int32} {pl : Nat → Int32} {nu : Nat → Int32} {le : Nat → Int32} {ow : Nat → Int32} {fo : Nat → Int32} {run : Bool} {wc : Nat} {lc : Nat} {tr : Nat} {cl : Nat} {tm : Nat} {ms : Nat} {yl : Nat → Int32} {yc : Nat → Int32} {yt : Nat → Int32} {co : Nat} {pa : Int32} {su : Nat} {sc : Nat} {mc : Nat → Int32} {oa : Nat} {yo : Nat → Int64} {w : Int64}   (hz : zok w = true) (hn : n < 40) (hh9 : zhd L w n = false) : Met l yL_addWord wsL_addWord ({ frames := 3, cells := 0, slots := 0, locals := 66 }) (zPc B kr kp D (zTy cI cJ cZ) (zWT cI cJ h (n, L) (kt, km, kl) (pt, pm, pl) (nu, le, ow, fo, run, wc, lc, tr, cl, tm, ms) (yl, yc, yt, co, pa, su, sc) mc ++ ((oa, .inl (cJ, 1, .inr (.inl yo))) :: R)) [.ref (h 0), .long w, .ref oa]) (zQi B D (zWT cI cJ h ((n + 1), (vp_updL L n w)) (kt, km, kl) (pt, pm, pl) (nu, le, ow, fo, run, wc, lc, tr, cl, tm, ms) (yl, yc, yt, co, pa, su, sc) mc ++ ((oa, .inl (cJ, 1, .inr (.inl (vp_updL yo 0 (((nI n)).toInt64))))) :: R)) 0) 0 0 (zAb B) := by
  refine va_MetW (cc := cL_addWord) (maxL := 5) (ret := (some .int)) (by decide) rfl ?_
  intro p e s m args below meth c s₁ B0 hml hv
  obtain ⟨rfl, hP, hD, hK, hE, hB⟩ := hv
  have hx := B0.exec
  have hb := B0.bytes
  have hr := B0.returns
  have hts := atoms_spec (ws := wsL_addWord) B0.pre
  have hown : s.vm.findClass RL = some m.cls := findClass_of_methodNamed B0.named
  have hlocks := B0.notSynchronized
  have hA : ∀ q : Nat, s.heap.size ≤ q → zAb B q := fun q hq => Nat.le_trans hB hq
  have hS : va_S (zAb B) s.heap s.heap [] := va_S.rf
  have hgr : s.heap.size ≤ s.heap.size := Nat.le_refl _
  have hl := lv_entry ([.ref (h 0), .long w, .ref oa]) (n := 5) (Nat.le_of_ble_eq_true rfl)
  rw [lg_entry_eq]
  generalize (lg_sl ([.ref (h 0), .long w, .ref oa]) ++ List.replicate (5 - (lg_sl ([.ref (h 0), .long w, .ref oa])).length) Slot.unset).toArray = ls at hl ⊢
  have hl : lv_has ls 5 [(0, .ref (h 0)), (1, .long w), (3, .ref oa)] := hl
  have htab : c.exceptionTable.toList = tableOf [(0, 9, 12, 13), (0, 9, 16, 15)] := vx_table (x := yL_addWord) B0 (hts _ List.mem_cons_self)
  have hP : va_P D vwCl (zWT cI cJ h (n, L) (kt, km, kl) (pt, pm, pl) (nu, le, ow, fo, run, wc, lc, tr, cl, tm, ms) (yl, yc, yt, co, pa, su, sc) mc ++ ((oa, .inl (cJ, 1, .inr (.inl yo))) :: R)) s.heap := hP
  have hD : va_D (zAb B) (zWT cI cJ h (n, L) (kt, km, kl) (pt, pm, pl) (nu, le, ow, fo, run, wc, lc, tr, cl, tm, ms) (yl, yc, yt, co, pa, su, sc) mc ++ ((oa, .inl (cJ, 1, .inr (.inl yo))) :: R)) := hD
  refine lv_aload_n hx hb dL_addWord_0 rfl (lv_at hl 2 rfl) ?_
  refine lv_iconst (v := 0) hx hb dL_addWord_1 (by decide) ?_
  refine lv_aload_n hx hb dL_addWord_2 rfl (lv_at hl 0 rfl) ?_
  refine lv_lload_n hx hb dL_addWord_3 rfl (lv_at hl 1 rfl) ?_
  refine zci (zrV (As := [.long w]) (rest := [.int 0, .ref oa]) ⟨hx, hb, hml, hown, hts⟩ (zV 0 hP hD hK hE hB hS rfl rfl) (c_X4_addWord  (hz) (hn) (hh9)) (cwV 1 hts gL_addWord_X4_addWord rfl rfl rfl hdv_X4_addWord ⟨Nat.le_of_ble_eq_true rfl, Nat.le_of_ble_eq_true rfl⟩) rfl rfl hl.1 rfl (lv_room (Nat.le_of_ble_eq_true rfl)) dL_addWord_4 ⟨Nat.le_of_ble_eq_true rfl, Nat.le_of_ble_eq_true rfl⟩) hS (fun H locs hP hD hS => ?_)
  have hP : va_P D vwCl (zWT cI cJ h ((n + 1), (vp_updL L n w)) (kt, km, kl) (pt, pm, pl) (nu, le, ow, fo, run, wc, lc, tr, cl, tm, ms) (yl, yc, yt, co, pa, su, sc) mc ++ ((oa, .inl (cJ, 1, .inr (.inl yo))) :: R)) _ := hP
  have hD : va_D (zAb B) (zWT cI cJ h ((n + 1), (vp_updL L n w)) (kt, km, kl) (pt, pm, pl) (nu, le, ow, fo, run, wc, lc, tr, cl, tm, ms) (yl, yc, yt, co, pa, su, sc) mc ++ ((oa, .inl (cJ, 1, .inr (.inl yo))) :: R)) := hD
  refine lv_i2l (v := ((nI n)).toInt64) hx hb dL_addWord_7 rfl ?_
  refine va_last hx hb hK hP hD hS 21 1 rfl rfl (vp_in_nI (n := 0) (N := 1) (by omega) (by omega)) dL_addWord_8 (fun H locs hP hD hS => ?_)
  rw [pk_cl (x := (0 : Int32)) 0 (rfl) (by omega)] at hP hD
  have hP : va_P D vwCl (zWT cI cJ h ((n + 1), (vp_updL L n w)) (kt, km, kl) (pt, pm, pl) (nu, le, ow, fo, run, wc, lc, tr, cl, tm, ms) (yl, yc, yt, co, pa, su, sc) mc ++ ((oa, .inl (cJ, 1, .inr (.inl (vp_updL yo 0 (((nI n)).toInt64))))) :: R)) _ := hP
  have hD : va_D (zAb B) (zWT cI cJ h ((n + 1), (vp_updL L n w)) (kt, km, kl) (pt, pm, pl) (nu, le, ow, fo, run, wc, lc, tr, cl, tm, ms) (yl, yc, yt, co, pa, su, sc) mc ++ ((oa, .inl (cJ, 1, .inr (.inl (vp_updL yo 0 (((nI n)).toInt64))))) :: R)) := hD
  refine lv_goto (tgt := 20) hx hb dL_addWord_9 (by decide) ?_
  refine lv_iconst (v := 0) hx hb dL_addWord_20 (by decide) ?_
  exact W.iret (v := 0) hx hb hr (fun t ht hW => ⟨⟨_, (), rfl, rfl, by rw [ht]; exact hP, hD⟩, hS.F ht⟩) hS.2.2 dL_addWord_21

set_option maxHeartbeats 1000000 in
set_option maxRecDepth 100000 in
theorem c_L_addWord_x1 {l : Launch} {B kr kp : Nat} {D : va_G} {cI cJ cZ : ClassId} {h : Nat → Nat} {R : va_W} {n : Nat} {L : Nat → Int64} {kt : Nat → Int32} {km : Nat → Int32} {kl : Nat → Int32} {pt : Nat → Int32} {pm : Nat → Int32} {pl : Nat → Int32} {nu : Nat → Int32} {le : Nat → Int32} {ow : Nat → Int32} {fo : Nat → Int32} {run : Bool} {wc : Nat} {lc : Nat} {tr : Nat} {cl : Nat} {tm : Nat} {ms : Nat} {yl : Nat → Int32} {yc : Nat → Int32} {yt : Nat → Int32} {co : Nat} {pa : Int32} {su : Nat} {sc : Nat} {mc : Nat → Int32} {oa : Nat} {yo : Nat → Int64} {w : Int64}   (hls : l.stackTraces = false) (hz : zok w = false) : Met l yL_addWord wsL_addWord ({ frames := 7, cells := 1, slots := 6, locals := 104 }) (zPc B kr kp D (zTy cI cJ cZ) (zWT cI cJ h (n, L) (kt, km, kl) (pt, pm, pl) (nu, le, ow, fo, run, wc, lc, tr, cl, tm, ms) (yl, yc, yt, co, pa, su, sc) mc ++ ((oa, .inl (cJ, 1, .inr (.inl yo))) :: R)) [.ref (h 0), .long w, .ref oa]) (zQi B D (zWT cI cJ h (n, L) (kt, km, kl) (pt, pm, pl) (nu, le, ow, fo, run, wc, lc, tr, cl, tm, ms) (yl, yc, yt, co, pa, su, sc) mc ++ ((oa, .inl (cJ, 1, .inr (.inl yo))) :: R)) 1) 1 6 (zAb B) := by
  refine va_MetW (cc := cL_addWord) (maxL := 5) (ret := (some .int)) (by decide) rfl ?_
  intro p e s m args below meth c s₁ B0 hml hv
  obtain ⟨rfl, hP, hD, hK, hE, hB⟩ := hv
  have hx := B0.exec
  have hb := B0.bytes
  have hr := B0.returns
  have hts := atoms_spec (ws := wsL_addWord) B0.pre
  have hown : s.vm.findClass RL = some m.cls := findClass_of_methodNamed B0.named
  have hlocks := B0.notSynchronized
  have hA : ∀ q : Nat, s.heap.size ≤ q → zAb B q := fun q hq => Nat.le_trans hB hq
  have hS : va_S (zAb B) s.heap s.heap [] := va_S.rf
  have hgr : s.heap.size ≤ s.heap.size := Nat.le_refl _
  have hl := lv_entry ([.ref (h 0), .long w, .ref oa]) (n := 5) (Nat.le_of_ble_eq_true rfl)
  rw [lg_entry_eq]
  generalize (lg_sl ([.ref (h 0), .long w, .ref oa]) ++ List.replicate (5 - (lg_sl ([.ref (h 0), .long w, .ref oa])).length) Slot.unset).toArray = ls at hl ⊢
  have hl : lv_has ls 5 [(0, .ref (h 0)), (1, .long w), (3, .ref oa)] := hl
  have htab : c.exceptionTable.toList = tableOf [(0, 9, 12, 13), (0, 9, 16, 15)] := vx_table (x := yL_addWord) B0 (hts _ List.mem_cons_self)
  have hP : va_P D vwCl (zWT cI cJ h (n, L) (kt, km, kl) (pt, pm, pl) (nu, le, ow, fo, run, wc, lc, tr, cl, tm, ms) (yl, yc, yt, co, pa, su, sc) mc ++ ((oa, .inl (cJ, 1, .inr (.inl yo))) :: R)) s.heap := hP
  have hD : va_D (zAb B) (zWT cI cJ h (n, L) (kt, km, kl) (pt, pm, pl) (nu, le, ow, fo, run, wc, lc, tr, cl, tm, ms) (yl, yc, yt, co, pa, su, sc) mc ++ ((oa, .inl (cJ, 1, .inr (.inl yo))) :: R)) := hD
  refine lv_aload_n hx hb dL_addWord_0 rfl (lv_at hl 2 rfl) ?_
  refine lv_iconst (v := 0) hx hb dL_addWord_1 (by decide) ?_
  refine lv_aload_n hx hb dL_addWord_2 rfl (lv_at hl 0 rfl) ?_
  refine lv_lload_n hx hb dL_addWord_3 rfl (lv_at hl 1 rfl) ?_
  refine vx_calli (vx_runV (As := [.long w]) (rest := [.int 0, .ref oa]) ⟨hx, hb, hml, hown, hts⟩ (c_X4_addWord_x1 hls   hz) (cwV 1 hts gL_addWord_X4_addWord rfl rfl rfl hdv_X4_addWord ⟨Nat.le_of_ble_eq_true rfl, Nat.le_of_ble_eq_true rfl⟩) (zV 0 hP hD hK hE hB hS rfl rfl) rfl rfl hl.1 rfl (lv_room (Nat.le_of_ble_eq_true rfl)) dL_addWord_4 ⟨Nat.le_of_ble_eq_true rfl, Nat.le_of_ble_eq_true rfl⟩) hS (fun _ _ h => h) (fun _ h => h) (fun _ _ h => h) (fun E ce q9 u t H locs ht hal hpx hbx hsz hkp hS hce hcv hcl => ?_) (fun r u t H locs ht hal hpo hbo hsz hkp hS => hpo.elim)
  obtain ⟨rfl, hP, hD⟩ := hbx
  rw [ht] at hP
  refine vx_catch (name := "java/lang/IllegalArgumentException") hown [] ⟨0, 9, 12, 13⟩ [⟨0, 9, 16, 15⟩] htab (fun _ h9 => absurd h9 List.not_mem_nil) (by decide) (by decide) (hts (.classLink RL 13 "java/lang/IllegalArgumentException") (List.mem_of_getElem? (i := 1) rfl)) (va_tabs rfl rfl (hE.2.1.1 "java/lang/IllegalArgumentException" (by decide +kernel))) hce hcv hcl ?_
  have hP : va_P D vwCl (zWT cI cJ h (n, L) (kt, km, kl) (pt, pm, pl) (nu, le, ow, fo, run, wc, lc, tr, cl, tm, ms) (yl, yc, yt, co, pa, su, sc) mc ++ ((oa, .inl (cJ, 1, .inr (.inl yo))) :: R)) _ := hP
  have hD : va_D (zAb B) (zWT cI cJ h (n, L) (kt, km, kl) (pt, pm, pl) (nu, le, ow, fo, run, wc, lc, tr, cl, tm, ms) (yl, yc, yt, co, pa, su, sc) mc ++ ((oa, .inl (cJ, 1, .inr (.inl yo))) :: R)) := hD
  refine lv_astore (lv' := [(4, .ref q9), (0, .ref (h 0)), (1, .long w), (3, .ref oa)]) hx hb dL_addWord_12 hl (by decide) rfl (fun ls hl => ?_)
  refine lv_iconst (v := 1) hx hb dL_addWord_14 (by decide) ?_
  exact W.iret (v := 1) hx hb hr (fun t ht hW => ⟨⟨_, (), rfl, rfl, by rw [ht]; exact hP, hD⟩, hS.F ht⟩) hS.2.2 dL_addWord_15

set_option maxHeartbeats 1000000 in
set_option maxRecDepth 100000 in
theorem c_L_addWord_x2 {l : Launch} {B kr kp : Nat} {D : va_G} {cI cJ cZ : ClassId} {h : Nat → Nat} {R : va_W} {n : Nat} {L : Nat → Int64} {kt : Nat → Int32} {km : Nat → Int32} {kl : Nat → Int32} {pt : Nat → Int32} {pm : Nat → Int32} {pl : Nat → Int32} {nu : Nat → Int32} {le : Nat → Int32} {ow : Nat → Int32} {fo : Nat → Int32} {run : Bool} {wc : Nat} {lc : Nat} {tr : Nat} {cl : Nat} {tm : Nat} {ms : Nat} {yl : Nat → Int32} {yc : Nat → Int32} {yt : Nat → Int32} {co : Nat} {pa : Int32} {su : Nat} {sc : Nat} {mc : Nat → Int32} {oa : Nat} {yo : Nat → Int64} {w : Int64}   (hls : l.stackTraces = false) (hz : zok w = true) (hn : n ≤ 40) (hf : ¬ n < 40 ∨ zhd L w n = true) : Met l yL_addWord wsL_addWord ({ frames := 7, cells := 1, slots := 6, locals := 104 }) (zPc B kr kp D (zTy cI cJ cZ) (zWT cI cJ h (n, L) (kt, km, kl) (pt, pm, pl) (nu, le, ow, fo, run, wc, lc, tr, cl, tm, ms) (yl, yc, yt, co, pa, su, sc) mc ++ ((oa, .inl (cJ, 1, .inr (.inl yo))) :: R)) [.ref (h 0), .long w, .ref oa]) (zQi B D (zWT cI cJ h (n, L) (kt, km, kl) (pt, pm, pl) (nu, le, ow, fo, run, wc, lc, tr, cl, tm, ms) (yl, yc, yt, co, pa, su, sc) mc ++ ((oa, .inl (cJ, 1, .inr (.inl yo))) :: R)) 2) 1 6 (zAb B) := by
  refine va_MetW (cc := cL_addWord) (maxL := 5) (ret := (some .int)) (by decide) rfl ?_
  intro p e s m args below meth c s₁ B0 hml hv
  obtain ⟨rfl, hP, hD, hK, hE, hB⟩ := hv
  have hx := B0.exec
  have hb := B0.bytes
  have hr := B0.returns
  have hts := atoms_spec (ws := wsL_addWord) B0.pre
  have hown : s.vm.findClass RL = some m.cls := findClass_of_methodNamed B0.named
  have hlocks := B0.notSynchronized
  have hA : ∀ q : Nat, s.heap.size ≤ q → zAb B q := fun q hq => Nat.le_trans hB hq
  have hS : va_S (zAb B) s.heap s.heap [] := va_S.rf
  have hgr : s.heap.size ≤ s.heap.size := Nat.le_refl _
  have hl := lv_entry ([.ref (h 0), .long w, .ref oa]) (n := 5) (Nat.le_of_ble_eq_true rfl)
  rw [lg_entry_eq]
  generalize (lg_sl ([.ref (h 0), .long w, .ref oa]) ++ List.replicate (5 - (lg_sl ([.ref (h 0), .long w, .ref oa])).length) Slot.unset).toArray = ls at hl ⊢
  have hl : lv_has ls 5 [(0, .ref (h 0)), (1, .long w), (3, .ref oa)] := hl
  have htab : c.exceptionTable.toList = tableOf [(0, 9, 12, 13), (0, 9, 16, 15)] := vx_table (x := yL_addWord) B0 (hts _ List.mem_cons_self)
  have hP : va_P D vwCl (zWT cI cJ h (n, L) (kt, km, kl) (pt, pm, pl) (nu, le, ow, fo, run, wc, lc, tr, cl, tm, ms) (yl, yc, yt, co, pa, su, sc) mc ++ ((oa, .inl (cJ, 1, .inr (.inl yo))) :: R)) s.heap := hP
  have hD : va_D (zAb B) (zWT cI cJ h (n, L) (kt, km, kl) (pt, pm, pl) (nu, le, ow, fo, run, wc, lc, tr, cl, tm, ms) (yl, yc, yt, co, pa, su, sc) mc ++ ((oa, .inl (cJ, 1, .inr (.inl yo))) :: R)) := hD
  refine lv_aload_n hx hb dL_addWord_0 rfl (lv_at hl 2 rfl) ?_
  refine lv_iconst (v := 0) hx hb dL_addWord_1 (by decide) ?_
  refine lv_aload_n hx hb dL_addWord_2 rfl (lv_at hl 0 rfl) ?_
  refine lv_lload_n hx hb dL_addWord_3 rfl (lv_at hl 1 rfl) ?_
  refine vx_calli (vx_runV (As := [.long w]) (rest := [.int 0, .ref oa]) ⟨hx, hb, hml, hown, hts⟩ (c_X4_addWord_x2 hls   hz hn hf) (cwV 1 hts gL_addWord_X4_addWord rfl rfl rfl hdv_X4_addWord ⟨Nat.le_of_ble_eq_true rfl, Nat.le_of_ble_eq_true rfl⟩) (zV 0 hP hD hK hE hB hS rfl rfl) rfl rfl hl.1 rfl (lv_room (Nat.le_of_ble_eq_true rfl)) dL_addWord_4 ⟨Nat.le_of_ble_eq_true rfl, Nat.le_of_ble_eq_true rfl⟩) hS (fun _ _ h => h) (fun _ h => h) (fun _ _ h => h) (fun E ce q9 u t H locs ht hal hpx hbx hsz hkp hS hce hcv hcl => ?_) (fun r u t H locs ht hal hpo hbo hsz hkp hS => hpo.elim)
  obtain ⟨rfl, hP, hD⟩ := hbx
  rw [ht] at hP
  refine vx_catch (name := "java/lang/IllegalStateException") hown [⟨0, 9, 12, 13⟩] ⟨0, 9, 16, 15⟩ [] htab (List.forall_mem_cons.mpr ⟨Or.inr ⟨by decide, "java/lang/IllegalArgumentException", (hts (.classLink RL 13 "java/lang/IllegalArgumentException") (List.mem_of_getElem? (i := 1) rfl)), hE.2.1.2.2 ("java/lang/IllegalStateException", "java/lang/IllegalArgumentException") (by decide +kernel)⟩, (fun _ h9 => absurd h9 List.not_mem_nil)⟩) (by decide) (by decide) (hts (.classLink RL 15 "java/lang/IllegalStateException") (List.mem_of_getElem? (i := 2) rfl)) (va_tabs rfl rfl (hE.2.1.1 "java/lang/IllegalStateException" (by decide +kernel))) hce hcv hcl ?_
  have hP : va_P D vwCl (zWT cI cJ h (n, L) (kt, km, kl) (pt, pm, pl) (nu, le, ow, fo, run, wc, lc, tr, cl, tm, ms) (yl, yc, yt, co, pa, su, sc) mc ++ ((oa, .inl (cJ, 1, .inr (.inl yo))) :: R)) _ := hP
  have hD : va_D (zAb B) (zWT cI cJ h (n, L) (kt, km, kl) (pt, pm, pl) (nu, le, ow, fo, run, wc, lc, tr, cl, tm, ms) (yl, yc, yt, co, pa, su, sc) mc ++ ((oa, .inl (cJ, 1, .inr (.inl yo))) :: R)) := hD
  refine lv_astore (lv' := [(4, .ref q9), (0, .ref (h 0)), (1, .long w), (3, .ref oa)]) hx hb dL_addWord_16 hl (by decide) rfl (fun ls hl => ?_)
  refine lv_iconst (v := 2) hx hb dL_addWord_18 (by decide) ?_
  exact W.iret (v := 2) hx hb hr (fun t ht hW => ⟨⟨_, (), rfl, rfl, by rw [ht]; exact hP, hD⟩, hS.F ht⟩) hS.2.2 dL_addWord_19

set_option maxHeartbeats 1000000 in
set_option maxRecDepth 100000 in
theorem c_L_word {l : Launch} {B kr kp : Nat} {D : va_G} {cI cJ cZ : ClassId} {h : Nat → Nat} {R : va_W} {n : Nat} {L : Nat → Int64} {kt : Nat → Int32} {km : Nat → Int32} {kl : Nat → Int32} {pt : Nat → Int32} {pm : Nat → Int32} {pl : Nat → Int32} {nu : Nat → Int32} {le : Nat → Int32} {ow : Nat → Int32} {fo : Nat → Int32} {run : Bool} {wc : Nat} {lc : Nat} {tr : Nat} {cl : Nat} {tm : Nat} {ms : Nat} {yl : Nat → Int32} {yc : Nat → Int32} {yt : Nat → Int32} {co : Nat} {pa : Int32} {su : Nat} {sc : Nat} {mc : Nat → Int32} {oa : Nat} {yo : Nat → Int64} {k : Nat}   (hk : k < n) (hn : n ≤ 40) : Met l yL_word wsL_word ({ frames := 2, cells := 0, slots := 0, locals := 42 }) (zPc B kr kp D (zTy cI cJ cZ) (zWT cI cJ h (n, L) (kt, km, kl) (pt, pm, pl) (nu, le, ow, fo, run, wc, lc, tr, cl, tm, ms) (yl, yc, yt, co, pa, su, sc) mc ++ ((oa, .inl (cJ, 1, .inr (.inl yo))) :: R)) [.ref (h 0), .int (nI k), .ref oa]) (zQi B D (zWT cI cJ h (n, L) (kt, km, kl) (pt, pm, pl) (nu, le, ow, fo, run, wc, lc, tr, cl, tm, ms) (yl, yc, yt, co, pa, su, sc) mc ++ ((oa, .inl (cJ, 1, .inr (.inl (vp_updL yo 0 (L k))))) :: R)) 0) 0 0 (zAb B) := by
  refine va_MetW (cc := cL_word) (maxL := 4) (ret := (some .int)) (by decide) rfl ?_
  intro p e s m args below meth c s₁ B0 hml hv
  obtain ⟨rfl, hP, hD, hK, hE, hB⟩ := hv
  have hx := B0.exec
  have hb := B0.bytes
  have hr := B0.returns
  have hts := atoms_spec (ws := wsL_word) B0.pre
  have hown : s.vm.findClass RL = some m.cls := findClass_of_methodNamed B0.named
  have hlocks := B0.notSynchronized
  have hA : ∀ q : Nat, s.heap.size ≤ q → zAb B q := fun q hq => Nat.le_trans hB hq
  have hS : va_S (zAb B) s.heap s.heap [] := va_S.rf
  have hgr : s.heap.size ≤ s.heap.size := Nat.le_refl _
  have hl := lv_entry ([.ref (h 0), .int (nI k), .ref oa]) (n := 4) (Nat.le_of_ble_eq_true rfl)
  rw [lg_entry_eq]
  generalize (lg_sl ([.ref (h 0), .int (nI k), .ref oa]) ++ List.replicate (4 - (lg_sl ([.ref (h 0), .int (nI k), .ref oa])).length) Slot.unset).toArray = ls at hl ⊢
  have hl : lv_has ls 4 [(0, .ref (h 0)), (1, .int (nI k)), (2, .ref oa)] := hl
  have htab : c.exceptionTable.toList = tableOf [(0, 8, 11, 21)] := vx_table (x := yL_word) B0 (hts _ List.mem_cons_self)
  have hP : va_P D vwCl (zWT cI cJ h (n, L) (kt, km, kl) (pt, pm, pl) (nu, le, ow, fo, run, wc, lc, tr, cl, tm, ms) (yl, yc, yt, co, pa, su, sc) mc ++ ((oa, .inl (cJ, 1, .inr (.inl yo))) :: R)) s.heap := hP
  have hD : va_D (zAb B) (zWT cI cJ h (n, L) (kt, km, kl) (pt, pm, pl) (nu, le, ow, fo, run, wc, lc, tr, cl, tm, ms) (yl, yc, yt, co, pa, su, sc) mc ++ ((oa, .inl (cJ, 1, .inr (.inl yo))) :: R)) := hD
  refine lv_aload_n hx hb dL_word_0 rfl (lv_at hl 2 rfl) ?_
  refine lv_iconst (v := 0) hx hb dL_word_1 (by decide) ?_
  refine lv_aload_n hx hb dL_word_2 rfl (lv_at hl 0 rfl) ?_
  refine lv_iload_n hx hb dL_word_3 rfl (lv_at hl 1 rfl) ?_
  refine zcl (zrV (As := [.int (nI k)]) (rest := [.int 0, .ref oa]) ⟨hx, hb, hml, hown, hts⟩ (zV 0 hP hD hK hE hB hS rfl rfl) (c_X4_word (k := k) (hk) (hn)) (cwV 1 hts gL_word_X4_word rfl rfl rfl hdv_X4_word ⟨Nat.le_of_ble_eq_true rfl, Nat.le_of_ble_eq_true rfl⟩) rfl rfl hl.1 rfl (lv_room (Nat.le_of_ble_eq_true rfl)) dL_word_4 ⟨Nat.le_of_ble_eq_true rfl, Nat.le_of_ble_eq_true rfl⟩) hS (fun H locs hP hD hS => ?_)
  have hP : va_P D vwCl (zWT cI cJ h (n, L) (kt, km, kl) (pt, pm, pl) (nu, le, ow, fo, run, wc, lc, tr, cl, tm, ms) (yl, yc, yt, co, pa, su, sc) mc ++ ((oa, .inl (cJ, 1, .inr (.inl yo))) :: R)) _ := hP
  have hD : va_D (zAb B) (zWT cI cJ h (n, L) (kt, km, kl) (pt, pm, pl) (nu, le, ow, fo, run, wc, lc, tr, cl, tm, ms) (yl, yc, yt, co, pa, su, sc) mc ++ ((oa, .inl (cJ, 1, .inr (.inl yo))) :: R)) := hD
  refine va_last hx hb hK hP hD hS 21 1 rfl rfl (vp_in_nI (n := 0) (N := 1) (by omega) (by omega)) dL_word_7 (fun H locs hP hD hS => ?_)
  rw [pk_cl (x := (0 : Int32)) 0 (rfl) (by omega)] at hP hD
  have hP : va_P D vwCl (zWT cI cJ h (n, L) (kt, km, kl) (pt, pm, pl) (nu, le, ow, fo, run, wc, lc, tr, cl, tm, ms) (yl, yc, yt, co, pa, su, sc) mc ++ ((oa, .inl (cJ, 1, .inr (.inl (vp_updL yo 0 (L k))))) :: R)) _ := hP
  have hD : va_D (zAb B) (zWT cI cJ h (n, L) (kt, km, kl) (pt, pm, pl) (nu, le, ow, fo, run, wc, lc, tr, cl, tm, ms) (yl, yc, yt, co, pa, su, sc) mc ++ ((oa, .inl (cJ, 1, .inr (.inl (vp_updL yo 0 (L k))))) :: R)) := hD
  refine lv_goto (tgt := 14) hx hb dL_word_8 (by decide) ?_
  refine lv_iconst (v := 0) hx hb dL_word_14 (by decide) ?_
  exact W.iret (v := 0) hx hb hr (fun t ht hW => ⟨⟨_, (), rfl, rfl, by rw [ht]; exact hP, hD⟩, hS.F ht⟩) hS.2.2 dL_word_15

set_option maxHeartbeats 1000000 in
set_option maxRecDepth 100000 in
theorem c_L_word_x {l : Launch} {B kr kp : Nat} {D : va_G} {cI cJ cZ : ClassId} {h : Nat → Nat} {R : va_W} {n : Nat} {L : Nat → Int64} {kt : Nat → Int32} {km : Nat → Int32} {kl : Nat → Int32} {pt : Nat → Int32} {pm : Nat → Int32} {pl : Nat → Int32} {nu : Nat → Int32} {le : Nat → Int32} {ow : Nat → Int32} {fo : Nat → Int32} {run : Bool} {wc : Nat} {lc : Nat} {tr : Nat} {cl : Nat} {tm : Nat} {ms : Nat} {yl : Nat → Int32} {yc : Nat → Int32} {yt : Nat → Int32} {co : Nat} {pa : Int32} {su : Nat} {sc : Nat} {mc : Nat → Int32} {oa : Nat} {yo : Nat → Int64} {i : Int32}   (hls : l.stackTraces = false) (hi : i < 0 ∨ nI n ≤ i) (hn : n ≤ 40) : Met l yL_word wsL_word ({ frames := 7, cells := 1, slots := 6, locals := 103 }) (zPc B kr kp D (zTy cI cJ cZ) (zWT cI cJ h (n, L) (kt, km, kl) (pt, pm, pl) (nu, le, ow, fo, run, wc, lc, tr, cl, tm, ms) (yl, yc, yt, co, pa, su, sc) mc ++ ((oa, .inl (cJ, 1, .inr (.inl yo))) :: R)) [.ref (h 0), .int i, .ref oa]) (zQi B D (zWT cI cJ h (n, L) (kt, km, kl) (pt, pm, pl) (nu, le, ow, fo, run, wc, lc, tr, cl, tm, ms) (yl, yc, yt, co, pa, su, sc) mc ++ ((oa, .inl (cJ, 1, .inr (.inl yo))) :: R)) 1) 1 6 (zAb B) := by
  refine va_MetW (cc := cL_word) (maxL := 4) (ret := (some .int)) (by decide) rfl ?_
  intro p e s m args below meth c s₁ B0 hml hv
  obtain ⟨rfl, hP, hD, hK, hE, hB⟩ := hv
  have hx := B0.exec
  have hb := B0.bytes
  have hr := B0.returns
  have hts := atoms_spec (ws := wsL_word) B0.pre
  have hown : s.vm.findClass RL = some m.cls := findClass_of_methodNamed B0.named
  have hlocks := B0.notSynchronized
  have hA : ∀ q : Nat, s.heap.size ≤ q → zAb B q := fun q hq => Nat.le_trans hB hq
  have hS : va_S (zAb B) s.heap s.heap [] := va_S.rf
  have hgr : s.heap.size ≤ s.heap.size := Nat.le_refl _
  have hl := lv_entry ([.ref (h 0), .int i, .ref oa]) (n := 4) (Nat.le_of_ble_eq_true rfl)
  rw [lg_entry_eq]
  generalize (lg_sl ([.ref (h 0), .int i, .ref oa]) ++ List.replicate (4 - (lg_sl ([.ref (h 0), .int i, .ref oa])).length) Slot.unset).toArray = ls at hl ⊢
  have hl : lv_has ls 4 [(0, .ref (h 0)), (1, .int i), (2, .ref oa)] := hl
  have htab : c.exceptionTable.toList = tableOf [(0, 8, 11, 21)] := vx_table (x := yL_word) B0 (hts _ List.mem_cons_self)
  have hP : va_P D vwCl (zWT cI cJ h (n, L) (kt, km, kl) (pt, pm, pl) (nu, le, ow, fo, run, wc, lc, tr, cl, tm, ms) (yl, yc, yt, co, pa, su, sc) mc ++ ((oa, .inl (cJ, 1, .inr (.inl yo))) :: R)) s.heap := hP
  have hD : va_D (zAb B) (zWT cI cJ h (n, L) (kt, km, kl) (pt, pm, pl) (nu, le, ow, fo, run, wc, lc, tr, cl, tm, ms) (yl, yc, yt, co, pa, su, sc) mc ++ ((oa, .inl (cJ, 1, .inr (.inl yo))) :: R)) := hD
  refine lv_aload_n hx hb dL_word_0 rfl (lv_at hl 2 rfl) ?_
  refine lv_iconst (v := 0) hx hb dL_word_1 (by decide) ?_
  refine lv_aload_n hx hb dL_word_2 rfl (lv_at hl 0 rfl) ?_
  refine lv_iload_n hx hb dL_word_3 rfl (lv_at hl 1 rfl) ?_
  refine vx_calll (vx_runV (As := [.int i]) (rest := [.int 0, .ref oa]) ⟨hx, hb, hml, hown, hts⟩ (c_X4_word_x hls   hi hn) (cwV 1 hts gL_word_X4_word rfl rfl rfl hdv_X4_word ⟨Nat.le_of_ble_eq_true rfl, Nat.le_of_ble_eq_true rfl⟩) (zV 0 hP hD hK hE hB hS rfl rfl) rfl rfl hl.1 rfl (lv_room (Nat.le_of_ble_eq_true rfl)) dL_word_4 ⟨Nat.le_of_ble_eq_true rfl, Nat.le_of_ble_eq_true rfl⟩) hS (fun _ _ h => h) (fun _ h => h) (fun _ _ h => h) (fun E ce q9 u t H locs ht hal hpx hbx hsz hkp hS hce hcv hcl => ?_) (fun r u t H locs ht hal hpo hbo hsz hkp hS => hpo.elim)
  obtain ⟨rfl, hP, hD⟩ := hbx
  rw [ht] at hP
  refine vx_catch (name := "java/lang/IndexOutOfBoundsException") hown [] ⟨0, 8, 11, 21⟩ [] htab (fun _ h9 => absurd h9 List.not_mem_nil) (by decide) (by decide) (hts (.classLink RL 21 "java/lang/IndexOutOfBoundsException") (List.mem_of_getElem? (i := 1) rfl)) (va_tabs rfl rfl (hE.2.1.1 "java/lang/IndexOutOfBoundsException" (by decide +kernel))) hce hcv hcl ?_
  have hP : va_P D vwCl (zWT cI cJ h (n, L) (kt, km, kl) (pt, pm, pl) (nu, le, ow, fo, run, wc, lc, tr, cl, tm, ms) (yl, yc, yt, co, pa, su, sc) mc ++ ((oa, .inl (cJ, 1, .inr (.inl yo))) :: R)) _ := hP
  have hD : va_D (zAb B) (zWT cI cJ h (n, L) (kt, km, kl) (pt, pm, pl) (nu, le, ow, fo, run, wc, lc, tr, cl, tm, ms) (yl, yc, yt, co, pa, su, sc) mc ++ ((oa, .inl (cJ, 1, .inr (.inl yo))) :: R)) := hD
  refine lv_astore_n (lv' := [(3, .ref q9), (0, .ref (h 0)), (1, .int i), (2, .ref oa)]) hx hb dL_word_11 rfl hl (by decide) rfl (fun ls hl => ?_)
  refine lv_iconst (v := 1) hx hb dL_word_12 (by decide) ?_
  exact W.iret (v := 1) hx hb hr (fun t ht hW => ⟨⟨_, (), rfl, rfl, by rw [ht]; exact hP, hD⟩, hS.F ht⟩) hS.2.2 dL_word_13

set_option maxHeartbeats 1000000 in
set_option maxRecDepth 100000 in
theorem c_L_weight {l : Launch} {B kr kp : Nat} {D : va_G} {cI cJ cZ : ClassId} {h : Nat → Nat} {R : va_W} {n : Nat} {L : Nat → Int64} {kt : Nat → Int32} {km : Nat → Int32} {kl : Nat → Int32} {pt : Nat → Int32} {pm : Nat → Int32} {pl : Nat → Int32} {nu : Nat → Int32} {le : Nat → Int32} {ow : Nat → Int32} {fo : Nat → Int32} {run : Bool} {wc : Nat} {lc : Nat} {tr : Nat} {cl : Nat} {tm : Nat} {ms : Nat} {yl : Nat → Int32} {yc : Nat → Int32} {yt : Nat → Int32} {co : Nat} {pa : Int32} {su : Nat} {sc : Nat} {mc : Nat → Int32} {oa : Nat} {yo : Nat → Int64} {k : Nat}   (hk : k < n) (hn : n ≤ 40) (hL : 0 < zsz (L k)) : Met l yL_weight wsL_weight ({ frames := 5, cells := 0, slots := 0, locals := 110 }) (zPc B kr kp D (zTy cI cJ cZ) (zWT cI cJ h (n, L) (kt, km, kl) (pt, pm, pl) (nu, le, ow, fo, run, wc, lc, tr, cl, tm, ms) (yl, yc, yt, co, pa, su, sc) mc ++ ((oa, .inl (cJ, 1, .inr (.inl yo))) :: R)) [.ref (h 0), .int (nI k), .ref oa]) (zQi B D (zWT cI cJ h (n, L) (kt, km, kl) (pt, pm, pl) (nu, le, ow, fo, run, wc, lc, tr, cl, tm, ms) (yl, yc, yt, co, pa, su, sc) mc ++ ((oa, .inl (cJ, 1, .inr (.inl (vp_updL yo 0 (((zwg kl pt pl (L k))).toInt64))))) :: R)) 0) 0 0 (zAb B) := by
  refine va_MetW (cc := cL_weight) (maxL := 4) (ret := (some .int)) (by decide) rfl ?_
  intro p e s m args below meth c s₁ B0 hml hv
  obtain ⟨rfl, hP, hD, hK, hE, hB⟩ := hv
  have hx := B0.exec
  have hb := B0.bytes
  have hr := B0.returns
  have hts := atoms_spec (ws := wsL_weight) B0.pre
  have hown : s.vm.findClass RL = some m.cls := findClass_of_methodNamed B0.named
  have hlocks := B0.notSynchronized
  have hA : ∀ q : Nat, s.heap.size ≤ q → zAb B q := fun q hq => Nat.le_trans hB hq
  have hS : va_S (zAb B) s.heap s.heap [] := va_S.rf
  have hgr : s.heap.size ≤ s.heap.size := Nat.le_refl _
  have hl := lv_entry ([.ref (h 0), .int (nI k), .ref oa]) (n := 4) (Nat.le_of_ble_eq_true rfl)
  rw [lg_entry_eq]
  generalize (lg_sl ([.ref (h 0), .int (nI k), .ref oa]) ++ List.replicate (4 - (lg_sl ([.ref (h 0), .int (nI k), .ref oa])).length) Slot.unset).toArray = ls at hl ⊢
  have hl : lv_has ls 4 [(0, .ref (h 0)), (1, .int (nI k)), (2, .ref oa)] := hl
  have htab : c.exceptionTable.toList = tableOf [(0, 9, 12, 21)] := vx_table (x := yL_weight) B0 (hts _ List.mem_cons_self)
  have hP : va_P D vwCl (zWT cI cJ h (n, L) (kt, km, kl) (pt, pm, pl) (nu, le, ow, fo, run, wc, lc, tr, cl, tm, ms) (yl, yc, yt, co, pa, su, sc) mc ++ ((oa, .inl (cJ, 1, .inr (.inl yo))) :: R)) s.heap := hP
  have hD : va_D (zAb B) (zWT cI cJ h (n, L) (kt, km, kl) (pt, pm, pl) (nu, le, ow, fo, run, wc, lc, tr, cl, tm, ms) (yl, yc, yt, co, pa, su, sc) mc ++ ((oa, .inl (cJ, 1, .inr (.inl yo))) :: R)) := hD
  refine lv_aload_n hx hb dL_weight_0 rfl (lv_at hl 2 rfl) ?_
  refine lv_iconst (v := 0) hx hb dL_weight_1 (by decide) ?_
  refine lv_aload_n hx hb dL_weight_2 rfl (lv_at hl 0 rfl) ?_
  refine lv_iload_n hx hb dL_weight_3 rfl (lv_at hl 1 rfl) ?_
  refine zci (zrV (As := [.int (nI k)]) (rest := [.int 0, .ref oa]) ⟨hx, hb, hml, hown, hts⟩ (zV 0 hP hD hK hE hB hS rfl rfl) (c_X4_weight (k := k) (hk) (hn) (hL)) (cwV 1 hts gL_weight_X4_weight rfl rfl rfl hdv_X4_weight ⟨Nat.le_of_ble_eq_true rfl, Nat.le_of_ble_eq_true rfl⟩) rfl rfl hl.1 rfl (lv_room (Nat.le_of_ble_eq_true rfl)) dL_weight_4 ⟨Nat.le_of_ble_eq_true rfl, Nat.le_of_ble_eq_true rfl⟩) hS (fun H locs hP hD hS => ?_)
  have hP : va_P D vwCl (zWT cI cJ h (n, L) (kt, km, kl) (pt, pm, pl) (nu, le, ow, fo, run, wc, lc, tr, cl, tm, ms) (yl, yc, yt, co, pa, su, sc) mc ++ ((oa, .inl (cJ, 1, .inr (.inl yo))) :: R)) _ := hP
  have hD : va_D (zAb B) (zWT cI cJ h (n, L) (kt, km, kl) (pt, pm, pl) (nu, le, ow, fo, run, wc, lc, tr, cl, tm, ms) (yl, yc, yt, co, pa, su, sc) mc ++ ((oa, .inl (cJ, 1, .inr (.inl yo))) :: R)) := hD
  refine lv_i2l (v := ((zwg kl pt pl (L k))).toInt64) hx hb dL_weight_7 rfl ?_
  refine va_last hx hb hK hP hD hS 21 1 rfl rfl (vp_in_nI (n := 0) (N := 1) (by omega) (by omega)) dL_weight_8 (fun H locs hP hD hS => ?_)
  rw [pk_cl (x := (0 : Int32)) 0 (rfl) (by omega)] at hP hD
  have hP : va_P D vwCl (zWT cI cJ h (n, L) (kt, km, kl) (pt, pm, pl) (nu, le, ow, fo, run, wc, lc, tr, cl, tm, ms) (yl, yc, yt, co, pa, su, sc) mc ++ ((oa, .inl (cJ, 1, .inr (.inl (vp_updL yo 0 (((zwg kl pt pl (L k))).toInt64))))) :: R)) _ := hP
  have hD : va_D (zAb B) (zWT cI cJ h (n, L) (kt, km, kl) (pt, pm, pl) (nu, le, ow, fo, run, wc, lc, tr, cl, tm, ms) (yl, yc, yt, co, pa, su, sc) mc ++ ((oa, .inl (cJ, 1, .inr (.inl (vp_updL yo 0 (((zwg kl pt pl (L k))).toInt64))))) :: R)) := hD
  refine lv_goto (tgt := 15) hx hb dL_weight_9 (by decide) ?_
  refine lv_iconst (v := 0) hx hb dL_weight_15 (by decide) ?_
  exact W.iret (v := 0) hx hb hr (fun t ht hW => ⟨⟨_, (), rfl, rfl, by rw [ht]; exact hP, hD⟩, hS.F ht⟩) hS.2.2 dL_weight_16

set_option maxHeartbeats 1000000 in
set_option maxRecDepth 100000 in
theorem c_L_weight_x {l : Launch} {B kr kp : Nat} {D : va_G} {cI cJ cZ : ClassId} {h : Nat → Nat} {R : va_W} {n : Nat} {L : Nat → Int64} {kt : Nat → Int32} {km : Nat → Int32} {kl : Nat → Int32} {pt : Nat → Int32} {pm : Nat → Int32} {pl : Nat → Int32} {nu : Nat → Int32} {le : Nat → Int32} {ow : Nat → Int32} {fo : Nat → Int32} {run : Bool} {wc : Nat} {lc : Nat} {tr : Nat} {cl : Nat} {tm : Nat} {ms : Nat} {yl : Nat → Int32} {yc : Nat → Int32} {yt : Nat → Int32} {co : Nat} {pa : Int32} {su : Nat} {sc : Nat} {mc : Nat → Int32} {oa : Nat} {yo : Nat → Int64} {i : Int32}   (hls : l.stackTraces = false) (hi : i < 0 ∨ nI n ≤ i) (hn : n ≤ 40) : Met l yL_weight wsL_weight ({ frames := 7, cells := 1, slots := 6, locals := 103 }) (zPc B kr kp D (zTy cI cJ cZ) (zWT cI cJ h (n, L) (kt, km, kl) (pt, pm, pl) (nu, le, ow, fo, run, wc, lc, tr, cl, tm, ms) (yl, yc, yt, co, pa, su, sc) mc ++ ((oa, .inl (cJ, 1, .inr (.inl yo))) :: R)) [.ref (h 0), .int i, .ref oa]) (zQi B D (zWT cI cJ h (n, L) (kt, km, kl) (pt, pm, pl) (nu, le, ow, fo, run, wc, lc, tr, cl, tm, ms) (yl, yc, yt, co, pa, su, sc) mc ++ ((oa, .inl (cJ, 1, .inr (.inl yo))) :: R)) 1) 1 6 (zAb B) := by
  refine va_MetW (cc := cL_weight) (maxL := 4) (ret := (some .int)) (by decide) rfl ?_
  intro p e s m args below meth c s₁ B0 hml hv
  obtain ⟨rfl, hP, hD, hK, hE, hB⟩ := hv
  have hx := B0.exec
  have hb := B0.bytes
  have hr := B0.returns
  have hts := atoms_spec (ws := wsL_weight) B0.pre
  have hown : s.vm.findClass RL = some m.cls := findClass_of_methodNamed B0.named
  have hlocks := B0.notSynchronized
  have hA : ∀ q : Nat, s.heap.size ≤ q → zAb B q := fun q hq => Nat.le_trans hB hq
  have hS : va_S (zAb B) s.heap s.heap [] := va_S.rf
  have hgr : s.heap.size ≤ s.heap.size := Nat.le_refl _
  have hl := lv_entry ([.ref (h 0), .int i, .ref oa]) (n := 4) (Nat.le_of_ble_eq_true rfl)
  rw [lg_entry_eq]
  generalize (lg_sl ([.ref (h 0), .int i, .ref oa]) ++ List.replicate (4 - (lg_sl ([.ref (h 0), .int i, .ref oa])).length) Slot.unset).toArray = ls at hl ⊢
  have hl : lv_has ls 4 [(0, .ref (h 0)), (1, .int i), (2, .ref oa)] := hl
  have htab : c.exceptionTable.toList = tableOf [(0, 9, 12, 21)] := vx_table (x := yL_weight) B0 (hts _ List.mem_cons_self)
  have hP : va_P D vwCl (zWT cI cJ h (n, L) (kt, km, kl) (pt, pm, pl) (nu, le, ow, fo, run, wc, lc, tr, cl, tm, ms) (yl, yc, yt, co, pa, su, sc) mc ++ ((oa, .inl (cJ, 1, .inr (.inl yo))) :: R)) s.heap := hP
  have hD : va_D (zAb B) (zWT cI cJ h (n, L) (kt, km, kl) (pt, pm, pl) (nu, le, ow, fo, run, wc, lc, tr, cl, tm, ms) (yl, yc, yt, co, pa, su, sc) mc ++ ((oa, .inl (cJ, 1, .inr (.inl yo))) :: R)) := hD
  refine lv_aload_n hx hb dL_weight_0 rfl (lv_at hl 2 rfl) ?_
  refine lv_iconst (v := 0) hx hb dL_weight_1 (by decide) ?_
  refine lv_aload_n hx hb dL_weight_2 rfl (lv_at hl 0 rfl) ?_
  refine lv_iload_n hx hb dL_weight_3 rfl (lv_at hl 1 rfl) ?_
  refine vx_calli (vx_runV (As := [.int i]) (rest := [.int 0, .ref oa]) ⟨hx, hb, hml, hown, hts⟩ (c_X4_weight_x hls   hi hn) (cwV 1 hts gL_weight_X4_weight rfl rfl rfl hdv_X4_weight ⟨Nat.le_of_ble_eq_true rfl, Nat.le_of_ble_eq_true rfl⟩) (zV 0 hP hD hK hE hB hS rfl rfl) rfl rfl hl.1 rfl (lv_room (Nat.le_of_ble_eq_true rfl)) dL_weight_4 ⟨Nat.le_of_ble_eq_true rfl, Nat.le_of_ble_eq_true rfl⟩) hS (fun _ _ h => h) (fun _ h => h) (fun _ _ h => h) (fun E ce q9 u t H locs ht hal hpx hbx hsz hkp hS hce hcv hcl => ?_) (fun r u t H locs ht hal hpo hbo hsz hkp hS => hpo.elim)
  obtain ⟨rfl, hP, hD⟩ := hbx
  rw [ht] at hP
  refine vx_catch (name := "java/lang/IndexOutOfBoundsException") hown [] ⟨0, 9, 12, 21⟩ [] htab (fun _ h9 => absurd h9 List.not_mem_nil) (by decide) (by decide) (hts (.classLink RL 21 "java/lang/IndexOutOfBoundsException") (List.mem_of_getElem? (i := 1) rfl)) (va_tabs rfl rfl (hE.2.1.1 "java/lang/IndexOutOfBoundsException" (by decide +kernel))) hce hcv hcl ?_
  have hP : va_P D vwCl (zWT cI cJ h (n, L) (kt, km, kl) (pt, pm, pl) (nu, le, ow, fo, run, wc, lc, tr, cl, tm, ms) (yl, yc, yt, co, pa, su, sc) mc ++ ((oa, .inl (cJ, 1, .inr (.inl yo))) :: R)) _ := hP
  have hD : va_D (zAb B) (zWT cI cJ h (n, L) (kt, km, kl) (pt, pm, pl) (nu, le, ow, fo, run, wc, lc, tr, cl, tm, ms) (yl, yc, yt, co, pa, su, sc) mc ++ ((oa, .inl (cJ, 1, .inr (.inl yo))) :: R)) := hD
  refine lv_astore_n (lv' := [(3, .ref q9), (0, .ref (h 0)), (1, .int i), (2, .ref oa)]) hx hb dL_weight_12 rfl hl (by decide) rfl (fun ls hl => ?_)
  refine lv_iconst (v := 1) hx hb dL_weight_13 (by decide) ?_
  exact W.iret (v := 1) hx hb hr (fun t ht hW => ⟨⟨_, (), rfl, rfl, by rw [ht]; exact hP, hD⟩, hS.F ht⟩) hS.2.2 dL_weight_14

set_option maxHeartbeats 1000000 in
set_option maxRecDepth 100000 in
theorem c_L_areNeighbours {l : Launch} {B kr kp : Nat} {D : va_G} {cI cJ cZ : ClassId} {h : Nat → Nat} {R : va_W} {n : Nat} {L : Nat → Int64} {kt : Nat → Int32} {km : Nat → Int32} {kl : Nat → Int32} {pt : Nat → Int32} {pm : Nat → Int32} {pl : Nat → Int32} {nu : Nat → Int32} {le : Nat → Int32} {ow : Nat → Int32} {fo : Nat → Int32} {run : Bool} {wc : Nat} {lc : Nat} {tr : Nat} {cl : Nat} {tm : Nat} {ms : Nat} {yl : Nat → Int32} {yc : Nat → Int32} {yt : Nat → Int32} {co : Nat} {pa : Int32} {su : Nat} {sc : Nat} {mc : Nat → Int32} {oa : Nat} {yo : Nat → Int64} {a : Int32} {b : Int32}   (h1 : ¬ a < 0 ∧ ¬ 26 ≤ a) (h2 : ¬ b < 0 ∧ ¬ 26 ≤ b) : Met l yL_areNeighbours wsL_areNeighbours ({ frames := 3, cells := 0, slots := 0, locals := 69 }) (zPc B kr kp D (zTy cI cJ cZ) (zWT cI cJ h (n, L) (kt, km, kl) (pt, pm, pl) (nu, le, ow, fo, run, wc, lc, tr, cl, tm, ms) (yl, yc, yt, co, pa, su, sc) mc ++ ((oa, .inl (cJ, 1, .inr (.inl yo))) :: R)) [.ref (h 0), .int a, .int b, .ref oa]) (zQi B D (zWT cI cJ h (n, L) (kt, km, kl) (pt, pm, pl) (nu, le, ow, fo, run, wc, lc, tr, cl, tm, ms) (yl, yc, yt, co, pa, su, sc) mc ++ ((oa, .inl (cJ, 1, .inr (.inl (vp_updL yo 0 (zbl ((zst a b))))))) :: R)) 0) 0 0 (zAb B) := by
  refine va_MetW (cc := cL_areNeighbours) (maxL := 5) (ret := (some .int)) (by decide) rfl ?_
  intro p e s m args below meth c s₁ B0 hml hv
  obtain ⟨rfl, hP, hD, hK, hE, hB⟩ := hv
  have hx := B0.exec
  have hb := B0.bytes
  have hr := B0.returns
  have hts := atoms_spec (ws := wsL_areNeighbours) B0.pre
  have hown : s.vm.findClass RL = some m.cls := findClass_of_methodNamed B0.named
  have hlocks := B0.notSynchronized
  have hA : ∀ q : Nat, s.heap.size ≤ q → zAb B q := fun q hq => Nat.le_trans hB hq
  have hS : va_S (zAb B) s.heap s.heap [] := va_S.rf
  have hgr : s.heap.size ≤ s.heap.size := Nat.le_refl _
  have hl := lv_entry ([.ref (h 0), .int a, .int b, .ref oa]) (n := 5) (Nat.le_of_ble_eq_true rfl)
  rw [lg_entry_eq]
  generalize (lg_sl ([.ref (h 0), .int a, .int b, .ref oa]) ++ List.replicate (5 - (lg_sl ([.ref (h 0), .int a, .int b, .ref oa])).length) Slot.unset).toArray = ls at hl ⊢
  have hl : lv_has ls 5 [(0, .ref (h 0)), (1, .int a), (2, .int b), (3, .ref oa)] := hl
  have htab : c.exceptionTable.toList = tableOf [(0, 17, 20, 21)] := vx_table (x := yL_areNeighbours) B0 (hts _ List.mem_cons_self)
  have hP : va_P D vwCl (zWT cI cJ h (n, L) (kt, km, kl) (pt, pm, pl) (nu, le, ow, fo, run, wc, lc, tr, cl, tm, ms) (yl, yc, yt, co, pa, su, sc) mc ++ ((oa, .inl (cJ, 1, .inr (.inl yo))) :: R)) s.heap := hP
  have hD : va_D (zAb B) (zWT cI cJ h (n, L) (kt, km, kl) (pt, pm, pl) (nu, le, ow, fo, run, wc, lc, tr, cl, tm, ms) (yl, yc, yt, co, pa, su, sc) mc ++ ((oa, .inl (cJ, 1, .inr (.inl yo))) :: R)) := hD
  refine lv_aload_n hx hb dL_areNeighbours_0 rfl (lv_at hl 3 rfl) ?_
  refine lv_iconst (v := 0) hx hb dL_areNeighbours_1 (by decide) ?_
  refine lv_aload_n hx hb dL_areNeighbours_2 rfl (lv_at hl 0 rfl) ?_
  refine lv_iload_n hx hb dL_areNeighbours_3 rfl (lv_at hl 1 rfl) ?_
  refine lv_iload_n hx hb dL_areNeighbours_4 rfl (lv_at hl 2 rfl) ?_
  refine zci (zrV (As := [.int a, .int b]) (rest := [.int 0, .ref oa]) ⟨hx, hb, hml, hown, hts⟩ (zV 0 hP hD hK hE hB hS rfl rfl) (c_X4_areNeighbours  (h1) (h2)) (cwV 2 hts gL_areNeighbours_X4_areNeighbours rfl rfl rfl hdv_X4_areNeighbours ⟨Nat.le_of_ble_eq_true rfl, Nat.le_of_ble_eq_true rfl⟩) rfl rfl hl.1 rfl (lv_room (Nat.le_of_ble_eq_true rfl)) dL_areNeighbours_5 ⟨Nat.le_of_ble_eq_true rfl, Nat.le_of_ble_eq_true rfl⟩) hS (fun H locs hP hD hS => ?_)
  have hP : va_P D vwCl (zWT cI cJ h (n, L) (kt, km, kl) (pt, pm, pl) (nu, le, ow, fo, run, wc, lc, tr, cl, tm, ms) (yl, yc, yt, co, pa, su, sc) mc ++ ((oa, .inl (cJ, 1, .inr (.inl yo))) :: R)) _ := hP
  have hD : va_D (zAb B) (zWT cI cJ h (n, L) (kt, km, kl) (pt, pm, pl) (nu, le, ow, fo, run, wc, lc, tr, cl, tm, ms) (yl, yc, yt, co, pa, su, sc) mc ++ ((oa, .inl (cJ, 1, .inr (.inl yo))) :: R)) := hD
  refine lv_if_eq (tgt := 15) hx hb dL_areNeighbours_8 (by decide) (fun c_1 => ?_) (fun c_1 => ?_)
  · skip
    have c_1 : (zst a b) = false := zb_0 c_1
    refine lv_lconst (v := 0) hx hb dL_areNeighbours_15 (by decide) ?_
    refine va_last hx hb hK hP hD hS 21 1 rfl rfl (vp_in_nI (n := 0) (N := 1) (by omega) (by omega)) dL_areNeighbours_16 (fun H locs hP hD hS => ?_)
    rw [pk_cl (x := (0 : Int32)) 0 (rfl) (by omega)] at hP hD
    have hP : va_P D vwCl (zWT cI cJ h (n, L) (kt, km, kl) (pt, pm, pl) (nu, le, ow, fo, run, wc, lc, tr, cl, tm, ms) (yl, yc, yt, co, pa, su, sc) mc ++ ((oa, .inl (cJ, 1, .inr (.inl (vp_updL yo 0 0)))) :: R)) _ := hP
    have hD : va_D (zAb B) (zWT cI cJ h (n, L) (kt, km, kl) (pt, pm, pl) (nu, le, ow, fo, run, wc, lc, tr, cl, tm, ms) (yl, yc, yt, co, pa, su, sc) mc ++ ((oa, .inl (cJ, 1, .inr (.inl (vp_updL yo 0 0)))) :: R)) := hD
    refine lv_goto (tgt := 24) hx hb dL_areNeighbours_17 (by decide) ?_
    refine lv_iconst (v := 0) hx hb dL_areNeighbours_24 (by decide) ?_
    have e9 : zbl ((zst a b)) = 0 := by rw [c_1]; rfl
    have hP : va_P D vwCl (zWT cI cJ h (n, L) (kt, km, kl) (pt, pm, pl) (nu, le, ow, fo, run, wc, lc, tr, cl, tm, ms) (yl, yc, yt, co, pa, su, sc) mc ++ ((oa, .inl (cJ, 1, .inr (.inl (vp_updL yo 0 (zbl ((zst a b))))))) :: R)) H := by rw [e9]; exact hP
    have hD : va_D (zAb B) (zWT cI cJ h (n, L) (kt, km, kl) (pt, pm, pl) (nu, le, ow, fo, run, wc, lc, tr, cl, tm, ms) (yl, yc, yt, co, pa, su, sc) mc ++ ((oa, .inl (cJ, 1, .inr (.inl (vp_updL yo 0 (zbl ((zst a b))))))) :: R)) := by rw [e9]; exact hD
    exact W.iret (v := 0) hx hb hr (fun t ht hW => ⟨⟨_, (), rfl, rfl, by rw [ht]; exact hP, hD⟩, hS.F ht⟩) hS.2.2 dL_areNeighbours_25
  · skip
    have c_1 : (zst a b) = true := zb_n c_1
    refine lv_lconst (v := 1) hx hb dL_areNeighbours_11 (by decide) ?_
    refine lv_goto (tgt := 16) hx hb dL_areNeighbours_12 (by decide) ?_
    refine va_last hx hb hK hP hD hS 21 1 rfl rfl (vp_in_nI (n := 0) (N := 1) (by omega) (by omega)) dL_areNeighbours_16 (fun H locs hP hD hS => ?_)
    rw [pk_cl (x := (0 : Int32)) 0 (rfl) (by omega)] at hP hD
    have hP : va_P D vwCl (zWT cI cJ h (n, L) (kt, km, kl) (pt, pm, pl) (nu, le, ow, fo, run, wc, lc, tr, cl, tm, ms) (yl, yc, yt, co, pa, su, sc) mc ++ ((oa, .inl (cJ, 1, .inr (.inl (vp_updL yo 0 1)))) :: R)) _ := hP
    have hD : va_D (zAb B) (zWT cI cJ h (n, L) (kt, km, kl) (pt, pm, pl) (nu, le, ow, fo, run, wc, lc, tr, cl, tm, ms) (yl, yc, yt, co, pa, su, sc) mc ++ ((oa, .inl (cJ, 1, .inr (.inl (vp_updL yo 0 1)))) :: R)) := hD
    refine lv_goto (tgt := 24) hx hb dL_areNeighbours_17 (by decide) ?_
    refine lv_iconst (v := 0) hx hb dL_areNeighbours_24 (by decide) ?_
    have e9 : zbl ((zst a b)) = 1 := by rw [c_1]; rfl
    have hP : va_P D vwCl (zWT cI cJ h (n, L) (kt, km, kl) (pt, pm, pl) (nu, le, ow, fo, run, wc, lc, tr, cl, tm, ms) (yl, yc, yt, co, pa, su, sc) mc ++ ((oa, .inl (cJ, 1, .inr (.inl (vp_updL yo 0 (zbl ((zst a b))))))) :: R)) H := by rw [e9]; exact hP
    have hD : va_D (zAb B) (zWT cI cJ h (n, L) (kt, km, kl) (pt, pm, pl) (nu, le, ow, fo, run, wc, lc, tr, cl, tm, ms) (yl, yc, yt, co, pa, su, sc) mc ++ ((oa, .inl (cJ, 1, .inr (.inl (vp_updL yo 0 (zbl ((zst a b))))))) :: R)) := by rw [e9]; exact hD
    exact W.iret (v := 0) hx hb hr (fun t ht hW => ⟨⟨_, (), rfl, rfl, by rw [ht]; exact hP, hD⟩, hS.F ht⟩) hS.2.2 dL_areNeighbours_25

set_option maxHeartbeats 1000000 in
set_option maxRecDepth 100000 in
theorem c_L_areNeighbours_x {l : Launch} {B kr kp : Nat} {D : va_G} {cI cJ cZ : ClassId} {h : Nat → Nat} {R : va_W} {n : Nat} {L : Nat → Int64} {kt : Nat → Int32} {km : Nat → Int32} {kl : Nat → Int32} {pt : Nat → Int32} {pm : Nat → Int32} {pl : Nat → Int32} {nu : Nat → Int32} {le : Nat → Int32} {ow : Nat → Int32} {fo : Nat → Int32} {run : Bool} {wc : Nat} {lc : Nat} {tr : Nat} {cl : Nat} {tm : Nat} {ms : Nat} {yl : Nat → Int32} {yc : Nat → Int32} {yt : Nat → Int32} {co : Nat} {pa : Int32} {su : Nat} {sc : Nat} {mc : Nat → Int32} {oa : Nat} {yo : Nat → Int64} {a : Int32} {b : Int32}   (hls : l.stackTraces = false) (h1 : ¬ ((¬ a < 0 ∧ ¬ 26 ≤ a) ∧ (¬ b < 0 ∧ ¬ 26 ≤ b))) : Met l yL_areNeighbours wsL_areNeighbours ({ frames := 7, cells := 1, slots := 6, locals := 104 }) (zPc B kr kp D (zTy cI cJ cZ) (zWT cI cJ h (n, L) (kt, km, kl) (pt, pm, pl) (nu, le, ow, fo, run, wc, lc, tr, cl, tm, ms) (yl, yc, yt, co, pa, su, sc) mc ++ ((oa, .inl (cJ, 1, .inr (.inl yo))) :: R)) [.ref (h 0), .int a, .int b, .ref oa]) (zQi B D (zWT cI cJ h (n, L) (kt, km, kl) (pt, pm, pl) (nu, le, ow, fo, run, wc, lc, tr, cl, tm, ms) (yl, yc, yt, co, pa, su, sc) mc ++ ((oa, .inl (cJ, 1, .inr (.inl yo))) :: R)) 1) 1 6 (zAb B) := by
  refine va_MetW (cc := cL_areNeighbours) (maxL := 5) (ret := (some .int)) (by decide) rfl ?_
  intro p e s m args below meth c s₁ B0 hml hv
  obtain ⟨rfl, hP, hD, hK, hE, hB⟩ := hv
  have hx := B0.exec
  have hb := B0.bytes
  have hr := B0.returns
  have hts := atoms_spec (ws := wsL_areNeighbours) B0.pre
  have hown : s.vm.findClass RL = some m.cls := findClass_of_methodNamed B0.named
  have hlocks := B0.notSynchronized
  have hA : ∀ q : Nat, s.heap.size ≤ q → zAb B q := fun q hq => Nat.le_trans hB hq
  have hS : va_S (zAb B) s.heap s.heap [] := va_S.rf
  have hgr : s.heap.size ≤ s.heap.size := Nat.le_refl _
  have hl := lv_entry ([.ref (h 0), .int a, .int b, .ref oa]) (n := 5) (Nat.le_of_ble_eq_true rfl)
  rw [lg_entry_eq]
  generalize (lg_sl ([.ref (h 0), .int a, .int b, .ref oa]) ++ List.replicate (5 - (lg_sl ([.ref (h 0), .int a, .int b, .ref oa])).length) Slot.unset).toArray = ls at hl ⊢
  have hl : lv_has ls 5 [(0, .ref (h 0)), (1, .int a), (2, .int b), (3, .ref oa)] := hl
  have htab : c.exceptionTable.toList = tableOf [(0, 17, 20, 21)] := vx_table (x := yL_areNeighbours) B0 (hts _ List.mem_cons_self)
  have hP : va_P D vwCl (zWT cI cJ h (n, L) (kt, km, kl) (pt, pm, pl) (nu, le, ow, fo, run, wc, lc, tr, cl, tm, ms) (yl, yc, yt, co, pa, su, sc) mc ++ ((oa, .inl (cJ, 1, .inr (.inl yo))) :: R)) s.heap := hP
  have hD : va_D (zAb B) (zWT cI cJ h (n, L) (kt, km, kl) (pt, pm, pl) (nu, le, ow, fo, run, wc, lc, tr, cl, tm, ms) (yl, yc, yt, co, pa, su, sc) mc ++ ((oa, .inl (cJ, 1, .inr (.inl yo))) :: R)) := hD
  refine lv_aload_n hx hb dL_areNeighbours_0 rfl (lv_at hl 3 rfl) ?_
  refine lv_iconst (v := 0) hx hb dL_areNeighbours_1 (by decide) ?_
  refine lv_aload_n hx hb dL_areNeighbours_2 rfl (lv_at hl 0 rfl) ?_
  refine lv_iload_n hx hb dL_areNeighbours_3 rfl (lv_at hl 1 rfl) ?_
  refine lv_iload_n hx hb dL_areNeighbours_4 rfl (lv_at hl 2 rfl) ?_
  refine vx_calli (vx_runV (As := [.int a, .int b]) (rest := [.int 0, .ref oa]) ⟨hx, hb, hml, hown, hts⟩ (c_X4_areNeighbours_x hls   h1) (cwV 2 hts gL_areNeighbours_X4_areNeighbours rfl rfl rfl hdv_X4_areNeighbours ⟨Nat.le_of_ble_eq_true rfl, Nat.le_of_ble_eq_true rfl⟩) (zV 0 hP hD hK hE hB hS rfl rfl) rfl rfl hl.1 rfl (lv_room (Nat.le_of_ble_eq_true rfl)) dL_areNeighbours_5 ⟨Nat.le_of_ble_eq_true rfl, Nat.le_of_ble_eq_true rfl⟩) hS (fun _ _ h => h) (fun _ h => h) (fun _ _ h => h) (fun E ce q9 u t H locs ht hal hpx hbx hsz hkp hS hce hcv hcl => ?_) (fun r u t H locs ht hal hpo hbo hsz hkp hS => hpo.elim)
  obtain ⟨rfl, hP, hD⟩ := hbx
  rw [ht] at hP
  refine vx_catch (name := "java/lang/IndexOutOfBoundsException") hown [] ⟨0, 17, 20, 21⟩ [] htab (fun _ h9 => absurd h9 List.not_mem_nil) (by decide) (by decide) (hts (.classLink RL 21 "java/lang/IndexOutOfBoundsException") (List.mem_of_getElem? (i := 1) rfl)) (va_tabs rfl rfl (hE.2.1.1 "java/lang/IndexOutOfBoundsException" (by decide +kernel))) hce hcv hcl ?_
  have hP : va_P D vwCl (zWT cI cJ h (n, L) (kt, km, kl) (pt, pm, pl) (nu, le, ow, fo, run, wc, lc, tr, cl, tm, ms) (yl, yc, yt, co, pa, su, sc) mc ++ ((oa, .inl (cJ, 1, .inr (.inl yo))) :: R)) _ := hP
  have hD : va_D (zAb B) (zWT cI cJ h (n, L) (kt, km, kl) (pt, pm, pl) (nu, le, ow, fo, run, wc, lc, tr, cl, tm, ms) (yl, yc, yt, co, pa, su, sc) mc ++ ((oa, .inl (cJ, 1, .inr (.inl yo))) :: R)) := hD
  refine lv_astore (lv' := [(4, .ref q9), (0, .ref (h 0)), (1, .int a), (2, .int b), (3, .ref oa)]) hx hb dL_areNeighbours_20 hl (by decide) rfl (fun ls hl => ?_)
  refine lv_iconst (v := 1) hx hb dL_areNeighbours_22 (by decide) ?_
  exact W.iret (v := 1) hx hb hr (fun t ht hW => ⟨⟨_, (), rfl, rfl, by rw [ht]; exact hP, hD⟩, hS.F ht⟩) hS.2.2 dL_areNeighbours_23

set_option maxHeartbeats 1000000 in
set_option maxRecDepth 100000 in
theorem c_L_open {l : Launch} {B kr kp : Nat} {D : va_G} {cI cJ cZ : ClassId} {h : Nat → Nat} {R : va_W} {n : Nat} {L : Nat → Int64} {kt : Nat → Int32} {km : Nat → Int32} {kl : Nat → Int32} {pt : Nat → Int32} {pm : Nat → Int32} {pl : Nat → Int32} {nu : Nat → Int32} {le : Nat → Int32} {ow : Nat → Int32} {fo : Nat → Int32} {run : Bool} {wc : Nat} {lc : Nat} {tr : Nat} {cl : Nat} {tm : Nat} {ms : Nat} {yl : Nat → Int32} {yc : Nat → Int32} {yt : Nat → Int32} {co : Nat} {pa : Int32} {su : Nat} {sc : Nat} {mc : Nat → Int32} {oa : Nat} {yo : Nat → Int64} {words : Nat}   (hw1 : 1 ≤ words) (hw6 : words ≤ 6) (hrun : run = false) (hn0 : 0 < n) (hn : n ≤ 40) (hL : ∀ j, j < n → 0 < zsz (L j)) : Met l yL_open wsL_open ({ frames := 7, cells := 0, slots := 0, locals := 163 }) (zPc B kr kp D (zTy cI cJ cZ) (zWT cI cJ h (n, L) (kt, km, kl) (pt, pm, pl) (nu, le, ow, fo, run, wc, lc, tr, cl, tm, ms) (yl, yc, yt, co, pa, su, sc) mc ++ ((oa, .inl (cJ, 1, .inr (.inl yo))) :: R)) [.ref (h 0), .int (nI words), .ref oa]) (zQi B D (zWT cI cJ h (n, L) (kt, km, kl) (pt, pm, pl) (((zoT L n kl pt pl (nu, le, ow, zfil 26 0 fo, 0, 0) words).1), ((zoT L n kl pt pl (nu, le, ow, zfil 26 0 fo, 0, 0) words).2.1), ((zoT L n kl pt pl (nu, le, ow, zfil 26 0 fo, 0, 0) words).2.2.1), ((zoT L n kl pt pl (nu, le, ow, zfil 26 0 fo, 0, 0) words).2.2.2.1), true, ((zoT L n kl pt pl (nu, le, ow, zfil 26 0 fo, 0, 0) words).2.2.2.2.1), ((zoT L n kl pt pl (nu, le, ow, zfil 26 0 fo, 0, 0) words).2.2.2.2.2), 0, 0, 0, 0) (yl, yc, yt, co, pa, su, sc) mc ++ ((oa, .inl (cJ, 1, .inr (.inl (vp_updL yo 0 (((nI ((zoT L n kl pt pl (nu, le, ow, zfil 26 0 fo, 0, 0) words).2.2.2.2.1))).toInt64))))) :: R)) 0) 0 0 (zAb B) := by
  refine va_MetW (cc := cL_open) (maxL := 4) (ret := (some .int)) (by decide) rfl ?_
  intro p e s m args below meth c s₁ B0 hml hv
  obtain ⟨rfl, hP, hD, hK, hE, hB⟩ := hv
  have hx := B0.exec
  have hb := B0.bytes
  have hr := B0.returns
  have hts := atoms_spec (ws := wsL_open) B0.pre
  have hown : s.vm.findClass RL = some m.cls := findClass_of_methodNamed B0.named
  have hlocks := B0.notSynchronized
  have hA : ∀ q : Nat, s.heap.size ≤ q → zAb B q := fun q hq => Nat.le_trans hB hq
  have hS : va_S (zAb B) s.heap s.heap [] := va_S.rf
  have hgr : s.heap.size ≤ s.heap.size := Nat.le_refl _
  have hl := lv_entry ([.ref (h 0), .int (nI words), .ref oa]) (n := 4) (Nat.le_of_ble_eq_true rfl)
  rw [lg_entry_eq]
  generalize (lg_sl ([.ref (h 0), .int (nI words), .ref oa]) ++ List.replicate (4 - (lg_sl ([.ref (h 0), .int (nI words), .ref oa])).length) Slot.unset).toArray = ls at hl ⊢
  have hl : lv_has ls 4 [(0, .ref (h 0)), (1, .int (nI words)), (2, .ref oa)] := hl
  have htab : c.exceptionTable.toList = tableOf [(0, 9, 12, 13), (0, 9, 15, 15)] := vx_table (x := yL_open) B0 (hts _ List.mem_cons_self)
  have hP : va_P D vwCl (zWT cI cJ h (n, L) (kt, km, kl) (pt, pm, pl) (nu, le, ow, fo, run, wc, lc, tr, cl, tm, ms) (yl, yc, yt, co, pa, su, sc) mc ++ ((oa, .inl (cJ, 1, .inr (.inl yo))) :: R)) s.heap := hP
  have hD : va_D (zAb B) (zWT cI cJ h (n, L) (kt, km, kl) (pt, pm, pl) (nu, le, ow, fo, run, wc, lc, tr, cl, tm, ms) (yl, yc, yt, co, pa, su, sc) mc ++ ((oa, .inl (cJ, 1, .inr (.inl yo))) :: R)) := hD
  refine lv_aload_n hx hb dL_open_0 rfl (lv_at hl 2 rfl) ?_
  refine lv_iconst (v := 0) hx hb dL_open_1 (by decide) ?_
  refine lv_aload_n hx hb dL_open_2 rfl (lv_at hl 0 rfl) ?_
  refine lv_iload_n hx hb dL_open_3 rfl (lv_at hl 1 rfl) ?_
  refine zci (zrV (As := [.int (nI words)]) (rest := [.int 0, .ref oa]) ⟨hx, hb, hml, hown, hts⟩ (zV 0 hP hD hK hE hB hS rfl rfl) (c_X4_open (words := words) (hw1) (hw6) (hrun) (hn0) (hn) (hL)) (cwV 1 hts gL_open_X4_open rfl rfl rfl hdv_X4_open ⟨Nat.le_of_ble_eq_true rfl, Nat.le_of_ble_eq_true rfl⟩) rfl rfl hl.1 rfl (lv_room (Nat.le_of_ble_eq_true rfl)) dL_open_4 ⟨Nat.le_of_ble_eq_true rfl, Nat.le_of_ble_eq_true rfl⟩) hS (fun H locs hP hD hS => ?_)
  have hP : va_P D vwCl (zWT cI cJ h (n, L) (kt, km, kl) (pt, pm, pl) (((zoT L n kl pt pl (nu, le, ow, zfil 26 0 fo, 0, 0) words).1), ((zoT L n kl pt pl (nu, le, ow, zfil 26 0 fo, 0, 0) words).2.1), ((zoT L n kl pt pl (nu, le, ow, zfil 26 0 fo, 0, 0) words).2.2.1), ((zoT L n kl pt pl (nu, le, ow, zfil 26 0 fo, 0, 0) words).2.2.2.1), true, ((zoT L n kl pt pl (nu, le, ow, zfil 26 0 fo, 0, 0) words).2.2.2.2.1), ((zoT L n kl pt pl (nu, le, ow, zfil 26 0 fo, 0, 0) words).2.2.2.2.2), 0, 0, 0, 0) (yl, yc, yt, co, pa, su, sc) mc ++ ((oa, .inl (cJ, 1, .inr (.inl yo))) :: R)) _ := hP
  have hD : va_D (zAb B) (zWT cI cJ h (n, L) (kt, km, kl) (pt, pm, pl) (((zoT L n kl pt pl (nu, le, ow, zfil 26 0 fo, 0, 0) words).1), ((zoT L n kl pt pl (nu, le, ow, zfil 26 0 fo, 0, 0) words).2.1), ((zoT L n kl pt pl (nu, le, ow, zfil 26 0 fo, 0, 0) words).2.2.1), ((zoT L n kl pt pl (nu, le, ow, zfil 26 0 fo, 0, 0) words).2.2.2.1), true, ((zoT L n kl pt pl (nu, le, ow, zfil 26 0 fo, 0, 0) words).2.2.2.2.1), ((zoT L n kl pt pl (nu, le, ow, zfil 26 0 fo, 0, 0) words).2.2.2.2.2), 0, 0, 0, 0) (yl, yc, yt, co, pa, su, sc) mc ++ ((oa, .inl (cJ, 1, .inr (.inl yo))) :: R)) := hD
  refine lv_i2l (v := ((nI ((zoT L n kl pt pl (nu, le, ow, zfil 26 0 fo, 0, 0) words).2.2.2.2.1))).toInt64) hx hb dL_open_7 rfl ?_
  refine va_last hx hb hK hP hD hS 21 1 rfl rfl (vp_in_nI (n := 0) (N := 1) (by omega) (by omega)) dL_open_8 (fun H locs hP hD hS => ?_)
  rw [pk_cl (x := (0 : Int32)) 0 (rfl) (by omega)] at hP hD
  have hP : va_P D vwCl (zWT cI cJ h (n, L) (kt, km, kl) (pt, pm, pl) (((zoT L n kl pt pl (nu, le, ow, zfil 26 0 fo, 0, 0) words).1), ((zoT L n kl pt pl (nu, le, ow, zfil 26 0 fo, 0, 0) words).2.1), ((zoT L n kl pt pl (nu, le, ow, zfil 26 0 fo, 0, 0) words).2.2.1), ((zoT L n kl pt pl (nu, le, ow, zfil 26 0 fo, 0, 0) words).2.2.2.1), true, ((zoT L n kl pt pl (nu, le, ow, zfil 26 0 fo, 0, 0) words).2.2.2.2.1), ((zoT L n kl pt pl (nu, le, ow, zfil 26 0 fo, 0, 0) words).2.2.2.2.2), 0, 0, 0, 0) (yl, yc, yt, co, pa, su, sc) mc ++ ((oa, .inl (cJ, 1, .inr (.inl (vp_updL yo 0 (((nI ((zoT L n kl pt pl (nu, le, ow, zfil 26 0 fo, 0, 0) words).2.2.2.2.1))).toInt64))))) :: R)) _ := hP
  have hD : va_D (zAb B) (zWT cI cJ h (n, L) (kt, km, kl) (pt, pm, pl) (((zoT L n kl pt pl (nu, le, ow, zfil 26 0 fo, 0, 0) words).1), ((zoT L n kl pt pl (nu, le, ow, zfil 26 0 fo, 0, 0) words).2.1), ((zoT L n kl pt pl (nu, le, ow, zfil 26 0 fo, 0, 0) words).2.2.1), ((zoT L n kl pt pl (nu, le, ow, zfil 26 0 fo, 0, 0) words).2.2.2.1), true, ((zoT L n kl pt pl (nu, le, ow, zfil 26 0 fo, 0, 0) words).2.2.2.2.1), ((zoT L n kl pt pl (nu, le, ow, zfil 26 0 fo, 0, 0) words).2.2.2.2.2), 0, 0, 0, 0) (yl, yc, yt, co, pa, su, sc) mc ++ ((oa, .inl (cJ, 1, .inr (.inl (vp_updL yo 0 (((nI ((zoT L n kl pt pl (nu, le, ow, zfil 26 0 fo, 0, 0) words).2.2.2.2.1))).toInt64))))) :: R)) := hD
  refine lv_goto (tgt := 18) hx hb dL_open_9 (by decide) ?_
  refine lv_iconst (v := 0) hx hb dL_open_18 (by decide) ?_
  exact W.iret (v := 0) hx hb hr (fun t ht hW => ⟨⟨_, (), rfl, rfl, by rw [ht]; exact hP, hD⟩, hS.F ht⟩) hS.2.2 dL_open_19

set_option maxHeartbeats 1000000 in
set_option maxRecDepth 100000 in
theorem c_L_open_x1 {l : Launch} {B kr kp : Nat} {D : va_G} {cI cJ cZ : ClassId} {h : Nat → Nat} {R : va_W} {n : Nat} {L : Nat → Int64} {kt : Nat → Int32} {km : Nat → Int32} {kl : Nat → Int32} {pt : Nat → Int32} {pm : Nat → Int32} {pl : Nat → Int32} {nu : Nat → Int32} {le : Nat → Int32} {ow : Nat → Int32} {fo : Nat → Int32} {run : Bool} {wc : Nat} {lc : Nat} {tr : Nat} {cl : Nat} {tm : Nat} {ms : Nat} {yl : Nat → Int32} {yc : Nat → Int32} {yt : Nat → Int32} {co : Nat} {pa : Int32} {su : Nat} {sc : Nat} {mc : Nat → Int32} {oa : Nat} {yo : Nat → Int64} {i : Int32}   (hls : l.stackTraces = false) (hi : i < 1 ∨ ¬ i ≤ 6) : Met l yL_open wsL_open ({ frames := 7, cells := 1, slots := 6, locals := 105 }) (zPc B kr kp D (zTy cI cJ cZ) (zWT cI cJ h (n, L) (kt, km, kl) (pt, pm, pl) (nu, le, ow, fo, run, wc, lc, tr, cl, tm, ms) (yl, yc, yt, co, pa, su, sc) mc ++ ((oa, .inl (cJ, 1, .inr (.inl yo))) :: R)) [.ref (h 0), .int i, .ref oa]) (zQi B D (zWT cI cJ h (n, L) (kt, km, kl) (pt, pm, pl) (nu, le, ow, fo, run, wc, lc, tr, cl, tm, ms) (yl, yc, yt, co, pa, su, sc) mc ++ ((oa, .inl (cJ, 1, .inr (.inl yo))) :: R)) 1) 1 6 (zAb B) := by
  refine va_MetW (cc := cL_open) (maxL := 4) (ret := (some .int)) (by decide) rfl ?_
  intro p e s m args below meth c s₁ B0 hml hv
  obtain ⟨rfl, hP, hD, hK, hE, hB⟩ := hv
  have hx := B0.exec
  have hb := B0.bytes
  have hr := B0.returns
  have hts := atoms_spec (ws := wsL_open) B0.pre
  have hown : s.vm.findClass RL = some m.cls := findClass_of_methodNamed B0.named
  have hlocks := B0.notSynchronized
  have hA : ∀ q : Nat, s.heap.size ≤ q → zAb B q := fun q hq => Nat.le_trans hB hq
  have hS : va_S (zAb B) s.heap s.heap [] := va_S.rf
  have hgr : s.heap.size ≤ s.heap.size := Nat.le_refl _
  have hl := lv_entry ([.ref (h 0), .int i, .ref oa]) (n := 4) (Nat.le_of_ble_eq_true rfl)
  rw [lg_entry_eq]
  generalize (lg_sl ([.ref (h 0), .int i, .ref oa]) ++ List.replicate (4 - (lg_sl ([.ref (h 0), .int i, .ref oa])).length) Slot.unset).toArray = ls at hl ⊢
  have hl : lv_has ls 4 [(0, .ref (h 0)), (1, .int i), (2, .ref oa)] := hl
  have htab : c.exceptionTable.toList = tableOf [(0, 9, 12, 13), (0, 9, 15, 15)] := vx_table (x := yL_open) B0 (hts _ List.mem_cons_self)
  have hP : va_P D vwCl (zWT cI cJ h (n, L) (kt, km, kl) (pt, pm, pl) (nu, le, ow, fo, run, wc, lc, tr, cl, tm, ms) (yl, yc, yt, co, pa, su, sc) mc ++ ((oa, .inl (cJ, 1, .inr (.inl yo))) :: R)) s.heap := hP
  have hD : va_D (zAb B) (zWT cI cJ h (n, L) (kt, km, kl) (pt, pm, pl) (nu, le, ow, fo, run, wc, lc, tr, cl, tm, ms) (yl, yc, yt, co, pa, su, sc) mc ++ ((oa, .inl (cJ, 1, .inr (.inl yo))) :: R)) := hD
  refine lv_aload_n hx hb dL_open_0 rfl (lv_at hl 2 rfl) ?_
  refine lv_iconst (v := 0) hx hb dL_open_1 (by decide) ?_
  refine lv_aload_n hx hb dL_open_2 rfl (lv_at hl 0 rfl) ?_
  refine lv_iload_n hx hb dL_open_3 rfl (lv_at hl 1 rfl) ?_
  refine vx_calli (vx_runV (As := [.int i]) (rest := [.int 0, .ref oa]) ⟨hx, hb, hml, hown, hts⟩ (c_X4_open_x1 hls   hi) (cwV 1 hts gL_open_X4_open rfl rfl rfl hdv_X4_open ⟨Nat.le_of_ble_eq_true rfl, Nat.le_of_ble_eq_true rfl⟩) (zV 0 hP hD hK hE hB hS rfl rfl) rfl rfl hl.1 rfl (lv_room (Nat.le_of_ble_eq_true rfl)) dL_open_4 ⟨Nat.le_of_ble_eq_true rfl, Nat.le_of_ble_eq_true rfl⟩) hS (fun _ _ h => h) (fun _ h => h) (fun _ _ h => h) (fun E ce q9 u t H locs ht hal hpx hbx hsz hkp hS hce hcv hcl => ?_) (fun r u t H locs ht hal hpo hbo hsz hkp hS => hpo.elim)
  obtain ⟨rfl, hP, hD⟩ := hbx
  rw [ht] at hP
  refine vx_catch (name := "java/lang/IllegalArgumentException") hown [] ⟨0, 9, 12, 13⟩ [⟨0, 9, 15, 15⟩] htab (fun _ h9 => absurd h9 List.not_mem_nil) (by decide) (by decide) (hts (.classLink RL 13 "java/lang/IllegalArgumentException") (List.mem_of_getElem? (i := 1) rfl)) (va_tabs rfl rfl (hE.2.1.1 "java/lang/IllegalArgumentException" (by decide +kernel))) hce hcv hcl ?_
  have hP : va_P D vwCl (zWT cI cJ h (n, L) (kt, km, kl) (pt, pm, pl) (nu, le, ow, fo, run, wc, lc, tr, cl, tm, ms) (yl, yc, yt, co, pa, su, sc) mc ++ ((oa, .inl (cJ, 1, .inr (.inl yo))) :: R)) _ := hP
  have hD : va_D (zAb B) (zWT cI cJ h (n, L) (kt, km, kl) (pt, pm, pl) (nu, le, ow, fo, run, wc, lc, tr, cl, tm, ms) (yl, yc, yt, co, pa, su, sc) mc ++ ((oa, .inl (cJ, 1, .inr (.inl yo))) :: R)) := hD
  refine lv_astore_n (lv' := [(3, .ref q9), (0, .ref (h 0)), (1, .int i), (2, .ref oa)]) hx hb dL_open_12 rfl hl (by decide) rfl (fun ls hl => ?_)
  refine lv_iconst (v := 1) hx hb dL_open_13 (by decide) ?_
  exact W.iret (v := 1) hx hb hr (fun t ht hW => ⟨⟨_, (), rfl, rfl, by rw [ht]; exact hP, hD⟩, hS.F ht⟩) hS.2.2 dL_open_14

set_option maxHeartbeats 1000000 in
set_option maxRecDepth 100000 in
theorem c_L_open_x2 {l : Launch} {B kr kp : Nat} {D : va_G} {cI cJ cZ : ClassId} {h : Nat → Nat} {R : va_W} {n : Nat} {L : Nat → Int64} {kt : Nat → Int32} {km : Nat → Int32} {kl : Nat → Int32} {pt : Nat → Int32} {pm : Nat → Int32} {pl : Nat → Int32} {nu : Nat → Int32} {le : Nat → Int32} {ow : Nat → Int32} {fo : Nat → Int32} {run : Bool} {wc : Nat} {lc : Nat} {tr : Nat} {cl : Nat} {tm : Nat} {ms : Nat} {yl : Nat → Int32} {yc : Nat → Int32} {yt : Nat → Int32} {co : Nat} {pa : Int32} {su : Nat} {sc : Nat} {mc : Nat → Int32} {oa : Nat} {yo : Nat → Int64} {i : Int32}   (hls : l.stackTraces = false) (hi1 : ¬ i < 1) (hi6 : i ≤ 6) (hf : run = true ∨ n = 0) (hn : n ≤ 40) : Met l yL_open wsL_open ({ frames := 7, cells := 1, slots := 6, locals := 105 }) (zPc B kr kp D (zTy cI cJ cZ) (zWT cI cJ h (n, L) (kt, km, kl) (pt, pm, pl) (nu, le, ow, fo, run, wc, lc, tr, cl, tm, ms) (yl, yc, yt, co, pa, su, sc) mc ++ ((oa, .inl (cJ, 1, .inr (.inl yo))) :: R)) [.ref (h 0), .int i, .ref oa]) (zQi B D (zWT cI cJ h (n, L) (kt, km, kl) (pt, pm, pl) (nu, le, ow, fo, run, wc, lc, tr, cl, tm, ms) (yl, yc, yt, co, pa, su, sc) mc ++ ((oa, .inl (cJ, 1, .inr (.inl yo))) :: R)) 2) 1 6 (zAb B) := by
  refine va_MetW (cc := cL_open) (maxL := 4) (ret := (some .int)) (by decide) rfl ?_
  intro p e s m args below meth c s₁ B0 hml hv
  obtain ⟨rfl, hP, hD, hK, hE, hB⟩ := hv
  have hx := B0.exec
  have hb := B0.bytes
  have hr := B0.returns
  have hts := atoms_spec (ws := wsL_open) B0.pre
  have hown : s.vm.findClass RL = some m.cls := findClass_of_methodNamed B0.named
  have hlocks := B0.notSynchronized
  have hA : ∀ q : Nat, s.heap.size ≤ q → zAb B q := fun q hq => Nat.le_trans hB hq
  have hS : va_S (zAb B) s.heap s.heap [] := va_S.rf
  have hgr : s.heap.size ≤ s.heap.size := Nat.le_refl _
  have hl := lv_entry ([.ref (h 0), .int i, .ref oa]) (n := 4) (Nat.le_of_ble_eq_true rfl)
  rw [lg_entry_eq]
  generalize (lg_sl ([.ref (h 0), .int i, .ref oa]) ++ List.replicate (4 - (lg_sl ([.ref (h 0), .int i, .ref oa])).length) Slot.unset).toArray = ls at hl ⊢
  have hl : lv_has ls 4 [(0, .ref (h 0)), (1, .int i), (2, .ref oa)] := hl
  have htab : c.exceptionTable.toList = tableOf [(0, 9, 12, 13), (0, 9, 15, 15)] := vx_table (x := yL_open) B0 (hts _ List.mem_cons_self)
  have hP : va_P D vwCl (zWT cI cJ h (n, L) (kt, km, kl) (pt, pm, pl) (nu, le, ow, fo, run, wc, lc, tr, cl, tm, ms) (yl, yc, yt, co, pa, su, sc) mc ++ ((oa, .inl (cJ, 1, .inr (.inl yo))) :: R)) s.heap := hP
  have hD : va_D (zAb B) (zWT cI cJ h (n, L) (kt, km, kl) (pt, pm, pl) (nu, le, ow, fo, run, wc, lc, tr, cl, tm, ms) (yl, yc, yt, co, pa, su, sc) mc ++ ((oa, .inl (cJ, 1, .inr (.inl yo))) :: R)) := hD
  refine lv_aload_n hx hb dL_open_0 rfl (lv_at hl 2 rfl) ?_
  refine lv_iconst (v := 0) hx hb dL_open_1 (by decide) ?_
  refine lv_aload_n hx hb dL_open_2 rfl (lv_at hl 0 rfl) ?_
  refine lv_iload_n hx hb dL_open_3 rfl (lv_at hl 1 rfl) ?_
  refine vx_calli (vx_runV (As := [.int i]) (rest := [.int 0, .ref oa]) ⟨hx, hb, hml, hown, hts⟩ (c_X4_open_x2 hls   hi1 hi6 hf hn) (cwV 1 hts gL_open_X4_open rfl rfl rfl hdv_X4_open ⟨Nat.le_of_ble_eq_true rfl, Nat.le_of_ble_eq_true rfl⟩) (zV 0 hP hD hK hE hB hS rfl rfl) rfl rfl hl.1 rfl (lv_room (Nat.le_of_ble_eq_true rfl)) dL_open_4 ⟨Nat.le_of_ble_eq_true rfl, Nat.le_of_ble_eq_true rfl⟩) hS (fun _ _ h => h) (fun _ h => h) (fun _ _ h => h) (fun E ce q9 u t H locs ht hal hpx hbx hsz hkp hS hce hcv hcl => ?_) (fun r u t H locs ht hal hpo hbo hsz hkp hS => hpo.elim)
  obtain ⟨rfl, hP, hD⟩ := hbx
  rw [ht] at hP
  refine vx_catch (name := "java/lang/IllegalStateException") hown [⟨0, 9, 12, 13⟩] ⟨0, 9, 15, 15⟩ [] htab (List.forall_mem_cons.mpr ⟨Or.inr ⟨by decide, "java/lang/IllegalArgumentException", (hts (.classLink RL 13 "java/lang/IllegalArgumentException") (List.mem_of_getElem? (i := 1) rfl)), hE.2.1.2.2 ("java/lang/IllegalStateException", "java/lang/IllegalArgumentException") (by decide +kernel)⟩, (fun _ h9 => absurd h9 List.not_mem_nil)⟩) (by decide) (by decide) (hts (.classLink RL 15 "java/lang/IllegalStateException") (List.mem_of_getElem? (i := 2) rfl)) (va_tabs rfl rfl (hE.2.1.1 "java/lang/IllegalStateException" (by decide +kernel))) hce hcv hcl ?_
  have hP : va_P D vwCl (zWT cI cJ h (n, L) (kt, km, kl) (pt, pm, pl) (nu, le, ow, fo, run, wc, lc, tr, cl, tm, ms) (yl, yc, yt, co, pa, su, sc) mc ++ ((oa, .inl (cJ, 1, .inr (.inl yo))) :: R)) _ := hP
  have hD : va_D (zAb B) (zWT cI cJ h (n, L) (kt, km, kl) (pt, pm, pl) (nu, le, ow, fo, run, wc, lc, tr, cl, tm, ms) (yl, yc, yt, co, pa, su, sc) mc ++ ((oa, .inl (cJ, 1, .inr (.inl yo))) :: R)) := hD
  refine lv_astore_n (lv' := [(3, .ref q9), (0, .ref (h 0)), (1, .int i), (2, .ref oa)]) hx hb dL_open_15 rfl hl (by decide) rfl (fun ls hl => ?_)
  refine lv_iconst (v := 2) hx hb dL_open_16 (by decide) ?_
  exact W.iret (v := 2) hx hb hr (fun t ht hW => ⟨⟨_, (), rfl, rfl, by rw [ht]; exact hP, hD⟩, hS.F ht⟩) hS.2.2 dL_open_17

set_option maxHeartbeats 1000000 in
set_option maxRecDepth 100000 in
theorem c_L_openWord {l : Launch} {B kr kp : Nat} {D : va_G} {cI cJ cZ : ClassId} {h : Nat → Nat} {R : va_W} {n : Nat} {L : Nat → Int64} {kt : Nat → Int32} {km : Nat → Int32} {kl : Nat → Int32} {pt : Nat → Int32} {pm : Nat → Int32} {pl : Nat → Int32} {nu : Nat → Int32} {le : Nat → Int32} {ow : Nat → Int32} {fo : Nat → Int32} {run : Bool} {wc : Nat} {lc : Nat} {tr : Nat} {cl : Nat} {tm : Nat} {ms : Nat} {yl : Nat → Int32} {yc : Nat → Int32} {yt : Nat → Int32} {co : Nat} {pa : Int32} {su : Nat} {sc : Nat} {mc : Nat → Int32} {oa : Nat} {yo : Nat → Int64} {k : Nat}   (hk : k < n) (hn : n ≤ 40) (hrun : run = false) : Met l yL_openWord wsL_openWord ({ frames := 3, cells := 0, slots := 0, locals := 71 }) (zPc B kr kp D (zTy cI cJ cZ) (zWT cI cJ h (n, L) (kt, km, kl) (pt, pm, pl) (nu, le, ow, fo, run, wc, lc, tr, cl, tm, ms) (yl, yc, yt, co, pa, su, sc) mc ++ ((oa, .inl (cJ, 1, .inr (.inl yo))) :: R)) [.ref (h 0), .int (nI k), .ref oa]) (zQi B D (zWT cI cJ h (n, L) (kt, km, kl) (pt, pm, pl) ((upd nu 0 (nI k)), (zale le 0 (L k) (zsz (L k))), (zaow ow 0 0 (zsz (L k))), (zafo (zfil 26 0 fo) (L k) (zsz (L k))), true, (0 + 1), (0 + zsz (L k)), 0, 0, 0, 0) (yl, yc, yt, co, pa, su, sc) mc ++ ((oa, .inl (cJ, 1, .inr (.inl (vp_updL yo 0 (((nI (0 + zsz (L k)))).toInt64))))) :: R)) 0) 0 0 (zAb B) := by
  refine va_MetW (cc := cL_openWord) (maxL := 4) (ret := (some .int)) (by decide) rfl ?_
  intro p e s m args below meth c s₁ B0 hml hv
  obtain ⟨rfl, hP, hD, hK, hE, hB⟩ := hv
  have hx := B0.exec
  have hb := B0.bytes
  have hr := B0.returns
  have hts := atoms_spec (ws := wsL_openWord) B0.pre
  have hown : s.vm.findClass RL = some m.cls := findClass_of_methodNamed B0.named
  have hlocks := B0.notSynchronized
  have hA : ∀ q : Nat, s.heap.size ≤ q → zAb B q := fun q hq => Nat.le_trans hB hq
  have hS : va_S (zAb B) s.heap s.heap [] := va_S.rf
  have hgr : s.heap.size ≤ s.heap.size := Nat.le_refl _
  have hl := lv_entry ([.ref (h 0), .int (nI k), .ref oa]) (n := 4) (Nat.le_of_ble_eq_true rfl)
  rw [lg_entry_eq]
  generalize (lg_sl ([.ref (h 0), .int (nI k), .ref oa]) ++ List.replicate (4 - (lg_sl ([.ref (h 0), .int (nI k), .ref oa])).length) Slot.unset).toArray = ls at hl ⊢
  have hl : lv_has ls 4 [(0, .ref (h 0)), (1, .int (nI k)), (2, .ref oa)] := hl
  have htab : c.exceptionTable.toList = tableOf [(0, 9, 12, 21), (0, 9, 15, 15)] := vx_table (x := yL_openWord) B0 (hts _ List.mem_cons_self)
  have hP : va_P D vwCl (zWT cI cJ h (n, L) (kt, km, kl) (pt, pm, pl) (nu, le, ow, fo, run, wc, lc, tr, cl, tm, ms) (yl, yc, yt, co, pa, su, sc) mc ++ ((oa, .inl (cJ, 1, .inr (.inl yo))) :: R)) s.heap := hP
  have hD : va_D (zAb B) (zWT cI cJ h (n, L) (kt, km, kl) (pt, pm, pl) (nu, le, ow, fo, run, wc, lc, tr, cl, tm, ms) (yl, yc, yt, co, pa, su, sc) mc ++ ((oa, .inl (cJ, 1, .inr (.inl yo))) :: R)) := hD
  refine lv_aload_n hx hb dL_openWord_0 rfl (lv_at hl 2 rfl) ?_
  refine lv_iconst (v := 0) hx hb dL_openWord_1 (by decide) ?_
  refine lv_aload_n hx hb dL_openWord_2 rfl (lv_at hl 0 rfl) ?_
  refine lv_iload_n hx hb dL_openWord_3 rfl (lv_at hl 1 rfl) ?_
  refine zci (zrV (As := [.int (nI k)]) (rest := [.int 0, .ref oa]) ⟨hx, hb, hml, hown, hts⟩ (zV 0 hP hD hK hE hB hS rfl rfl) (c_X4_openWord (k := k) (hk) (hn) (hrun)) (cwV 1 hts gL_openWord_X4_openWord rfl rfl rfl hdv_X4_openWord ⟨Nat.le_of_ble_eq_true rfl, Nat.le_of_ble_eq_true rfl⟩) rfl rfl hl.1 rfl (lv_room (Nat.le_of_ble_eq_true rfl)) dL_openWord_4 ⟨Nat.le_of_ble_eq_true rfl, Nat.le_of_ble_eq_true rfl⟩) hS (fun H locs hP hD hS => ?_)
  have hP : va_P D vwCl (zWT cI cJ h (n, L) (kt, km, kl) (pt, pm, pl) ((upd nu 0 (nI k)), (zale le 0 (L k) (zsz (L k))), (zaow ow 0 0 (zsz (L k))), (zafo (zfil 26 0 fo) (L k) (zsz (L k))), true, (0 + 1), (0 + zsz (L k)), 0, 0, 0, 0) (yl, yc, yt, co, pa, su, sc) mc ++ ((oa, .inl (cJ, 1, .inr (.inl yo))) :: R)) _ := hP
  have hD : va_D (zAb B) (zWT cI cJ h (n, L) (kt, km, kl) (pt, pm, pl) ((upd nu 0 (nI k)), (zale le 0 (L k) (zsz (L k))), (zaow ow 0 0 (zsz (L k))), (zafo (zfil 26 0 fo) (L k) (zsz (L k))), true, (0 + 1), (0 + zsz (L k)), 0, 0, 0, 0) (yl, yc, yt, co, pa, su, sc) mc ++ ((oa, .inl (cJ, 1, .inr (.inl yo))) :: R)) := hD
  refine lv_i2l (v := ((nI (0 + zsz (L k)))).toInt64) hx hb dL_openWord_7 rfl ?_
  refine va_last hx hb hK hP hD hS 21 1 rfl rfl (vp_in_nI (n := 0) (N := 1) (by omega) (by omega)) dL_openWord_8 (fun H locs hP hD hS => ?_)
  rw [pk_cl (x := (0 : Int32)) 0 (rfl) (by omega)] at hP hD
  have hP : va_P D vwCl (zWT cI cJ h (n, L) (kt, km, kl) (pt, pm, pl) ((upd nu 0 (nI k)), (zale le 0 (L k) (zsz (L k))), (zaow ow 0 0 (zsz (L k))), (zafo (zfil 26 0 fo) (L k) (zsz (L k))), true, (0 + 1), (0 + zsz (L k)), 0, 0, 0, 0) (yl, yc, yt, co, pa, su, sc) mc ++ ((oa, .inl (cJ, 1, .inr (.inl (vp_updL yo 0 (((nI (0 + zsz (L k)))).toInt64))))) :: R)) _ := hP
  have hD : va_D (zAb B) (zWT cI cJ h (n, L) (kt, km, kl) (pt, pm, pl) ((upd nu 0 (nI k)), (zale le 0 (L k) (zsz (L k))), (zaow ow 0 0 (zsz (L k))), (zafo (zfil 26 0 fo) (L k) (zsz (L k))), true, (0 + 1), (0 + zsz (L k)), 0, 0, 0, 0) (yl, yc, yt, co, pa, su, sc) mc ++ ((oa, .inl (cJ, 1, .inr (.inl (vp_updL yo 0 (((nI (0 + zsz (L k)))).toInt64))))) :: R)) := hD
  refine lv_goto (tgt := 18) hx hb dL_openWord_9 (by decide) ?_
  refine lv_iconst (v := 0) hx hb dL_openWord_18 (by decide) ?_
  exact W.iret (v := 0) hx hb hr (fun t ht hW => ⟨⟨_, (), rfl, rfl, by rw [ht]; exact hP, hD⟩, hS.F ht⟩) hS.2.2 dL_openWord_19

set_option maxHeartbeats 1000000 in
set_option maxRecDepth 100000 in
theorem c_L_openWord_x1 {l : Launch} {B kr kp : Nat} {D : va_G} {cI cJ cZ : ClassId} {h : Nat → Nat} {R : va_W} {n : Nat} {L : Nat → Int64} {kt : Nat → Int32} {km : Nat → Int32} {kl : Nat → Int32} {pt : Nat → Int32} {pm : Nat → Int32} {pl : Nat → Int32} {nu : Nat → Int32} {le : Nat → Int32} {ow : Nat → Int32} {fo : Nat → Int32} {run : Bool} {wc : Nat} {lc : Nat} {tr : Nat} {cl : Nat} {tm : Nat} {ms : Nat} {yl : Nat → Int32} {yc : Nat → Int32} {yt : Nat → Int32} {co : Nat} {pa : Int32} {su : Nat} {sc : Nat} {mc : Nat → Int32} {oa : Nat} {yo : Nat → Int64} {i : Int32}   (hls : l.stackTraces = false) (hi : i < 0 ∨ nI n ≤ i) (hn : n ≤ 40) : Met l yL_openWord wsL_openWord ({ frames := 7, cells := 1, slots := 6, locals := 103 }) (zPc B kr kp D (zTy cI cJ cZ) (zWT cI cJ h (n, L) (kt, km, kl) (pt, pm, pl) (nu, le, ow, fo, run, wc, lc, tr, cl, tm, ms) (yl, yc, yt, co, pa, su, sc) mc ++ ((oa, .inl (cJ, 1, .inr (.inl yo))) :: R)) [.ref (h 0), .int i, .ref oa]) (zQi B D (zWT cI cJ h (n, L) (kt, km, kl) (pt, pm, pl) (nu, le, ow, fo, run, wc, lc, tr, cl, tm, ms) (yl, yc, yt, co, pa, su, sc) mc ++ ((oa, .inl (cJ, 1, .inr (.inl yo))) :: R)) 1) 1 6 (zAb B) := by
  refine va_MetW (cc := cL_openWord) (maxL := 4) (ret := (some .int)) (by decide) rfl ?_
  intro p e s m args below meth c s₁ B0 hml hv
  obtain ⟨rfl, hP, hD, hK, hE, hB⟩ := hv
  have hx := B0.exec
  have hb := B0.bytes
  have hr := B0.returns
  have hts := atoms_spec (ws := wsL_openWord) B0.pre
  have hown : s.vm.findClass RL = some m.cls := findClass_of_methodNamed B0.named
  have hlocks := B0.notSynchronized
  have hA : ∀ q : Nat, s.heap.size ≤ q → zAb B q := fun q hq => Nat.le_trans hB hq
  have hS : va_S (zAb B) s.heap s.heap [] := va_S.rf
  have hgr : s.heap.size ≤ s.heap.size := Nat.le_refl _
  have hl := lv_entry ([.ref (h 0), .int i, .ref oa]) (n := 4) (Nat.le_of_ble_eq_true rfl)
  rw [lg_entry_eq]
  generalize (lg_sl ([.ref (h 0), .int i, .ref oa]) ++ List.replicate (4 - (lg_sl ([.ref (h 0), .int i, .ref oa])).length) Slot.unset).toArray = ls at hl ⊢
  have hl : lv_has ls 4 [(0, .ref (h 0)), (1, .int i), (2, .ref oa)] := hl
  have htab : c.exceptionTable.toList = tableOf [(0, 9, 12, 21), (0, 9, 15, 15)] := vx_table (x := yL_openWord) B0 (hts _ List.mem_cons_self)
  have hP : va_P D vwCl (zWT cI cJ h (n, L) (kt, km, kl) (pt, pm, pl) (nu, le, ow, fo, run, wc, lc, tr, cl, tm, ms) (yl, yc, yt, co, pa, su, sc) mc ++ ((oa, .inl (cJ, 1, .inr (.inl yo))) :: R)) s.heap := hP
  have hD : va_D (zAb B) (zWT cI cJ h (n, L) (kt, km, kl) (pt, pm, pl) (nu, le, ow, fo, run, wc, lc, tr, cl, tm, ms) (yl, yc, yt, co, pa, su, sc) mc ++ ((oa, .inl (cJ, 1, .inr (.inl yo))) :: R)) := hD
  refine lv_aload_n hx hb dL_openWord_0 rfl (lv_at hl 2 rfl) ?_
  refine lv_iconst (v := 0) hx hb dL_openWord_1 (by decide) ?_
  refine lv_aload_n hx hb dL_openWord_2 rfl (lv_at hl 0 rfl) ?_
  refine lv_iload_n hx hb dL_openWord_3 rfl (lv_at hl 1 rfl) ?_
  refine vx_calli (vx_runV (As := [.int i]) (rest := [.int 0, .ref oa]) ⟨hx, hb, hml, hown, hts⟩ (c_X4_openWord_x1 hls   hi hn) (cwV 1 hts gL_openWord_X4_openWord rfl rfl rfl hdv_X4_openWord ⟨Nat.le_of_ble_eq_true rfl, Nat.le_of_ble_eq_true rfl⟩) (zV 0 hP hD hK hE hB hS rfl rfl) rfl rfl hl.1 rfl (lv_room (Nat.le_of_ble_eq_true rfl)) dL_openWord_4 ⟨Nat.le_of_ble_eq_true rfl, Nat.le_of_ble_eq_true rfl⟩) hS (fun _ _ h => h) (fun _ h => h) (fun _ _ h => h) (fun E ce q9 u t H locs ht hal hpx hbx hsz hkp hS hce hcv hcl => ?_) (fun r u t H locs ht hal hpo hbo hsz hkp hS => hpo.elim)
  obtain ⟨rfl, hP, hD⟩ := hbx
  rw [ht] at hP
  refine vx_catch (name := "java/lang/IndexOutOfBoundsException") hown [] ⟨0, 9, 12, 21⟩ [⟨0, 9, 15, 15⟩] htab (fun _ h9 => absurd h9 List.not_mem_nil) (by decide) (by decide) (hts (.classLink RL 21 "java/lang/IndexOutOfBoundsException") (List.mem_of_getElem? (i := 1) rfl)) (va_tabs rfl rfl (hE.2.1.1 "java/lang/IndexOutOfBoundsException" (by decide +kernel))) hce hcv hcl ?_
  have hP : va_P D vwCl (zWT cI cJ h (n, L) (kt, km, kl) (pt, pm, pl) (nu, le, ow, fo, run, wc, lc, tr, cl, tm, ms) (yl, yc, yt, co, pa, su, sc) mc ++ ((oa, .inl (cJ, 1, .inr (.inl yo))) :: R)) _ := hP
  have hD : va_D (zAb B) (zWT cI cJ h (n, L) (kt, km, kl) (pt, pm, pl) (nu, le, ow, fo, run, wc, lc, tr, cl, tm, ms) (yl, yc, yt, co, pa, su, sc) mc ++ ((oa, .inl (cJ, 1, .inr (.inl yo))) :: R)) := hD
  refine lv_astore_n (lv' := [(3, .ref q9), (0, .ref (h 0)), (1, .int i), (2, .ref oa)]) hx hb dL_openWord_12 rfl hl (by decide) rfl (fun ls hl => ?_)
  refine lv_iconst (v := 1) hx hb dL_openWord_13 (by decide) ?_
  exact W.iret (v := 1) hx hb hr (fun t ht hW => ⟨⟨_, (), rfl, rfl, by rw [ht]; exact hP, hD⟩, hS.F ht⟩) hS.2.2 dL_openWord_14

set_option maxHeartbeats 1000000 in
set_option maxRecDepth 100000 in
theorem c_L_openWord_x2 {l : Launch} {B kr kp : Nat} {D : va_G} {cI cJ cZ : ClassId} {h : Nat → Nat} {R : va_W} {n : Nat} {L : Nat → Int64} {kt : Nat → Int32} {km : Nat → Int32} {kl : Nat → Int32} {pt : Nat → Int32} {pm : Nat → Int32} {pl : Nat → Int32} {nu : Nat → Int32} {le : Nat → Int32} {ow : Nat → Int32} {fo : Nat → Int32} {run : Bool} {wc : Nat} {lc : Nat} {tr : Nat} {cl : Nat} {tm : Nat} {ms : Nat} {yl : Nat → Int32} {yc : Nat → Int32} {yt : Nat → Int32} {co : Nat} {pa : Int32} {su : Nat} {sc : Nat} {mc : Nat → Int32} {oa : Nat} {yo : Nat → Int64} {k : Nat}   (hls : l.stackTraces = false) (hk : k < n) (hn : n ≤ 40) (hrun : run = true) : Met l yL_openWord wsL_openWord ({ frames := 7, cells := 1, slots := 6, locals := 103 }) (zPc B kr kp D (zTy cI cJ cZ) (zWT cI cJ h (n, L) (kt, km, kl) (pt, pm, pl) (nu, le, ow, fo, run, wc, lc, tr, cl, tm, ms) (yl, yc, yt, co, pa, su, sc) mc ++ ((oa, .inl (cJ, 1, .inr (.inl yo))) :: R)) [.ref (h 0), .int (nI k), .ref oa]) (zQi B D (zWT cI cJ h (n, L) (kt, km, kl) (pt, pm, pl) (nu, le, ow, fo, run, wc, lc, tr, cl, tm, ms) (yl, yc, yt, co, pa, su, sc) mc ++ ((oa, .inl (cJ, 1, .inr (.inl yo))) :: R)) 2) 1 6 (zAb B) := by
  refine va_MetW (cc := cL_openWord) (maxL := 4) (ret := (some .int)) (by decide) rfl ?_
  intro p e s m args below meth c s₁ B0 hml hv
  obtain ⟨rfl, hP, hD, hK, hE, hB⟩ := hv
  have hx := B0.exec
  have hb := B0.bytes
  have hr := B0.returns
  have hts := atoms_spec (ws := wsL_openWord) B0.pre
  have hown : s.vm.findClass RL = some m.cls := findClass_of_methodNamed B0.named
  have hlocks := B0.notSynchronized
  have hA : ∀ q : Nat, s.heap.size ≤ q → zAb B q := fun q hq => Nat.le_trans hB hq
  have hS : va_S (zAb B) s.heap s.heap [] := va_S.rf
  have hgr : s.heap.size ≤ s.heap.size := Nat.le_refl _
  have hl := lv_entry ([.ref (h 0), .int (nI k), .ref oa]) (n := 4) (Nat.le_of_ble_eq_true rfl)
  rw [lg_entry_eq]
  generalize (lg_sl ([.ref (h 0), .int (nI k), .ref oa]) ++ List.replicate (4 - (lg_sl ([.ref (h 0), .int (nI k), .ref oa])).length) Slot.unset).toArray = ls at hl ⊢
  have hl : lv_has ls 4 [(0, .ref (h 0)), (1, .int (nI k)), (2, .ref oa)] := hl
  have htab : c.exceptionTable.toList = tableOf [(0, 9, 12, 21), (0, 9, 15, 15)] := vx_table (x := yL_openWord) B0 (hts _ List.mem_cons_self)
  have hP : va_P D vwCl (zWT cI cJ h (n, L) (kt, km, kl) (pt, pm, pl) (nu, le, ow, fo, run, wc, lc, tr, cl, tm, ms) (yl, yc, yt, co, pa, su, sc) mc ++ ((oa, .inl (cJ, 1, .inr (.inl yo))) :: R)) s.heap := hP
  have hD : va_D (zAb B) (zWT cI cJ h (n, L) (kt, km, kl) (pt, pm, pl) (nu, le, ow, fo, run, wc, lc, tr, cl, tm, ms) (yl, yc, yt, co, pa, su, sc) mc ++ ((oa, .inl (cJ, 1, .inr (.inl yo))) :: R)) := hD
  refine lv_aload_n hx hb dL_openWord_0 rfl (lv_at hl 2 rfl) ?_
  refine lv_iconst (v := 0) hx hb dL_openWord_1 (by decide) ?_
  refine lv_aload_n hx hb dL_openWord_2 rfl (lv_at hl 0 rfl) ?_
  refine lv_iload_n hx hb dL_openWord_3 rfl (lv_at hl 1 rfl) ?_
  refine vx_calli (vx_runV (As := [.int (nI k)]) (rest := [.int 0, .ref oa]) ⟨hx, hb, hml, hown, hts⟩ (c_X4_openWord_x2 hls (k := k)  hk hn hrun) (cwV 1 hts gL_openWord_X4_openWord rfl rfl rfl hdv_X4_openWord ⟨Nat.le_of_ble_eq_true rfl, Nat.le_of_ble_eq_true rfl⟩) (zV 0 hP hD hK hE hB hS rfl rfl) rfl rfl hl.1 rfl (lv_room (Nat.le_of_ble_eq_true rfl)) dL_openWord_4 ⟨Nat.le_of_ble_eq_true rfl, Nat.le_of_ble_eq_true rfl⟩) hS (fun _ _ h => h) (fun _ h => h) (fun _ _ h => h) (fun E ce q9 u t H locs ht hal hpx hbx hsz hkp hS hce hcv hcl => ?_) (fun r u t H locs ht hal hpo hbo hsz hkp hS => hpo.elim)
  obtain ⟨rfl, hP, hD⟩ := hbx
  rw [ht] at hP
  refine vx_catch (name := "java/lang/IllegalStateException") hown [⟨0, 9, 12, 21⟩] ⟨0, 9, 15, 15⟩ [] htab (List.forall_mem_cons.mpr ⟨Or.inr ⟨by decide, "java/lang/IndexOutOfBoundsException", (hts (.classLink RL 21 "java/lang/IndexOutOfBoundsException") (List.mem_of_getElem? (i := 1) rfl)), hE.2.1.2.2 ("java/lang/IllegalStateException", "java/lang/IndexOutOfBoundsException") (by decide +kernel)⟩, (fun _ h9 => absurd h9 List.not_mem_nil)⟩) (by decide) (by decide) (hts (.classLink RL 15 "java/lang/IllegalStateException") (List.mem_of_getElem? (i := 2) rfl)) (va_tabs rfl rfl (hE.2.1.1 "java/lang/IllegalStateException" (by decide +kernel))) hce hcv hcl ?_
  have hP : va_P D vwCl (zWT cI cJ h (n, L) (kt, km, kl) (pt, pm, pl) (nu, le, ow, fo, run, wc, lc, tr, cl, tm, ms) (yl, yc, yt, co, pa, su, sc) mc ++ ((oa, .inl (cJ, 1, .inr (.inl yo))) :: R)) _ := hP
  have hD : va_D (zAb B) (zWT cI cJ h (n, L) (kt, km, kl) (pt, pm, pl) (nu, le, ow, fo, run, wc, lc, tr, cl, tm, ms) (yl, yc, yt, co, pa, su, sc) mc ++ ((oa, .inl (cJ, 1, .inr (.inl yo))) :: R)) := hD
  refine lv_astore_n (lv' := [(3, .ref q9), (0, .ref (h 0)), (1, .int (nI k)), (2, .ref oa)]) hx hb dL_openWord_15 rfl hl (by decide) rfl (fun ls hl => ?_)
  refine lv_iconst (v := 2) hx hb dL_openWord_16 (by decide) ?_
  exact W.iret (v := 2) hx hb hr (fun t ht hW => ⟨⟨_, (), rfl, rfl, by rw [ht]; exact hP, hD⟩, hS.F ht⟩) hS.2.2 dL_openWord_17

set_option maxHeartbeats 1000000 in
set_option maxRecDepth 100000 in
theorem c_L_giveUp {l : Launch} {B kr kp : Nat} {D : va_G} {cI cJ cZ : ClassId} {h : Nat → Nat} {R : va_W} {n : Nat} {L : Nat → Int64} {kt : Nat → Int32} {km : Nat → Int32} {kl : Nat → Int32} {pt : Nat → Int32} {pm : Nat → Int32} {pl : Nat → Int32} {nu : Nat → Int32} {le : Nat → Int32} {ow : Nat → Int32} {fo : Nat → Int32} {run : Bool} {wc : Nat} {lc : Nat} {tr : Nat} {cl : Nat} {tm : Nat} {ms : Nat} {yl : Nat → Int32} {yc : Nat → Int32} {yt : Nat → Int32} {co : Nat} {pa : Int32} {su : Nat} {sc : Nat} {mc : Nat → Int32} {oa : Nat} {yo : Nat → Int64}    (hrun : run = true) (htr : tr ≤ lc) : Met l yL_giveUp wsL_giveUp ({ frames := 2, cells := 0, slots := 0, locals := 40 }) (zPc B kr kp D (zTy cI cJ cZ) (zWT cI cJ h (n, L) (kt, km, kl) (pt, pm, pl) (nu, le, ow, fo, run, wc, lc, tr, cl, tm, ms) (yl, yc, yt, co, pa, su, sc) mc ++ ((oa, .inl (cJ, 1, .inr (.inl yo))) :: R)) [.ref (h 0), .ref oa]) (zQi B D (zWT cI cJ h (n, L) (kt, km, kl) (pt, pm, pl) (nu, le, ow, fo, false, wc, lc, tr, cl, tm, ms) (yl, yc, yt, co, pa, su, sc) mc ++ ((oa, .inl (cJ, 1, .inr (.inl (vp_updL yo 0 (((nI (lc - tr))).toInt64))))) :: R)) 0) 0 0 (zAb B) := by
  refine va_MetW (cc := cL_giveUp) (maxL := 3) (ret := (some .int)) (by decide) rfl ?_
  intro p e s m args below meth c s₁ B0 hml hv
  obtain ⟨rfl, hP, hD, hK, hE, hB⟩ := hv
  have hx := B0.exec
  have hb := B0.bytes
  have hr := B0.returns
  have hts := atoms_spec (ws := wsL_giveUp) B0.pre
  have hown : s.vm.findClass RL = some m.cls := findClass_of_methodNamed B0.named
  have hlocks := B0.notSynchronized
  have hA : ∀ q : Nat, s.heap.size ≤ q → zAb B q := fun q hq => Nat.le_trans hB hq
  have hS : va_S (zAb B) s.heap s.heap [] := va_S.rf
  have hgr : s.heap.size ≤ s.heap.size := Nat.le_refl _
  have hl := lv_entry ([.ref (h 0), .ref oa]) (n := 3) (Nat.le_of_ble_eq_true rfl)
  rw [lg_entry_eq]
  generalize (lg_sl ([.ref (h 0), .ref oa]) ++ List.replicate (3 - (lg_sl ([.ref (h 0), .ref oa])).length) Slot.unset).toArray = ls at hl ⊢
  have hl : lv_has ls 3 [(0, .ref (h 0)), (1, .ref oa)] := hl
  have htab : c.exceptionTable.toList = tableOf [(0, 8, 11, 15)] := vx_table (x := yL_giveUp) B0 (hts _ List.mem_cons_self)
  have hP : va_P D vwCl (zWT cI cJ h (n, L) (kt, km, kl) (pt, pm, pl) (nu, le, ow, fo, run, wc, lc, tr, cl, tm, ms) (yl, yc, yt, co, pa, su, sc) mc ++ ((oa, .inl (cJ, 1, .inr (.inl yo))) :: R)) s.heap := hP
  have hD : va_D (zAb B) (zWT cI cJ h (n, L) (kt, km, kl) (pt, pm, pl) (nu, le, ow, fo, run, wc, lc, tr, cl, tm, ms) (yl, yc, yt, co, pa, su, sc) mc ++ ((oa, .inl (cJ, 1, .inr (.inl yo))) :: R)) := hD
  refine lv_aload_n hx hb dL_giveUp_0 rfl (lv_at hl 1 rfl) ?_
  refine lv_iconst (v := 0) hx hb dL_giveUp_1 (by decide) ?_
  refine lv_aload_n hx hb dL_giveUp_2 rfl (lv_at hl 0 rfl) ?_
  refine zci (zrV (As := []) (rest := [.int 0, .ref oa]) ⟨hx, hb, hml, hown, hts⟩ (zV 0 hP hD hK hE hB hS rfl rfl) (c_X4_giveUp  (hrun) (htr)) (cwV 0 hts gL_giveUp_X4_giveUp rfl rfl rfl hdv_X4_giveUp ⟨Nat.le_of_ble_eq_true rfl, Nat.le_of_ble_eq_true rfl⟩) rfl rfl hl.1 rfl (lv_room (Nat.le_of_ble_eq_true rfl)) dL_giveUp_3 ⟨Nat.le_of_ble_eq_true rfl, Nat.le_of_ble_eq_true rfl⟩) hS (fun H locs hP hD hS => ?_)
  have hP : va_P D vwCl (zWT cI cJ h (n, L) (kt, km, kl) (pt, pm, pl) (nu, le, ow, fo, false, wc, lc, tr, cl, tm, ms) (yl, yc, yt, co, pa, su, sc) mc ++ ((oa, .inl (cJ, 1, .inr (.inl yo))) :: R)) _ := hP
  have hD : va_D (zAb B) (zWT cI cJ h (n, L) (kt, km, kl) (pt, pm, pl) (nu, le, ow, fo, false, wc, lc, tr, cl, tm, ms) (yl, yc, yt, co, pa, su, sc) mc ++ ((oa, .inl (cJ, 1, .inr (.inl yo))) :: R)) := hD
  refine lv_i2l (v := ((nI (lc - tr))).toInt64) hx hb dL_giveUp_6 rfl ?_
  refine va_last hx hb hK hP hD hS 21 1 rfl rfl (vp_in_nI (n := 0) (N := 1) (by omega) (by omega)) dL_giveUp_7 (fun H locs hP hD hS => ?_)
  rw [pk_cl (x := (0 : Int32)) 0 (rfl) (by omega)] at hP hD
  have hP : va_P D vwCl (zWT cI cJ h (n, L) (kt, km, kl) (pt, pm, pl) (nu, le, ow, fo, false, wc, lc, tr, cl, tm, ms) (yl, yc, yt, co, pa, su, sc) mc ++ ((oa, .inl (cJ, 1, .inr (.inl (vp_updL yo 0 (((nI (lc - tr))).toInt64))))) :: R)) _ := hP
  have hD : va_D (zAb B) (zWT cI cJ h (n, L) (kt, km, kl) (pt, pm, pl) (nu, le, ow, fo, false, wc, lc, tr, cl, tm, ms) (yl, yc, yt, co, pa, su, sc) mc ++ ((oa, .inl (cJ, 1, .inr (.inl (vp_updL yo 0 (((nI (lc - tr))).toInt64))))) :: R)) := hD
  refine lv_goto (tgt := 14) hx hb dL_giveUp_8 (by decide) ?_
  refine lv_iconst (v := 0) hx hb dL_giveUp_14 (by decide) ?_
  exact W.iret (v := 0) hx hb hr (fun t ht hW => ⟨⟨_, (), rfl, rfl, by rw [ht]; exact hP, hD⟩, hS.F ht⟩) hS.2.2 dL_giveUp_15

set_option maxHeartbeats 1000000 in
set_option maxRecDepth 100000 in
theorem c_L_giveUp_x {l : Launch} {B kr kp : Nat} {D : va_G} {cI cJ cZ : ClassId} {h : Nat → Nat} {R : va_W} {n : Nat} {L : Nat → Int64} {kt : Nat → Int32} {km : Nat → Int32} {kl : Nat → Int32} {pt : Nat → Int32} {pm : Nat → Int32} {pl : Nat → Int32} {nu : Nat → Int32} {le : Nat → Int32} {ow : Nat → Int32} {fo : Nat → Int32} {run : Bool} {wc : Nat} {lc : Nat} {tr : Nat} {cl : Nat} {tm : Nat} {ms : Nat} {yl : Nat → Int32} {yc : Nat → Int32} {yt : Nat → Int32} {co : Nat} {pa : Int32} {su : Nat} {sc : Nat} {mc : Nat → Int32} {oa : Nat} {yo : Nat → Int64}    (hls : l.stackTraces = false) (hrun : run = false) : Met l yL_giveUp wsL_giveUp ({ frames := 7, cells := 1, slots := 6, locals := 102 }) (zPc B kr kp D (zTy cI cJ cZ) (zWT cI cJ h (n, L) (kt, km, kl) (pt, pm, pl) (nu, le, ow, fo, run, wc, lc, tr, cl, tm, ms) (yl, yc, yt, co, pa, su, sc) mc ++ ((oa, .inl (cJ, 1, .inr (.inl yo))) :: R)) [.ref (h 0), .ref oa]) (zQi B D (zWT cI cJ h (n, L) (kt, km, kl) (pt, pm, pl) (nu, le, ow, fo, run, wc, lc, tr, cl, tm, ms) (yl, yc, yt, co, pa, su, sc) mc ++ ((oa, .inl (cJ, 1, .inr (.inl yo))) :: R)) 1) 1 6 (zAb B) := by
  refine va_MetW (cc := cL_giveUp) (maxL := 3) (ret := (some .int)) (by decide) rfl ?_
  intro p e s m args below meth c s₁ B0 hml hv
  obtain ⟨rfl, hP, hD, hK, hE, hB⟩ := hv
  have hx := B0.exec
  have hb := B0.bytes
  have hr := B0.returns
  have hts := atoms_spec (ws := wsL_giveUp) B0.pre
  have hown : s.vm.findClass RL = some m.cls := findClass_of_methodNamed B0.named
  have hlocks := B0.notSynchronized
  have hA : ∀ q : Nat, s.heap.size ≤ q → zAb B q := fun q hq => Nat.le_trans hB hq
  have hS : va_S (zAb B) s.heap s.heap [] := va_S.rf
  have hgr : s.heap.size ≤ s.heap.size := Nat.le_refl _
  have hl := lv_entry ([.ref (h 0), .ref oa]) (n := 3) (Nat.le_of_ble_eq_true rfl)
  rw [lg_entry_eq]
  generalize (lg_sl ([.ref (h 0), .ref oa]) ++ List.replicate (3 - (lg_sl ([.ref (h 0), .ref oa])).length) Slot.unset).toArray = ls at hl ⊢
  have hl : lv_has ls 3 [(0, .ref (h 0)), (1, .ref oa)] := hl
  have htab : c.exceptionTable.toList = tableOf [(0, 8, 11, 15)] := vx_table (x := yL_giveUp) B0 (hts _ List.mem_cons_self)
  have hP : va_P D vwCl (zWT cI cJ h (n, L) (kt, km, kl) (pt, pm, pl) (nu, le, ow, fo, run, wc, lc, tr, cl, tm, ms) (yl, yc, yt, co, pa, su, sc) mc ++ ((oa, .inl (cJ, 1, .inr (.inl yo))) :: R)) s.heap := hP
  have hD : va_D (zAb B) (zWT cI cJ h (n, L) (kt, km, kl) (pt, pm, pl) (nu, le, ow, fo, run, wc, lc, tr, cl, tm, ms) (yl, yc, yt, co, pa, su, sc) mc ++ ((oa, .inl (cJ, 1, .inr (.inl yo))) :: R)) := hD
  refine lv_aload_n hx hb dL_giveUp_0 rfl (lv_at hl 1 rfl) ?_
  refine lv_iconst (v := 0) hx hb dL_giveUp_1 (by decide) ?_
  refine lv_aload_n hx hb dL_giveUp_2 rfl (lv_at hl 0 rfl) ?_
  refine vx_calli (vx_runV (As := []) (rest := [.int 0, .ref oa]) ⟨hx, hb, hml, hown, hts⟩ (c_X4_giveUp_x hls   hrun) (cwV 0 hts gL_giveUp_X4_giveUp rfl rfl rfl hdv_X4_giveUp ⟨Nat.le_of_ble_eq_true rfl, Nat.le_of_ble_eq_true rfl⟩) (zV 0 hP hD hK hE hB hS rfl rfl) rfl rfl hl.1 rfl (lv_room (Nat.le_of_ble_eq_true rfl)) dL_giveUp_3 ⟨Nat.le_of_ble_eq_true rfl, Nat.le_of_ble_eq_true rfl⟩) hS (fun _ _ h => h) (fun _ h => h) (fun _ _ h => h) (fun E ce q9 u t H locs ht hal hpx hbx hsz hkp hS hce hcv hcl => ?_) (fun r u t H locs ht hal hpo hbo hsz hkp hS => hpo.elim)
  obtain ⟨rfl, hP, hD⟩ := hbx
  rw [ht] at hP
  refine vx_catch (name := "java/lang/IllegalStateException") hown [] ⟨0, 8, 11, 15⟩ [] htab (fun _ h9 => absurd h9 List.not_mem_nil) (by decide) (by decide) (hts (.classLink RL 15 "java/lang/IllegalStateException") (List.mem_of_getElem? (i := 1) rfl)) (va_tabs rfl rfl (hE.2.1.1 "java/lang/IllegalStateException" (by decide +kernel))) hce hcv hcl ?_
  have hP : va_P D vwCl (zWT cI cJ h (n, L) (kt, km, kl) (pt, pm, pl) (nu, le, ow, fo, run, wc, lc, tr, cl, tm, ms) (yl, yc, yt, co, pa, su, sc) mc ++ ((oa, .inl (cJ, 1, .inr (.inl yo))) :: R)) _ := hP
  have hD : va_D (zAb B) (zWT cI cJ h (n, L) (kt, km, kl) (pt, pm, pl) (nu, le, ow, fo, run, wc, lc, tr, cl, tm, ms) (yl, yc, yt, co, pa, su, sc) mc ++ ((oa, .inl (cJ, 1, .inr (.inl yo))) :: R)) := hD
  refine lv_astore_n (lv' := [(2, .ref q9), (0, .ref (h 0)), (1, .ref oa)]) hx hb dL_giveUp_11 rfl hl (by decide) rfl (fun ls hl => ?_)
  refine lv_iconst (v := 1) hx hb dL_giveUp_12 (by decide) ?_
  exact W.iret (v := 1) hx hb hr (fun t ht hW => ⟨⟨_, (), rfl, rfl, by rw [ht]; exact hP, hD⟩, hS.F ht⟩) hS.2.2 dL_giveUp_13

set_option maxHeartbeats 1000000 in
set_option maxRecDepth 100000 in
theorem c_L_wanted_x {l : Launch} {B kr kp : Nat} {D : va_G} {cI cJ cZ : ClassId} {h : Nat → Nat} {R : va_W} {n : Nat} {L : Nat → Int64} {kt : Nat → Int32} {km : Nat → Int32} {kl : Nat → Int32} {pt : Nat → Int32} {pm : Nat → Int32} {pl : Nat → Int32} {nu : Nat → Int32} {le : Nat → Int32} {ow : Nat → Int32} {fo : Nat → Int32} {run : Bool} {wc : Nat} {lc : Nat} {tr : Nat} {cl : Nat} {tm : Nat} {ms : Nat} {yl : Nat → Int32} {yc : Nat → Int32} {yt : Nat → Int32} {co : Nat} {pa : Int32} {su : Nat} {sc : Nat} {mc : Nat → Int32} {oa : Nat} {yo : Nat → Int64}    (hls : l.stackTraces = false) (hrun : run = false) : Met l yL_wanted wsL_wanted ({ frames := 7, cells := 1, slots := 6, locals := 102 }) (zPc B kr kp D (zTy cI cJ cZ) (zWT cI cJ h (n, L) (kt, km, kl) (pt, pm, pl) (nu, le, ow, fo, run, wc, lc, tr, cl, tm, ms) (yl, yc, yt, co, pa, su, sc) mc ++ ((oa, .inl (cJ, 1, .inr (.inl yo))) :: R)) [.ref (h 0), .ref oa]) (zQi B D (zWT cI cJ h (n, L) (kt, km, kl) (pt, pm, pl) (nu, le, ow, fo, run, wc, lc, tr, cl, tm, ms) (yl, yc, yt, co, pa, su, sc) mc ++ ((oa, .inl (cJ, 1, .inr (.inl yo))) :: R)) 1) 1 6 (zAb B) := by
  refine va_MetW (cc := cL_wanted) (maxL := 3) (ret := (some .int)) (by decide) rfl ?_
  intro p e s m args below meth c s₁ B0 hml hv
  obtain ⟨rfl, hP, hD, hK, hE, hB⟩ := hv
  have hx := B0.exec
  have hb := B0.bytes
  have hr := B0.returns
  have hts := atoms_spec (ws := wsL_wanted) B0.pre
  have hown : s.vm.findClass RL = some m.cls := findClass_of_methodNamed B0.named
  have hlocks := B0.notSynchronized
  have hA : ∀ q : Nat, s.heap.size ≤ q → zAb B q := fun q hq => Nat.le_trans hB hq
  have hS : va_S (zAb B) s.heap s.heap [] := va_S.rf
  have hgr : s.heap.size ≤ s.heap.size := Nat.le_refl _
  have hl := lv_entry ([.ref (h 0), .ref oa]) (n := 3) (Nat.le_of_ble_eq_true rfl)
  rw [lg_entry_eq]
  generalize (lg_sl ([.ref (h 0), .ref oa]) ++ List.replicate (3 - (lg_sl ([.ref (h 0), .ref oa])).length) Slot.unset).toArray = ls at hl ⊢
  have hl : lv_has ls 3 [(0, .ref (h 0)), (1, .ref oa)] := hl
  have htab : c.exceptionTable.toList = tableOf [(0, 8, 11, 15)] := vx_table (x := yL_wanted) B0 (hts _ List.mem_cons_self)
  have hP : va_P D vwCl (zWT cI cJ h (n, L) (kt, km, kl) (pt, pm, pl) (nu, le, ow, fo, run, wc, lc, tr, cl, tm, ms) (yl, yc, yt, co, pa, su, sc) mc ++ ((oa, .inl (cJ, 1, .inr (.inl yo))) :: R)) s.heap := hP
  have hD : va_D (zAb B) (zWT cI cJ h (n, L) (kt, km, kl) (pt, pm, pl) (nu, le, ow, fo, run, wc, lc, tr, cl, tm, ms) (yl, yc, yt, co, pa, su, sc) mc ++ ((oa, .inl (cJ, 1, .inr (.inl yo))) :: R)) := hD
  refine lv_aload_n hx hb dL_wanted_0 rfl (lv_at hl 1 rfl) ?_
  refine lv_iconst (v := 0) hx hb dL_wanted_1 (by decide) ?_
  refine lv_aload_n hx hb dL_wanted_2 rfl (lv_at hl 0 rfl) ?_
  refine vx_calli (vx_runV (As := []) (rest := [.int 0, .ref oa]) ⟨hx, hb, hml, hown, hts⟩ (c_X4_wanted_x hls   hrun) (cwV 0 hts gL_wanted_X4_wanted rfl rfl rfl hdv_X4_wanted ⟨Nat.le_of_ble_eq_true rfl, Nat.le_of_ble_eq_true rfl⟩) (zV 0 hP hD hK hE hB hS rfl rfl) rfl rfl hl.1 rfl (lv_room (Nat.le_of_ble_eq_true rfl)) dL_wanted_3 ⟨Nat.le_of_ble_eq_true rfl, Nat.le_of_ble_eq_true rfl⟩) hS (fun _ _ h => h) (fun _ h => h) (fun _ _ h => h) (fun E ce q9 u t H locs ht hal hpx hbx hsz hkp hS hce hcv hcl => ?_) (fun r u t H locs ht hal hpo hbo hsz hkp hS => hpo.elim)
  obtain ⟨rfl, hP, hD⟩ := hbx
  rw [ht] at hP
  refine vx_catch (name := "java/lang/IllegalStateException") hown [] ⟨0, 8, 11, 15⟩ [] htab (fun _ h9 => absurd h9 List.not_mem_nil) (by decide) (by decide) (hts (.classLink RL 15 "java/lang/IllegalStateException") (List.mem_of_getElem? (i := 1) rfl)) (va_tabs rfl rfl (hE.2.1.1 "java/lang/IllegalStateException" (by decide +kernel))) hce hcv hcl ?_
  have hP : va_P D vwCl (zWT cI cJ h (n, L) (kt, km, kl) (pt, pm, pl) (nu, le, ow, fo, run, wc, lc, tr, cl, tm, ms) (yl, yc, yt, co, pa, su, sc) mc ++ ((oa, .inl (cJ, 1, .inr (.inl yo))) :: R)) _ := hP
  have hD : va_D (zAb B) (zWT cI cJ h (n, L) (kt, km, kl) (pt, pm, pl) (nu, le, ow, fo, run, wc, lc, tr, cl, tm, ms) (yl, yc, yt, co, pa, su, sc) mc ++ ((oa, .inl (cJ, 1, .inr (.inl yo))) :: R)) := hD
  refine lv_astore_n (lv' := [(2, .ref q9), (0, .ref (h 0)), (1, .ref oa)]) hx hb dL_wanted_11 rfl hl (by decide) rfl (fun ls hl => ?_)
  refine lv_iconst (v := 1) hx hb dL_wanted_12 (by decide) ?_
  exact W.iret (v := 1) hx hb hr (fun t ht hW => ⟨⟨_, (), rfl, rfl, by rw [ht]; exact hP, hD⟩, hS.F ht⟩) hS.2.2 dL_wanted_13

set_option maxHeartbeats 1000000 in
set_option maxRecDepth 100000 in
theorem c_L_done_x {l : Launch} {B kr kp : Nat} {D : va_G} {cI cJ cZ : ClassId} {h : Nat → Nat} {R : va_W} {n : Nat} {L : Nat → Int64} {kt : Nat → Int32} {km : Nat → Int32} {kl : Nat → Int32} {pt : Nat → Int32} {pm : Nat → Int32} {pl : Nat → Int32} {nu : Nat → Int32} {le : Nat → Int32} {ow : Nat → Int32} {fo : Nat → Int32} {run : Bool} {wc : Nat} {lc : Nat} {tr : Nat} {cl : Nat} {tm : Nat} {ms : Nat} {yl : Nat → Int32} {yc : Nat → Int32} {yt : Nat → Int32} {co : Nat} {pa : Int32} {su : Nat} {sc : Nat} {mc : Nat → Int32} {oa : Nat} {yo : Nat → Int64}    (hls : l.stackTraces = false) (hrun : run = false) : Met l yL_done wsL_done ({ frames := 7, cells := 1, slots := 6, locals := 102 }) (zPc B kr kp D (zTy cI cJ cZ) (zWT cI cJ h (n, L) (kt, km, kl) (pt, pm, pl) (nu, le, ow, fo, run, wc, lc, tr, cl, tm, ms) (yl, yc, yt, co, pa, su, sc) mc ++ ((oa, .inl (cJ, 1, .inr (.inl yo))) :: R)) [.ref (h 0), .ref oa]) (zQi B D (zWT cI cJ h (n, L) (kt, km, kl) (pt, pm, pl) (nu, le, ow, fo, run, wc, lc, tr, cl, tm, ms) (yl, yc, yt, co, pa, su, sc) mc ++ ((oa, .inl (cJ, 1, .inr (.inl yo))) :: R)) 1) 1 6 (zAb B) := by
  refine va_MetW (cc := cL_done) (maxL := 3) (ret := (some .int)) (by decide) rfl ?_
  intro p e s m args below meth c s₁ B0 hml hv
  obtain ⟨rfl, hP, hD, hK, hE, hB⟩ := hv
  have hx := B0.exec
  have hb := B0.bytes
  have hr := B0.returns
  have hts := atoms_spec (ws := wsL_done) B0.pre
  have hown : s.vm.findClass RL = some m.cls := findClass_of_methodNamed B0.named
  have hlocks := B0.notSynchronized
  have hA : ∀ q : Nat, s.heap.size ≤ q → zAb B q := fun q hq => Nat.le_trans hB hq
  have hS : va_S (zAb B) s.heap s.heap [] := va_S.rf
  have hgr : s.heap.size ≤ s.heap.size := Nat.le_refl _
  have hl := lv_entry ([.ref (h 0), .ref oa]) (n := 3) (Nat.le_of_ble_eq_true rfl)
  rw [lg_entry_eq]
  generalize (lg_sl ([.ref (h 0), .ref oa]) ++ List.replicate (3 - (lg_sl ([.ref (h 0), .ref oa])).length) Slot.unset).toArray = ls at hl ⊢
  have hl : lv_has ls 3 [(0, .ref (h 0)), (1, .ref oa)] := hl
  have htab : c.exceptionTable.toList = tableOf [(0, 8, 11, 15)] := vx_table (x := yL_done) B0 (hts _ List.mem_cons_self)
  have hP : va_P D vwCl (zWT cI cJ h (n, L) (kt, km, kl) (pt, pm, pl) (nu, le, ow, fo, run, wc, lc, tr, cl, tm, ms) (yl, yc, yt, co, pa, su, sc) mc ++ ((oa, .inl (cJ, 1, .inr (.inl yo))) :: R)) s.heap := hP
  have hD : va_D (zAb B) (zWT cI cJ h (n, L) (kt, km, kl) (pt, pm, pl) (nu, le, ow, fo, run, wc, lc, tr, cl, tm, ms) (yl, yc, yt, co, pa, su, sc) mc ++ ((oa, .inl (cJ, 1, .inr (.inl yo))) :: R)) := hD
  refine lv_aload_n hx hb dL_done_0 rfl (lv_at hl 1 rfl) ?_
  refine lv_iconst (v := 0) hx hb dL_done_1 (by decide) ?_
  refine lv_aload_n hx hb dL_done_2 rfl (lv_at hl 0 rfl) ?_
  refine vx_calli (vx_runV (As := []) (rest := [.int 0, .ref oa]) ⟨hx, hb, hml, hown, hts⟩ (c_X4_done_x hls   hrun) (cwV 0 hts gL_done_X4_done rfl rfl rfl hdv_X4_done ⟨Nat.le_of_ble_eq_true rfl, Nat.le_of_ble_eq_true rfl⟩) (zV 0 hP hD hK hE hB hS rfl rfl) rfl rfl hl.1 rfl (lv_room (Nat.le_of_ble_eq_true rfl)) dL_done_3 ⟨Nat.le_of_ble_eq_true rfl, Nat.le_of_ble_eq_true rfl⟩) hS (fun _ _ h => h) (fun _ h => h) (fun _ _ h => h) (fun E ce q9 u t H locs ht hal hpx hbx hsz hkp hS hce hcv hcl => ?_) (fun r u t H locs ht hal hpo hbo hsz hkp hS => hpo.elim)
  obtain ⟨rfl, hP, hD⟩ := hbx
  rw [ht] at hP
  refine vx_catch (name := "java/lang/IllegalStateException") hown [] ⟨0, 8, 11, 15⟩ [] htab (fun _ h9 => absurd h9 List.not_mem_nil) (by decide) (by decide) (hts (.classLink RL 15 "java/lang/IllegalStateException") (List.mem_of_getElem? (i := 1) rfl)) (va_tabs rfl rfl (hE.2.1.1 "java/lang/IllegalStateException" (by decide +kernel))) hce hcv hcl ?_
  have hP : va_P D vwCl (zWT cI cJ h (n, L) (kt, km, kl) (pt, pm, pl) (nu, le, ow, fo, run, wc, lc, tr, cl, tm, ms) (yl, yc, yt, co, pa, su, sc) mc ++ ((oa, .inl (cJ, 1, .inr (.inl yo))) :: R)) _ := hP
  have hD : va_D (zAb B) (zWT cI cJ h (n, L) (kt, km, kl) (pt, pm, pl) (nu, le, ow, fo, run, wc, lc, tr, cl, tm, ms) (yl, yc, yt, co, pa, su, sc) mc ++ ((oa, .inl (cJ, 1, .inr (.inl yo))) :: R)) := hD
  refine lv_astore_n (lv' := [(2, .ref q9), (0, .ref (h 0)), (1, .ref oa)]) hx hb dL_done_11 rfl hl (by decide) rfl (fun ls hl => ?_)
  refine lv_iconst (v := 1) hx hb dL_done_12 (by decide) ?_
  exact W.iret (v := 1) hx hb hr (fun t ht hW => ⟨⟨_, (), rfl, rfl, by rw [ht]; exact hP, hD⟩, hS.F ht⟩) hS.2.2 dL_done_13

set_option maxHeartbeats 1000000 in
set_option maxRecDepth 100000 in
theorem c_L_wanted {l : Launch} {B kr kp : Nat} {D : va_G} {cI cJ cZ : ClassId} {h : Nat → Nat} {R : va_W} {n : Nat} {L : Nat → Int64} {kt : Nat → Int32} {km : Nat → Int32} {kl : Nat → Int32} {pt : Nat → Int32} {pm : Nat → Int32} {pl : Nat → Int32} {nu : Nat → Int32} {le : Nat → Int32} {ow : Nat → Int32} {fo : Nat → Int32} {run : Bool} {wc : Nat} {lc : Nat} {tr : Nat} {cl : Nat} {tm : Nat} {ms : Nat} {yl : Nat → Int32} {yc : Nat → Int32} {yt : Nat → Int32} {co : Nat} {pa : Int32} {su : Nat} {sc : Nat} {mc : Nat → Int32} {oa : Nat} {yo : Nat → Int64}    (hrun : run = true) (htr : tr < 48) : Met l yL_wanted wsL_wanted ({ frames := 3, cells := 0, slots := 0, locals := 61 }) (zPc B kr kp D (zTy cI cJ cZ) (zWT cI cJ h (n, L) (kt, km, kl) (pt, pm, pl) (nu, le, ow, fo, run, wc, lc, tr, cl, tm, ms) (yl, yc, yt, co, pa, su, sc) mc ++ ((oa, .inl (cJ, 1, .inr (.inl yo))) :: R)) [.ref (h 0), .ref oa]) (zQi B D (zWT cI cJ h (n, L) (kt, km, kl) (pt, pm, pl) (nu, le, ow, fo, run, wc, lc, tr, cl, tm, ms) (yl, yc, yt, co, pa, su, sc) mc ++ ((oa, .inl (cJ, 1, .inr (.inl (vp_updL yo 0 (((le tr)).toInt64))))) :: R)) 0) 0 0 (zAb B) := by
  refine va_MetW (cc := cL_wanted) (maxL := 3) (ret := (some .int)) (by decide) rfl ?_
  intro p e s m args below meth c s₁ B0 hml hv
  obtain ⟨rfl, hP, hD, hK, hE, hB⟩ := hv
  have hx := B0.exec
  have hb := B0.bytes
  have hr := B0.returns
  have hts := atoms_spec (ws := wsL_wanted) B0.pre
  have hown : s.vm.findClass RL = some m.cls := findClass_of_methodNamed B0.named
  have hlocks := B0.notSynchronized
  have hA : ∀ q : Nat, s.heap.size ≤ q → zAb B q := fun q hq => Nat.le_trans hB hq
  have hS : va_S (zAb B) s.heap s.heap [] := va_S.rf
  have hgr : s.heap.size ≤ s.heap.size := Nat.le_refl _
  have hl := lv_entry ([.ref (h 0), .ref oa]) (n := 3) (Nat.le_of_ble_eq_true rfl)
  rw [lg_entry_eq]
  generalize (lg_sl ([.ref (h 0), .ref oa]) ++ List.replicate (3 - (lg_sl ([.ref (h 0), .ref oa])).length) Slot.unset).toArray = ls at hl ⊢
  have hl : lv_has ls 3 [(0, .ref (h 0)), (1, .ref oa)] := hl
  have htab : c.exceptionTable.toList = tableOf [(0, 8, 11, 15)] := vx_table (x := yL_wanted) B0 (hts _ List.mem_cons_self)
  have hP : va_P D vwCl (zWT cI cJ h (n, L) (kt, km, kl) (pt, pm, pl) (nu, le, ow, fo, run, wc, lc, tr, cl, tm, ms) (yl, yc, yt, co, pa, su, sc) mc ++ ((oa, .inl (cJ, 1, .inr (.inl yo))) :: R)) s.heap := hP
  have hD : va_D (zAb B) (zWT cI cJ h (n, L) (kt, km, kl) (pt, pm, pl) (nu, le, ow, fo, run, wc, lc, tr, cl, tm, ms) (yl, yc, yt, co, pa, su, sc) mc ++ ((oa, .inl (cJ, 1, .inr (.inl yo))) :: R)) := hD
  refine lv_aload_n hx hb dL_wanted_0 rfl (lv_at hl 1 rfl) ?_
  refine lv_iconst (v := 0) hx hb dL_wanted_1 (by decide) ?_
  refine lv_aload_n hx hb dL_wanted_2 rfl (lv_at hl 0 rfl) ?_
  refine zci (zrV (As := []) (rest := [.int 0, .ref oa]) ⟨hx, hb, hml, hown, hts⟩ (zV 0 hP hD hK hE hB hS rfl rfl) (c_X4_wanted  (hrun) (htr)) (cwV 0 hts gL_wanted_X4_wanted rfl rfl rfl hdv_X4_wanted ⟨Nat.le_of_ble_eq_true rfl, Nat.le_of_ble_eq_true rfl⟩) rfl rfl hl.1 rfl (lv_room (Nat.le_of_ble_eq_true rfl)) dL_wanted_3 ⟨Nat.le_of_ble_eq_true rfl, Nat.le_of_ble_eq_true rfl⟩) hS (fun H locs hP hD hS => ?_)
  have hP : va_P D vwCl (zWT cI cJ h (n, L) (kt, km, kl) (pt, pm, pl) (nu, le, ow, fo, run, wc, lc, tr, cl, tm, ms) (yl, yc, yt, co, pa, su, sc) mc ++ ((oa, .inl (cJ, 1, .inr (.inl yo))) :: R)) _ := hP
  have hD : va_D (zAb B) (zWT cI cJ h (n, L) (kt, km, kl) (pt, pm, pl) (nu, le, ow, fo, run, wc, lc, tr, cl, tm, ms) (yl, yc, yt, co, pa, su, sc) mc ++ ((oa, .inl (cJ, 1, .inr (.inl yo))) :: R)) := hD
  refine lv_i2l (v := ((le tr)).toInt64) hx hb dL_wanted_6 rfl ?_
  refine va_last hx hb hK hP hD hS 21 1 rfl rfl (vp_in_nI (n := 0) (N := 1) (by omega) (by omega)) dL_wanted_7 (fun H locs hP hD hS => ?_)
  rw [pk_cl (x := (0 : Int32)) 0 (rfl) (by omega)] at hP hD
  have hP : va_P D vwCl (zWT cI cJ h (n, L) (kt, km, kl) (pt, pm, pl) (nu, le, ow, fo, run, wc, lc, tr, cl, tm, ms) (yl, yc, yt, co, pa, su, sc) mc ++ ((oa, .inl (cJ, 1, .inr (.inl (vp_updL yo 0 (((le tr)).toInt64))))) :: R)) _ := hP
  have hD : va_D (zAb B) (zWT cI cJ h (n, L) (kt, km, kl) (pt, pm, pl) (nu, le, ow, fo, run, wc, lc, tr, cl, tm, ms) (yl, yc, yt, co, pa, su, sc) mc ++ ((oa, .inl (cJ, 1, .inr (.inl (vp_updL yo 0 (((le tr)).toInt64))))) :: R)) := hD
  refine lv_goto (tgt := 14) hx hb dL_wanted_8 (by decide) ?_
  refine lv_iconst (v := 0) hx hb dL_wanted_14 (by decide) ?_
  exact W.iret (v := 0) hx hb hr (fun t ht hW => ⟨⟨_, (), rfl, rfl, by rw [ht]; exact hP, hD⟩, hS.F ht⟩) hS.2.2 dL_wanted_15

set_option maxHeartbeats 1000000 in
set_option maxRecDepth 100000 in
theorem c_L_done {l : Launch} {B kr kp : Nat} {D : va_G} {cI cJ cZ : ClassId} {h : Nat → Nat} {R : va_W} {n : Nat} {L : Nat → Int64} {kt : Nat → Int32} {km : Nat → Int32} {kl : Nat → Int32} {pt : Nat → Int32} {pm : Nat → Int32} {pl : Nat → Int32} {nu : Nat → Int32} {le : Nat → Int32} {ow : Nat → Int32} {fo : Nat → Int32} {run : Bool} {wc : Nat} {lc : Nat} {tr : Nat} {cl : Nat} {tm : Nat} {ms : Nat} {yl : Nat → Int32} {yc : Nat → Int32} {yt : Nat → Int32} {co : Nat} {pa : Int32} {su : Nat} {sc : Nat} {mc : Nat → Int32} {oa : Nat} {yo : Nat → Int64}    (hrun : run = true) : Met l yL_done wsL_done ({ frames := 2, cells := 0, slots := 0, locals := 40 }) (zPc B kr kp D (zTy cI cJ cZ) (zWT cI cJ h (n, L) (kt, km, kl) (pt, pm, pl) (nu, le, ow, fo, run, wc, lc, tr, cl, tm, ms) (yl, yc, yt, co, pa, su, sc) mc ++ ((oa, .inl (cJ, 1, .inr (.inl yo))) :: R)) [.ref (h 0), .ref oa]) (zQi B D (zWT cI cJ h (n, L) (kt, km, kl) (pt, pm, pl) (nu, le, ow, fo, run, wc, lc, tr, cl, tm, ms) (yl, yc, yt, co, pa, su, sc) mc ++ ((oa, .inl (cJ, 1, .inr (.inl (vp_updL yo 0 (((nI tr)).toInt64))))) :: R)) 0) 0 0 (zAb B) := by
  refine va_MetW (cc := cL_done) (maxL := 3) (ret := (some .int)) (by decide) rfl ?_
  intro p e s m args below meth c s₁ B0 hml hv
  obtain ⟨rfl, hP, hD, hK, hE, hB⟩ := hv
  have hx := B0.exec
  have hb := B0.bytes
  have hr := B0.returns
  have hts := atoms_spec (ws := wsL_done) B0.pre
  have hown : s.vm.findClass RL = some m.cls := findClass_of_methodNamed B0.named
  have hlocks := B0.notSynchronized
  have hA : ∀ q : Nat, s.heap.size ≤ q → zAb B q := fun q hq => Nat.le_trans hB hq
  have hS : va_S (zAb B) s.heap s.heap [] := va_S.rf
  have hgr : s.heap.size ≤ s.heap.size := Nat.le_refl _
  have hl := lv_entry ([.ref (h 0), .ref oa]) (n := 3) (Nat.le_of_ble_eq_true rfl)
  rw [lg_entry_eq]
  generalize (lg_sl ([.ref (h 0), .ref oa]) ++ List.replicate (3 - (lg_sl ([.ref (h 0), .ref oa])).length) Slot.unset).toArray = ls at hl ⊢
  have hl : lv_has ls 3 [(0, .ref (h 0)), (1, .ref oa)] := hl
  have htab : c.exceptionTable.toList = tableOf [(0, 8, 11, 15)] := vx_table (x := yL_done) B0 (hts _ List.mem_cons_self)
  have hP : va_P D vwCl (zWT cI cJ h (n, L) (kt, km, kl) (pt, pm, pl) (nu, le, ow, fo, run, wc, lc, tr, cl, tm, ms) (yl, yc, yt, co, pa, su, sc) mc ++ ((oa, .inl (cJ, 1, .inr (.inl yo))) :: R)) s.heap := hP
  have hD : va_D (zAb B) (zWT cI cJ h (n, L) (kt, km, kl) (pt, pm, pl) (nu, le, ow, fo, run, wc, lc, tr, cl, tm, ms) (yl, yc, yt, co, pa, su, sc) mc ++ ((oa, .inl (cJ, 1, .inr (.inl yo))) :: R)) := hD
  refine lv_aload_n hx hb dL_done_0 rfl (lv_at hl 1 rfl) ?_
  refine lv_iconst (v := 0) hx hb dL_done_1 (by decide) ?_
  refine lv_aload_n hx hb dL_done_2 rfl (lv_at hl 0 rfl) ?_
  refine zci (zrV (As := []) (rest := [.int 0, .ref oa]) ⟨hx, hb, hml, hown, hts⟩ (zV 0 hP hD hK hE hB hS rfl rfl) (c_X4_done  (hrun)) (cwV 0 hts gL_done_X4_done rfl rfl rfl hdv_X4_done ⟨Nat.le_of_ble_eq_true rfl, Nat.le_of_ble_eq_true rfl⟩) rfl rfl hl.1 rfl (lv_room (Nat.le_of_ble_eq_true rfl)) dL_done_3 ⟨Nat.le_of_ble_eq_true rfl, Nat.le_of_ble_eq_true rfl⟩) hS (fun H locs hP hD hS => ?_)
  have hP : va_P D vwCl (zWT cI cJ h (n, L) (kt, km, kl) (pt, pm, pl) (nu, le, ow, fo, run, wc, lc, tr, cl, tm, ms) (yl, yc, yt, co, pa, su, sc) mc ++ ((oa, .inl (cJ, 1, .inr (.inl yo))) :: R)) _ := hP
  have hD : va_D (zAb B) (zWT cI cJ h (n, L) (kt, km, kl) (pt, pm, pl) (nu, le, ow, fo, run, wc, lc, tr, cl, tm, ms) (yl, yc, yt, co, pa, su, sc) mc ++ ((oa, .inl (cJ, 1, .inr (.inl yo))) :: R)) := hD
  refine lv_i2l (v := ((nI tr)).toInt64) hx hb dL_done_6 rfl ?_
  refine va_last hx hb hK hP hD hS 21 1 rfl rfl (vp_in_nI (n := 0) (N := 1) (by omega) (by omega)) dL_done_7 (fun H locs hP hD hS => ?_)
  rw [pk_cl (x := (0 : Int32)) 0 (rfl) (by omega)] at hP hD
  have hP : va_P D vwCl (zWT cI cJ h (n, L) (kt, km, kl) (pt, pm, pl) (nu, le, ow, fo, run, wc, lc, tr, cl, tm, ms) (yl, yc, yt, co, pa, su, sc) mc ++ ((oa, .inl (cJ, 1, .inr (.inl (vp_updL yo 0 (((nI tr)).toInt64))))) :: R)) _ := hP
  have hD : va_D (zAb B) (zWT cI cJ h (n, L) (kt, km, kl) (pt, pm, pl) (nu, le, ow, fo, run, wc, lc, tr, cl, tm, ms) (yl, yc, yt, co, pa, su, sc) mc ++ ((oa, .inl (cJ, 1, .inr (.inl (vp_updL yo 0 (((nI tr)).toInt64))))) :: R)) := hD
  refine lv_goto (tgt := 14) hx hb dL_done_8 (by decide) ?_
  refine lv_iconst (v := 0) hx hb dL_done_14 (by decide) ?_
  exact W.iret (v := 0) hx hb hr (fun t ht hW => ⟨⟨_, (), rfl, rfl, by rw [ht]; exact hP, hD⟩, hS.F ht⟩) hS.2.2 dL_done_15

set_option maxHeartbeats 1000000 in
set_option maxRecDepth 100000 in
theorem c_L_lessonWord {l : Launch} {B kr kp : Nat} {D : va_G} {cI cJ cZ : ClassId} {h : Nat → Nat} {R : va_W} {n : Nat} {L : Nat → Int64} {kt : Nat → Int32} {km : Nat → Int32} {kl : Nat → Int32} {pt : Nat → Int32} {pm : Nat → Int32} {pl : Nat → Int32} {nu : Nat → Int32} {le : Nat → Int32} {ow : Nat → Int32} {fo : Nat → Int32} {run : Bool} {wc : Nat} {lc : Nat} {tr : Nat} {cl : Nat} {tm : Nat} {ms : Nat} {yl : Nat → Int32} {yc : Nat → Int32} {yt : Nat → Int32} {co : Nat} {pa : Int32} {su : Nat} {sc : Nat} {mc : Nat → Int32} {oa : Nat} {yo : Nat → Int64} {k : Nat}   (hrun : run = true) (hk : k < wc) (hwc : wc ≤ 6) : Met l yL_lessonWord wsL_lessonWord ({ frames := 3, cells := 0, slots := 0, locals := 63 }) (zPc B kr kp D (zTy cI cJ cZ) (zWT cI cJ h (n, L) (kt, km, kl) (pt, pm, pl) (nu, le, ow, fo, run, wc, lc, tr, cl, tm, ms) (yl, yc, yt, co, pa, su, sc) mc ++ ((oa, .inl (cJ, 1, .inr (.inl yo))) :: R)) [.ref (h 0), .int (nI k), .ref oa]) (zQi B D (zWT cI cJ h (n, L) (kt, km, kl) (pt, pm, pl) (nu, le, ow, fo, run, wc, lc, tr, cl, tm, ms) (yl, yc, yt, co, pa, su, sc) mc ++ ((oa, .inl (cJ, 1, .inr (.inl (vp_updL yo 0 (((nu k)).toInt64))))) :: R)) 0) 0 0 (zAb B) := by
  refine va_MetW (cc := cL_lessonWord) (maxL := 4) (ret := (some .int)) (by decide) rfl ?_
  intro p e s m args below meth c s₁ B0 hml hv
  obtain ⟨rfl, hP, hD, hK, hE, hB⟩ := hv
  have hx := B0.exec
  have hb := B0.bytes
  have hr := B0.returns
  have hts := atoms_spec (ws := wsL_lessonWord) B0.pre
  have hown : s.vm.findClass RL = some m.cls := findClass_of_methodNamed B0.named
  have hlocks := B0.notSynchronized
  have hA : ∀ q : Nat, s.heap.size ≤ q → zAb B q := fun q hq => Nat.le_trans hB hq
  have hS : va_S (zAb B) s.heap s.heap [] := va_S.rf
  have hgr : s.heap.size ≤ s.heap.size := Nat.le_refl _
  have hl := lv_entry ([.ref (h 0), .int (nI k), .ref oa]) (n := 4) (Nat.le_of_ble_eq_true rfl)
  rw [lg_entry_eq]
  generalize (lg_sl ([.ref (h 0), .int (nI k), .ref oa]) ++ List.replicate (4 - (lg_sl ([.ref (h 0), .int (nI k), .ref oa])).length) Slot.unset).toArray = ls at hl ⊢
  have hl : lv_has ls 4 [(0, .ref (h 0)), (1, .int (nI k)), (2, .ref oa)] := hl
  have htab : c.exceptionTable.toList = tableOf [(0, 9, 12, 15), (0, 9, 15, 21)] := vx_table (x := yL_lessonWord) B0 (hts _ List.mem_cons_self)
  have hP : va_P D vwCl (zWT cI cJ h (n, L) (kt, km, kl) (pt, pm, pl) (nu, le, ow, fo, run, wc, lc, tr, cl, tm, ms) (yl, yc, yt, co, pa, su, sc) mc ++ ((oa, .inl (cJ, 1, .inr (.inl yo))) :: R)) s.heap := hP
  have hD : va_D (zAb B) (zWT cI cJ h (n, L) (kt, km, kl) (pt, pm, pl) (nu, le, ow, fo, run, wc, lc, tr, cl, tm, ms) (yl, yc, yt, co, pa, su, sc) mc ++ ((oa, .inl (cJ, 1, .inr (.inl yo))) :: R)) := hD
  refine lv_aload_n hx hb dL_lessonWord_0 rfl (lv_at hl 2 rfl) ?_
  refine lv_iconst (v := 0) hx hb dL_lessonWord_1 (by decide) ?_
  refine lv_aload_n hx hb dL_lessonWord_2 rfl (lv_at hl 0 rfl) ?_
  refine lv_iload_n hx hb dL_lessonWord_3 rfl (lv_at hl 1 rfl) ?_
  refine zci (zrV (As := [.int (nI k)]) (rest := [.int 0, .ref oa]) ⟨hx, hb, hml, hown, hts⟩ (zV 0 hP hD hK hE hB hS rfl rfl) (c_X4_lessonWord (k := k) (hrun) (hk) (hwc)) (cwV 1 hts gL_lessonWord_X4_lessonWord rfl rfl rfl hdv_X4_lessonWord ⟨Nat.le_of_ble_eq_true rfl, Nat.le_of_ble_eq_true rfl⟩) rfl rfl hl.1 rfl (lv_room (Nat.le_of_ble_eq_true rfl)) dL_lessonWord_4 ⟨Nat.le_of_ble_eq_true rfl, Nat.le_of_ble_eq_true rfl⟩) hS (fun H locs hP hD hS => ?_)
  have hP : va_P D vwCl (zWT cI cJ h (n, L) (kt, km, kl) (pt, pm, pl) (nu, le, ow, fo, run, wc, lc, tr, cl, tm, ms) (yl, yc, yt, co, pa, su, sc) mc ++ ((oa, .inl (cJ, 1, .inr (.inl yo))) :: R)) _ := hP
  have hD : va_D (zAb B) (zWT cI cJ h (n, L) (kt, km, kl) (pt, pm, pl) (nu, le, ow, fo, run, wc, lc, tr, cl, tm, ms) (yl, yc, yt, co, pa, su, sc) mc ++ ((oa, .inl (cJ, 1, .inr (.inl yo))) :: R)) := hD
  refine lv_i2l (v := ((nu k)).toInt64) hx hb dL_lessonWord_7 rfl ?_
  refine va_last hx hb hK hP hD hS 21 1 rfl rfl (vp_in_nI (n := 0) (N := 1) (by omega) (by omega)) dL_lessonWord_8 (fun H locs hP hD hS => ?_)
  rw [pk_cl (x := (0 : Int32)) 0 (rfl) (by omega)] at hP hD
  have hP : va_P D vwCl (zWT cI cJ h (n, L) (kt, km, kl) (pt, pm, pl) (nu, le, ow, fo, run, wc, lc, tr, cl, tm, ms) (yl, yc, yt, co, pa, su, sc) mc ++ ((oa, .inl (cJ, 1, .inr (.inl (vp_updL yo 0 (((nu k)).toInt64))))) :: R)) _ := hP
  have hD : va_D (zAb B) (zWT cI cJ h (n, L) (kt, km, kl) (pt, pm, pl) (nu, le, ow, fo, run, wc, lc, tr, cl, tm, ms) (yl, yc, yt, co, pa, su, sc) mc ++ ((oa, .inl (cJ, 1, .inr (.inl (vp_updL yo 0 (((nu k)).toInt64))))) :: R)) := hD
  refine lv_goto (tgt := 18) hx hb dL_lessonWord_9 (by decide) ?_
  refine lv_iconst (v := 0) hx hb dL_lessonWord_18 (by decide) ?_
  exact W.iret (v := 0) hx hb hr (fun t ht hW => ⟨⟨_, (), rfl, rfl, by rw [ht]; exact hP, hD⟩, hS.F ht⟩) hS.2.2 dL_lessonWord_19

set_option maxHeartbeats 1000000 in
set_option maxRecDepth 100000 in
theorem c_L_lessonWord_x1 {l : Launch} {B kr kp : Nat} {D : va_G} {cI cJ cZ : ClassId} {h : Nat → Nat} {R : va_W} {n : Nat} {L : Nat → Int64} {kt : Nat → Int32} {km : Nat → Int32} {kl : Nat → Int32} {pt : Nat → Int32} {pm : Nat → Int32} {pl : Nat → Int32} {nu : Nat → Int32} {le : Nat → Int32} {ow : Nat → Int32} {fo : Nat → Int32} {run : Bool} {wc : Nat} {lc : Nat} {tr : Nat} {cl : Nat} {tm : Nat} {ms : Nat} {yl : Nat → Int32} {yc : Nat → Int32} {yt : Nat → Int32} {co : Nat} {pa : Int32} {su : Nat} {sc : Nat} {mc : Nat → Int32} {oa : Nat} {yo : Nat → Int64} {i : Int32}   (hls : l.stackTraces = false) (hrun : run = false) : Met l yL_lessonWord wsL_lessonWord ({ frames := 7, cells := 1, slots := 6, locals := 103 }) (zPc B kr kp D (zTy cI cJ cZ) (zWT cI cJ h (n, L) (kt, km, kl) (pt, pm, pl) (nu, le, ow, fo, run, wc, lc, tr, cl, tm, ms) (yl, yc, yt, co, pa, su, sc) mc ++ ((oa, .inl (cJ, 1, .inr (.inl yo))) :: R)) [.ref (h 0), .int i, .ref oa]) (zQi B D (zWT cI cJ h (n, L) (kt, km, kl) (pt, pm, pl) (nu, le, ow, fo, run, wc, lc, tr, cl, tm, ms) (yl, yc, yt, co, pa, su, sc) mc ++ ((oa, .inl (cJ, 1, .inr (.inl yo))) :: R)) 1) 1 6 (zAb B) := by
  refine va_MetW (cc := cL_lessonWord) (maxL := 4) (ret := (some .int)) (by decide) rfl ?_
  intro p e s m args below meth c s₁ B0 hml hv
  obtain ⟨rfl, hP, hD, hK, hE, hB⟩ := hv
  have hx := B0.exec
  have hb := B0.bytes
  have hr := B0.returns
  have hts := atoms_spec (ws := wsL_lessonWord) B0.pre
  have hown : s.vm.findClass RL = some m.cls := findClass_of_methodNamed B0.named
  have hlocks := B0.notSynchronized
  have hA : ∀ q : Nat, s.heap.size ≤ q → zAb B q := fun q hq => Nat.le_trans hB hq
  have hS : va_S (zAb B) s.heap s.heap [] := va_S.rf
  have hgr : s.heap.size ≤ s.heap.size := Nat.le_refl _
  have hl := lv_entry ([.ref (h 0), .int i, .ref oa]) (n := 4) (Nat.le_of_ble_eq_true rfl)
  rw [lg_entry_eq]
  generalize (lg_sl ([.ref (h 0), .int i, .ref oa]) ++ List.replicate (4 - (lg_sl ([.ref (h 0), .int i, .ref oa])).length) Slot.unset).toArray = ls at hl ⊢
  have hl : lv_has ls 4 [(0, .ref (h 0)), (1, .int i), (2, .ref oa)] := hl
  have htab : c.exceptionTable.toList = tableOf [(0, 9, 12, 15), (0, 9, 15, 21)] := vx_table (x := yL_lessonWord) B0 (hts _ List.mem_cons_self)
  have hP : va_P D vwCl (zWT cI cJ h (n, L) (kt, km, kl) (pt, pm, pl) (nu, le, ow, fo, run, wc, lc, tr, cl, tm, ms) (yl, yc, yt, co, pa, su, sc) mc ++ ((oa, .inl (cJ, 1, .inr (.inl yo))) :: R)) s.heap := hP
  have hD : va_D (zAb B) (zWT cI cJ h (n, L) (kt, km, kl) (pt, pm, pl) (nu, le, ow, fo, run, wc, lc, tr, cl, tm, ms) (yl, yc, yt, co, pa, su, sc) mc ++ ((oa, .inl (cJ, 1, .inr (.inl yo))) :: R)) := hD
  refine lv_aload_n hx hb dL_lessonWord_0 rfl (lv_at hl 2 rfl) ?_
  refine lv_iconst (v := 0) hx hb dL_lessonWord_1 (by decide) ?_
  refine lv_aload_n hx hb dL_lessonWord_2 rfl (lv_at hl 0 rfl) ?_
  refine lv_iload_n hx hb dL_lessonWord_3 rfl (lv_at hl 1 rfl) ?_
  refine vx_calli (vx_runV (As := [.int i]) (rest := [.int 0, .ref oa]) ⟨hx, hb, hml, hown, hts⟩ (c_X4_lessonWord_x1 hls   hrun) (cwV 1 hts gL_lessonWord_X4_lessonWord rfl rfl rfl hdv_X4_lessonWord ⟨Nat.le_of_ble_eq_true rfl, Nat.le_of_ble_eq_true rfl⟩) (zV 0 hP hD hK hE hB hS rfl rfl) rfl rfl hl.1 rfl (lv_room (Nat.le_of_ble_eq_true rfl)) dL_lessonWord_4 ⟨Nat.le_of_ble_eq_true rfl, Nat.le_of_ble_eq_true rfl⟩) hS (fun _ _ h => h) (fun _ h => h) (fun _ _ h => h) (fun E ce q9 u t H locs ht hal hpx hbx hsz hkp hS hce hcv hcl => ?_) (fun r u t H locs ht hal hpo hbo hsz hkp hS => hpo.elim)
  obtain ⟨rfl, hP, hD⟩ := hbx
  rw [ht] at hP
  refine vx_catch (name := "java/lang/IllegalStateException") hown [] ⟨0, 9, 12, 15⟩ [⟨0, 9, 15, 21⟩] htab (fun _ h9 => absurd h9 List.not_mem_nil) (by decide) (by decide) (hts (.classLink RL 15 "java/lang/IllegalStateException") (List.mem_of_getElem? (i := 1) rfl)) (va_tabs rfl rfl (hE.2.1.1 "java/lang/IllegalStateException" (by decide +kernel))) hce hcv hcl ?_
  have hP : va_P D vwCl (zWT cI cJ h (n, L) (kt, km, kl) (pt, pm, pl) (nu, le, ow, fo, run, wc, lc, tr, cl, tm, ms) (yl, yc, yt, co, pa, su, sc) mc ++ ((oa, .inl (cJ, 1, .inr (.inl yo))) :: R)) _ := hP
  have hD : va_D (zAb B) (zWT cI cJ h (n, L) (kt, km, kl) (pt, pm, pl) (nu, le, ow, fo, run, wc, lc, tr, cl, tm, ms) (yl, yc, yt, co, pa, su, sc) mc ++ ((oa, .inl (cJ, 1, .inr (.inl yo))) :: R)) := hD
  refine lv_astore_n (lv' := [(3, .ref q9), (0, .ref (h 0)), (1, .int i), (2, .ref oa)]) hx hb dL_lessonWord_12 rfl hl (by decide) rfl (fun ls hl => ?_)
  refine lv_iconst (v := 1) hx hb dL_lessonWord_13 (by decide) ?_
  exact W.iret (v := 1) hx hb hr (fun t ht hW => ⟨⟨_, (), rfl, rfl, by rw [ht]; exact hP, hD⟩, hS.F ht⟩) hS.2.2 dL_lessonWord_14

set_option maxHeartbeats 1000000 in
set_option maxRecDepth 100000 in
theorem c_L_lessonWord_x2 {l : Launch} {B kr kp : Nat} {D : va_G} {cI cJ cZ : ClassId} {h : Nat → Nat} {R : va_W} {n : Nat} {L : Nat → Int64} {kt : Nat → Int32} {km : Nat → Int32} {kl : Nat → Int32} {pt : Nat → Int32} {pm : Nat → Int32} {pl : Nat → Int32} {nu : Nat → Int32} {le : Nat → Int32} {ow : Nat → Int32} {fo : Nat → Int32} {run : Bool} {wc : Nat} {lc : Nat} {tr : Nat} {cl : Nat} {tm : Nat} {ms : Nat} {yl : Nat → Int32} {yc : Nat → Int32} {yt : Nat → Int32} {co : Nat} {pa : Int32} {su : Nat} {sc : Nat} {mc : Nat → Int32} {oa : Nat} {yo : Nat → Int64} {i : Int32}   (hls : l.stackTraces = false) (hrun : run = true) (hi : i < 0 ∨ ¬ i < nI wc) : Met l yL_lessonWord wsL_lessonWord ({ frames := 7, cells := 1, slots := 6, locals := 103 }) (zPc B kr kp D (zTy cI cJ cZ) (zWT cI cJ h (n, L) (kt, km, kl) (pt, pm, pl) (nu, le, ow, fo, run, wc, lc, tr, cl, tm, ms) (yl, yc, yt, co, pa, su, sc) mc ++ ((oa, .inl (cJ, 1, .inr (.inl yo))) :: R)) [.ref (h 0), .int i, .ref oa]) (zQi B D (zWT cI cJ h (n, L) (kt, km, kl) (pt, pm, pl) (nu, le, ow, fo, run, wc, lc, tr, cl, tm, ms) (yl, yc, yt, co, pa, su, sc) mc ++ ((oa, .inl (cJ, 1, .inr (.inl yo))) :: R)) 2) 1 6 (zAb B) := by
  refine va_MetW (cc := cL_lessonWord) (maxL := 4) (ret := (some .int)) (by decide) rfl ?_
  intro p e s m args below meth c s₁ B0 hml hv
  obtain ⟨rfl, hP, hD, hK, hE, hB⟩ := hv
  have hx := B0.exec
  have hb := B0.bytes
  have hr := B0.returns
  have hts := atoms_spec (ws := wsL_lessonWord) B0.pre
  have hown : s.vm.findClass RL = some m.cls := findClass_of_methodNamed B0.named
  have hlocks := B0.notSynchronized
  have hA : ∀ q : Nat, s.heap.size ≤ q → zAb B q := fun q hq => Nat.le_trans hB hq
  have hS : va_S (zAb B) s.heap s.heap [] := va_S.rf
  have hgr : s.heap.size ≤ s.heap.size := Nat.le_refl _
  have hl := lv_entry ([.ref (h 0), .int i, .ref oa]) (n := 4) (Nat.le_of_ble_eq_true rfl)
  rw [lg_entry_eq]
  generalize (lg_sl ([.ref (h 0), .int i, .ref oa]) ++ List.replicate (4 - (lg_sl ([.ref (h 0), .int i, .ref oa])).length) Slot.unset).toArray = ls at hl ⊢
  have hl : lv_has ls 4 [(0, .ref (h 0)), (1, .int i), (2, .ref oa)] := hl
  have htab : c.exceptionTable.toList = tableOf [(0, 9, 12, 15), (0, 9, 15, 21)] := vx_table (x := yL_lessonWord) B0 (hts _ List.mem_cons_self)
  have hP : va_P D vwCl (zWT cI cJ h (n, L) (kt, km, kl) (pt, pm, pl) (nu, le, ow, fo, run, wc, lc, tr, cl, tm, ms) (yl, yc, yt, co, pa, su, sc) mc ++ ((oa, .inl (cJ, 1, .inr (.inl yo))) :: R)) s.heap := hP
  have hD : va_D (zAb B) (zWT cI cJ h (n, L) (kt, km, kl) (pt, pm, pl) (nu, le, ow, fo, run, wc, lc, tr, cl, tm, ms) (yl, yc, yt, co, pa, su, sc) mc ++ ((oa, .inl (cJ, 1, .inr (.inl yo))) :: R)) := hD
  refine lv_aload_n hx hb dL_lessonWord_0 rfl (lv_at hl 2 rfl) ?_
  refine lv_iconst (v := 0) hx hb dL_lessonWord_1 (by decide) ?_
  refine lv_aload_n hx hb dL_lessonWord_2 rfl (lv_at hl 0 rfl) ?_
  refine lv_iload_n hx hb dL_lessonWord_3 rfl (lv_at hl 1 rfl) ?_
  refine vx_calli (vx_runV (As := [.int i]) (rest := [.int 0, .ref oa]) ⟨hx, hb, hml, hown, hts⟩ (c_X4_lessonWord_x2 hls   hrun hi) (cwV 1 hts gL_lessonWord_X4_lessonWord rfl rfl rfl hdv_X4_lessonWord ⟨Nat.le_of_ble_eq_true rfl, Nat.le_of_ble_eq_true rfl⟩) (zV 0 hP hD hK hE hB hS rfl rfl) rfl rfl hl.1 rfl (lv_room (Nat.le_of_ble_eq_true rfl)) dL_lessonWord_4 ⟨Nat.le_of_ble_eq_true rfl, Nat.le_of_ble_eq_true rfl⟩) hS (fun _ _ h => h) (fun _ h => h) (fun _ _ h => h) (fun E ce q9 u t H locs ht hal hpx hbx hsz hkp hS hce hcv hcl => ?_) (fun r u t H locs ht hal hpo hbo hsz hkp hS => hpo.elim)
  obtain ⟨rfl, hP, hD⟩ := hbx
  rw [ht] at hP
  refine vx_catch (name := "java/lang/IndexOutOfBoundsException") hown [⟨0, 9, 12, 15⟩] ⟨0, 9, 15, 21⟩ [] htab (List.forall_mem_cons.mpr ⟨Or.inr ⟨by decide, "java/lang/IllegalStateException", (hts (.classLink RL 15 "java/lang/IllegalStateException") (List.mem_of_getElem? (i := 1) rfl)), hE.2.1.2.2 ("java/lang/IndexOutOfBoundsException", "java/lang/IllegalStateException") (by decide +kernel)⟩, (fun _ h9 => absurd h9 List.not_mem_nil)⟩) (by decide) (by decide) (hts (.classLink RL 21 "java/lang/IndexOutOfBoundsException") (List.mem_of_getElem? (i := 2) rfl)) (va_tabs rfl rfl (hE.2.1.1 "java/lang/IndexOutOfBoundsException" (by decide +kernel))) hce hcv hcl ?_
  have hP : va_P D vwCl (zWT cI cJ h (n, L) (kt, km, kl) (pt, pm, pl) (nu, le, ow, fo, run, wc, lc, tr, cl, tm, ms) (yl, yc, yt, co, pa, su, sc) mc ++ ((oa, .inl (cJ, 1, .inr (.inl yo))) :: R)) _ := hP
  have hD : va_D (zAb B) (zWT cI cJ h (n, L) (kt, km, kl) (pt, pm, pl) (nu, le, ow, fo, run, wc, lc, tr, cl, tm, ms) (yl, yc, yt, co, pa, su, sc) mc ++ ((oa, .inl (cJ, 1, .inr (.inl yo))) :: R)) := hD
  refine lv_astore_n (lv' := [(3, .ref q9), (0, .ref (h 0)), (1, .int i), (2, .ref oa)]) hx hb dL_lessonWord_15 rfl hl (by decide) rfl (fun ls hl => ?_)
  refine lv_iconst (v := 2) hx hb dL_lessonWord_16 (by decide) ?_
  exact W.iret (v := 2) hx hb hr (fun t ht hW => ⟨⟨_, (), rfl, rfl, by rw [ht]; exact hP, hD⟩, hS.F ht⟩) hS.2.2 dL_lessonWord_17

set_option maxHeartbeats 1000000 in
set_option maxRecDepth 100000 in
theorem c_L_key_0 {l : Launch} {B kr kp : Nat} {D : va_G} {cI cJ cZ : ClassId} {h : Nat → Nat} {R : va_W} {n : Nat} {L : Nat → Int64} {kt : Nat → Int32} {km : Nat → Int32} {kl : Nat → Int32} {pt : Nat → Int32} {pm : Nat → Int32} {pl : Nat → Int32} {nu : Nat → Int32} {le : Nat → Int32} {ow : Nat → Int32} {fo : Nat → Int32} {run : Bool} {wc : Nat} {lc : Nat} {tr : Nat} {cl : Nat} {tm : Nat} {ms : Nat} {yl : Nat → Int32} {yc : Nat → Int32} {yt : Nat → Int32} {co : Nat} {pa : Int32} {su : Nat} {sc : Nat} {mc : Nat → Int32} {oa : Nat} {yo : Nat → Int64} {k : Nat}   (hk : k < 26) : Met l yL_key wsL_key ({ frames := 3, cells := 0, slots := 0, locals := 65 }) (zPc B kr kp D (zTy cI cJ cZ) (zWT cI cJ h (n, L) (kt, km, kl) (pt, pm, pl) (nu, le, ow, fo, run, wc, lc, tr, cl, tm, ms) (yl, yc, yt, co, pa, su, sc) mc ++ ((oa, .inl (cJ, 1, .inr (.inl yo))) :: R)) [.ref (h 0), .int (nI k), .int 0, .ref oa]) (zQi B D (zWT cI cJ h (n, L) (kt, km, kl) (pt, pm, pl) (nu, le, ow, fo, run, wc, lc, tr, cl, tm, ms) (yl, yc, yt, co, pa, su, sc) mc ++ ((oa, .inl (cJ, 1, .inr (.inl (vp_updL yo 0 (((kt k)).toInt64))))) :: R)) 0) 0 0 (zAb B) := by
  refine va_MetW (cc := cL_key) (maxL := 5) (ret := (some .int)) (by decide) rfl ?_
  intro p e s m args below meth c s₁ B0 hml hv
  obtain ⟨rfl, hP, hD, hK, hE, hB⟩ := hv
  have hx := B0.exec
  have hb := B0.bytes
  have hr := B0.returns
  have hts := atoms_spec (ws := wsL_key) B0.pre
  have hown : s.vm.findClass RL = some m.cls := findClass_of_methodNamed B0.named
  have hlocks := B0.notSynchronized
  have hA : ∀ q : Nat, s.heap.size ≤ q → zAb B q := fun q hq => Nat.le_trans hB hq
  have hS : va_S (zAb B) s.heap s.heap [] := va_S.rf
  have hgr : s.heap.size ≤ s.heap.size := Nat.le_refl _
  have hl := lv_entry ([.ref (h 0), .int (nI k), .int 0, .ref oa]) (n := 5) (Nat.le_of_ble_eq_true rfl)
  rw [lg_entry_eq]
  generalize (lg_sl ([.ref (h 0), .int (nI k), .int 0, .ref oa]) ++ List.replicate (5 - (lg_sl ([.ref (h 0), .int (nI k), .int 0, .ref oa])).length) Slot.unset).toArray = ls at hl ⊢
  have hl : lv_has ls 5 [(0, .ref (h 0)), (1, .int (nI k)), (2, .int 0), (3, .ref oa)] := hl
  have htab : c.exceptionTable.toList = tableOf [(0, 10, 13, 21)] := vx_table (x := yL_key) B0 (hts _ List.mem_cons_self)
  have hP : va_P D vwCl (zWT cI cJ h (n, L) (kt, km, kl) (pt, pm, pl) (nu, le, ow, fo, run, wc, lc, tr, cl, tm, ms) (yl, yc, yt, co, pa, su, sc) mc ++ ((oa, .inl (cJ, 1, .inr (.inl yo))) :: R)) s.heap := hP
  have hD : va_D (zAb B) (zWT cI cJ h (n, L) (kt, km, kl) (pt, pm, pl) (nu, le, ow, fo, run, wc, lc, tr, cl, tm, ms) (yl, yc, yt, co, pa, su, sc) mc ++ ((oa, .inl (cJ, 1, .inr (.inl yo))) :: R)) := hD
  refine lv_aload_n hx hb dL_key_0 rfl (lv_at hl 3 rfl) ?_
  refine lv_iconst (v := 0) hx hb dL_key_1 (by decide) ?_
  refine lv_aload_n hx hb dL_key_2 rfl (lv_at hl 0 rfl) ?_
  refine lv_iload_n hx hb dL_key_3 rfl (lv_at hl 1 rfl) ?_
  refine lv_iload_n hx hb dL_key_4 rfl (lv_at hl 2 rfl) ?_
  refine zci (zrV (As := [.int (nI k), .int 0]) (rest := [.int 0, .ref oa]) ⟨hx, hb, hml, hown, hts⟩ (zV 0 hP hD hK hE hB hS rfl rfl) (c_X4_key_0 (k := k) (hk)) (cwV 2 hts gL_key_X4_key rfl rfl rfl hdv_X4_key ⟨Nat.le_of_ble_eq_true rfl, Nat.le_of_ble_eq_true rfl⟩) rfl rfl hl.1 rfl (lv_room (Nat.le_of_ble_eq_true rfl)) dL_key_5 ⟨Nat.le_of_ble_eq_true rfl, Nat.le_of_ble_eq_true rfl⟩) hS (fun H locs hP hD hS => ?_)
  have hP : va_P D vwCl (zWT cI cJ h (n, L) (kt, km, kl) (pt, pm, pl) (nu, le, ow, fo, run, wc, lc, tr, cl, tm, ms) (yl, yc, yt, co, pa, su, sc) mc ++ ((oa, .inl (cJ, 1, .inr (.inl yo))) :: R)) _ := hP
  have hD : va_D (zAb B) (zWT cI cJ h (n, L) (kt, km, kl) (pt, pm, pl) (nu, le, ow, fo, run, wc, lc, tr, cl, tm, ms) (yl, yc, yt, co, pa, su, sc) mc ++ ((oa, .inl (cJ, 1, .inr (.inl yo))) :: R)) := hD
  refine lv_i2l (v := ((kt k)).toInt64) hx hb dL_key_8 rfl ?_
  refine va_last hx hb hK hP hD hS 21 1 rfl rfl (vp_in_nI (n := 0) (N := 1) (by omega) (by omega)) dL_key_9 (fun H locs hP hD hS => ?_)
  rw [pk_cl (x := (0 : Int32)) 0 (rfl) (by omega)] at hP hD
  have hP : va_P D vwCl (zWT cI cJ h (n, L) (kt, km, kl) (pt, pm, pl) (nu, le, ow, fo, run, wc, lc, tr, cl, tm, ms) (yl, yc, yt, co, pa, su, sc) mc ++ ((oa, .inl (cJ, 1, .inr (.inl (vp_updL yo 0 (((kt k)).toInt64))))) :: R)) _ := hP
  have hD : va_D (zAb B) (zWT cI cJ h (n, L) (kt, km, kl) (pt, pm, pl) (nu, le, ow, fo, run, wc, lc, tr, cl, tm, ms) (yl, yc, yt, co, pa, su, sc) mc ++ ((oa, .inl (cJ, 1, .inr (.inl (vp_updL yo 0 (((kt k)).toInt64))))) :: R)) := hD
  refine lv_goto (tgt := 17) hx hb dL_key_10 (by decide) ?_
  refine lv_iconst (v := 0) hx hb dL_key_17 (by decide) ?_
  exact W.iret (v := 0) hx hb hr (fun t ht hW => ⟨⟨_, (), rfl, rfl, by rw [ht]; exact hP, hD⟩, hS.F ht⟩) hS.2.2 dL_key_18

set_option maxHeartbeats 1000000 in
set_option maxRecDepth 100000 in
theorem c_L_key_1 {l : Launch} {B kr kp : Nat} {D : va_G} {cI cJ cZ : ClassId} {h : Nat → Nat} {R : va_W} {n : Nat} {L : Nat → Int64} {kt : Nat → Int32} {km : Nat → Int32} {kl : Nat → Int32} {pt : Nat → Int32} {pm : Nat → Int32} {pl : Nat → Int32} {nu : Nat → Int32} {le : Nat → Int32} {ow : Nat → Int32} {fo : Nat → Int32} {run : Bool} {wc : Nat} {lc : Nat} {tr : Nat} {cl : Nat} {tm : Nat} {ms : Nat} {yl : Nat → Int32} {yc : Nat → Int32} {yt : Nat → Int32} {co : Nat} {pa : Int32} {su : Nat} {sc : Nat} {mc : Nat → Int32} {oa : Nat} {yo : Nat → Int64} {k : Nat}   (hk : k < 26) : Met l yL_key wsL_key ({ frames := 3, cells := 0, slots := 0, locals := 65 }) (zPc B kr kp D (zTy cI cJ cZ) (zWT cI cJ h (n, L) (kt, km, kl) (pt, pm, pl) (nu, le, ow, fo, run, wc, lc, tr, cl, tm, ms) (yl, yc, yt, co, pa, su, sc) mc ++ ((oa, .inl (cJ, 1, .inr (.inl yo))) :: R)) [.ref (h 0), .int (nI k), .int 1, .ref oa]) (zQi B D (zWT cI cJ h (n, L) (kt, km, kl) (pt, pm, pl) (nu, le, ow, fo, run, wc, lc, tr, cl, tm, ms) (yl, yc, yt, co, pa, su, sc) mc ++ ((oa, .inl (cJ, 1, .inr (.inl (vp_updL yo 0 (((km k)).toInt64))))) :: R)) 0) 0 0 (zAb B) := by
  refine va_MetW (cc := cL_key) (maxL := 5) (ret := (some .int)) (by decide) rfl ?_
  intro p e s m args below meth c s₁ B0 hml hv
  obtain ⟨rfl, hP, hD, hK, hE, hB⟩ := hv
  have hx := B0.exec
  have hb := B0.bytes
  have hr := B0.returns
  have hts := atoms_spec (ws := wsL_key) B0.pre
  have hown : s.vm.findClass RL = some m.cls := findClass_of_methodNamed B0.named
  have hlocks := B0.notSynchronized
  have hA : ∀ q : Nat, s.heap.size ≤ q → zAb B q := fun q hq => Nat.le_trans hB hq
  have hS : va_S (zAb B) s.heap s.heap [] := va_S.rf
  have hgr : s.heap.size ≤ s.heap.size := Nat.le_refl _
  have hl := lv_entry ([.ref (h 0), .int (nI k), .int 1, .ref oa]) (n := 5) (Nat.le_of_ble_eq_true rfl)
  rw [lg_entry_eq]
  generalize (lg_sl ([.ref (h 0), .int (nI k), .int 1, .ref oa]) ++ List.replicate (5 - (lg_sl ([.ref (h 0), .int (nI k), .int 1, .ref oa])).length) Slot.unset).toArray = ls at hl ⊢
  have hl : lv_has ls 5 [(0, .ref (h 0)), (1, .int (nI k)), (2, .int 1), (3, .ref oa)] := hl
  have htab : c.exceptionTable.toList = tableOf [(0, 10, 13, 21)] := vx_table (x := yL_key) B0 (hts _ List.mem_cons_self)
  have hP : va_P D vwCl (zWT cI cJ h (n, L) (kt, km, kl) (pt, pm, pl) (nu, le, ow, fo, run, wc, lc, tr, cl, tm, ms) (yl, yc, yt, co, pa, su, sc) mc ++ ((oa, .inl (cJ, 1, .inr (.inl yo))) :: R)) s.heap := hP
  have hD : va_D (zAb B) (zWT cI cJ h (n, L) (kt, km, kl) (pt, pm, pl) (nu, le, ow, fo, run, wc, lc, tr, cl, tm, ms) (yl, yc, yt, co, pa, su, sc) mc ++ ((oa, .inl (cJ, 1, .inr (.inl yo))) :: R)) := hD
  refine lv_aload_n hx hb dL_key_0 rfl (lv_at hl 3 rfl) ?_
  refine lv_iconst (v := 0) hx hb dL_key_1 (by decide) ?_
  refine lv_aload_n hx hb dL_key_2 rfl (lv_at hl 0 rfl) ?_
  refine lv_iload_n hx hb dL_key_3 rfl (lv_at hl 1 rfl) ?_
  refine lv_iload_n hx hb dL_key_4 rfl (lv_at hl 2 rfl) ?_
  refine zci (zrV (As := [.int (nI k), .int 1]) (rest := [.int 0, .ref oa]) ⟨hx, hb, hml, hown, hts⟩ (zV 0 hP hD hK hE hB hS rfl rfl) (c_X4_key_1 (k := k) (hk)) (cwV 2 hts gL_key_X4_key rfl rfl rfl hdv_X4_key ⟨Nat.le_of_ble_eq_true rfl, Nat.le_of_ble_eq_true rfl⟩) rfl rfl hl.1 rfl (lv_room (Nat.le_of_ble_eq_true rfl)) dL_key_5 ⟨Nat.le_of_ble_eq_true rfl, Nat.le_of_ble_eq_true rfl⟩) hS (fun H locs hP hD hS => ?_)
  have hP : va_P D vwCl (zWT cI cJ h (n, L) (kt, km, kl) (pt, pm, pl) (nu, le, ow, fo, run, wc, lc, tr, cl, tm, ms) (yl, yc, yt, co, pa, su, sc) mc ++ ((oa, .inl (cJ, 1, .inr (.inl yo))) :: R)) _ := hP
  have hD : va_D (zAb B) (zWT cI cJ h (n, L) (kt, km, kl) (pt, pm, pl) (nu, le, ow, fo, run, wc, lc, tr, cl, tm, ms) (yl, yc, yt, co, pa, su, sc) mc ++ ((oa, .inl (cJ, 1, .inr (.inl yo))) :: R)) := hD
  refine lv_i2l (v := ((km k)).toInt64) hx hb dL_key_8 rfl ?_
  refine va_last hx hb hK hP hD hS 21 1 rfl rfl (vp_in_nI (n := 0) (N := 1) (by omega) (by omega)) dL_key_9 (fun H locs hP hD hS => ?_)
  rw [pk_cl (x := (0 : Int32)) 0 (rfl) (by omega)] at hP hD
  have hP : va_P D vwCl (zWT cI cJ h (n, L) (kt, km, kl) (pt, pm, pl) (nu, le, ow, fo, run, wc, lc, tr, cl, tm, ms) (yl, yc, yt, co, pa, su, sc) mc ++ ((oa, .inl (cJ, 1, .inr (.inl (vp_updL yo 0 (((km k)).toInt64))))) :: R)) _ := hP
  have hD : va_D (zAb B) (zWT cI cJ h (n, L) (kt, km, kl) (pt, pm, pl) (nu, le, ow, fo, run, wc, lc, tr, cl, tm, ms) (yl, yc, yt, co, pa, su, sc) mc ++ ((oa, .inl (cJ, 1, .inr (.inl (vp_updL yo 0 (((km k)).toInt64))))) :: R)) := hD
  refine lv_goto (tgt := 17) hx hb dL_key_10 (by decide) ?_
  refine lv_iconst (v := 0) hx hb dL_key_17 (by decide) ?_
  exact W.iret (v := 0) hx hb hr (fun t ht hW => ⟨⟨_, (), rfl, rfl, by rw [ht]; exact hP, hD⟩, hS.F ht⟩) hS.2.2 dL_key_18

set_option maxHeartbeats 1000000 in
set_option maxRecDepth 100000 in
theorem c_L_key_2 {l : Launch} {B kr kp : Nat} {D : va_G} {cI cJ cZ : ClassId} {h : Nat → Nat} {R : va_W} {n : Nat} {L : Nat → Int64} {kt : Nat → Int32} {km : Nat → Int32} {kl : Nat → Int32} {pt : Nat → Int32} {pm : Nat → Int32} {pl : Nat → Int32} {nu : Nat → Int32} {le : Nat → Int32} {ow : Nat → Int32} {fo : Nat → Int32} {run : Bool} {wc : Nat} {lc : Nat} {tr : Nat} {cl : Nat} {tm : Nat} {ms : Nat} {yl : Nat → Int32} {yc : Nat → Int32} {yt : Nat → Int32} {co : Nat} {pa : Int32} {su : Nat} {sc : Nat} {mc : Nat → Int32} {oa : Nat} {yo : Nat → Int64} {k : Nat}   (hk : k < 26) : Met l yL_key wsL_key ({ frames := 3, cells := 0, slots := 0, locals := 65 }) (zPc B kr kp D (zTy cI cJ cZ) (zWT cI cJ h (n, L) (kt, km, kl) (pt, pm, pl) (nu, le, ow, fo, run, wc, lc, tr, cl, tm, ms) (yl, yc, yt, co, pa, su, sc) mc ++ ((oa, .inl (cJ, 1, .inr (.inl yo))) :: R)) [.ref (h 0), .int (nI k), .int 2, .ref oa]) (zQi B D (zWT cI cJ h (n, L) (kt, km, kl) (pt, pm, pl) (nu, le, ow, fo, run, wc, lc, tr, cl, tm, ms) (yl, yc, yt, co, pa, su, sc) mc ++ ((oa, .inl (cJ, 1, .inr (.inl (vp_updL yo 0 (((kl k)).toInt64))))) :: R)) 0) 0 0 (zAb B) := by
  refine va_MetW (cc := cL_key) (maxL := 5) (ret := (some .int)) (by decide) rfl ?_
  intro p e s m args below meth c s₁ B0 hml hv
  obtain ⟨rfl, hP, hD, hK, hE, hB⟩ := hv
  have hx := B0.exec
  have hb := B0.bytes
  have hr := B0.returns
  have hts := atoms_spec (ws := wsL_key) B0.pre
  have hown : s.vm.findClass RL = some m.cls := findClass_of_methodNamed B0.named
  have hlocks := B0.notSynchronized
  have hA : ∀ q : Nat, s.heap.size ≤ q → zAb B q := fun q hq => Nat.le_trans hB hq
  have hS : va_S (zAb B) s.heap s.heap [] := va_S.rf
  have hgr : s.heap.size ≤ s.heap.size := Nat.le_refl _
  have hl := lv_entry ([.ref (h 0), .int (nI k), .int 2, .ref oa]) (n := 5) (Nat.le_of_ble_eq_true rfl)
  rw [lg_entry_eq]
  generalize (lg_sl ([.ref (h 0), .int (nI k), .int 2, .ref oa]) ++ List.replicate (5 - (lg_sl ([.ref (h 0), .int (nI k), .int 2, .ref oa])).length) Slot.unset).toArray = ls at hl ⊢
  have hl : lv_has ls 5 [(0, .ref (h 0)), (1, .int (nI k)), (2, .int 2), (3, .ref oa)] := hl
  have htab : c.exceptionTable.toList = tableOf [(0, 10, 13, 21)] := vx_table (x := yL_key) B0 (hts _ List.mem_cons_self)
  have hP : va_P D vwCl (zWT cI cJ h (n, L) (kt, km, kl) (pt, pm, pl) (nu, le, ow, fo, run, wc, lc, tr, cl, tm, ms) (yl, yc, yt, co, pa, su, sc) mc ++ ((oa, .inl (cJ, 1, .inr (.inl yo))) :: R)) s.heap := hP
  have hD : va_D (zAb B) (zWT cI cJ h (n, L) (kt, km, kl) (pt, pm, pl) (nu, le, ow, fo, run, wc, lc, tr, cl, tm, ms) (yl, yc, yt, co, pa, su, sc) mc ++ ((oa, .inl (cJ, 1, .inr (.inl yo))) :: R)) := hD
  refine lv_aload_n hx hb dL_key_0 rfl (lv_at hl 3 rfl) ?_
  refine lv_iconst (v := 0) hx hb dL_key_1 (by decide) ?_
  refine lv_aload_n hx hb dL_key_2 rfl (lv_at hl 0 rfl) ?_
  refine lv_iload_n hx hb dL_key_3 rfl (lv_at hl 1 rfl) ?_
  refine lv_iload_n hx hb dL_key_4 rfl (lv_at hl 2 rfl) ?_
  refine zci (zrV (As := [.int (nI k), .int 2]) (rest := [.int 0, .ref oa]) ⟨hx, hb, hml, hown, hts⟩ (zV 0 hP hD hK hE hB hS rfl rfl) (c_X4_key_2 (k := k) (hk)) (cwV 2 hts gL_key_X4_key rfl rfl rfl hdv_X4_key ⟨Nat.le_of_ble_eq_true rfl, Nat.le_of_ble_eq_true rfl⟩) rfl rfl hl.1 rfl (lv_room (Nat.le_of_ble_eq_true rfl)) dL_key_5 ⟨Nat.le_of_ble_eq_true rfl, Nat.le_of_ble_eq_true rfl⟩) hS (fun H locs hP hD hS => ?_)
  have hP : va_P D vwCl (zWT cI cJ h (n, L) (kt, km, kl) (pt, pm, pl) (nu, le, ow, fo, run, wc, lc, tr, cl, tm, ms) (yl, yc, yt, co, pa, su, sc) mc ++ ((oa, .inl (cJ, 1, .inr (.inl yo))) :: R)) _ := hP
  have hD : va_D (zAb B) (zWT cI cJ h (n, L) (kt, km, kl) (pt, pm, pl) (nu, le, ow, fo, run, wc, lc, tr, cl, tm, ms) (yl, yc, yt, co, pa, su, sc) mc ++ ((oa, .inl (cJ, 1, .inr (.inl yo))) :: R)) := hD
  refine lv_i2l (v := ((kl k)).toInt64) hx hb dL_key_8 rfl ?_
  refine va_last hx hb hK hP hD hS 21 1 rfl rfl (vp_in_nI (n := 0) (N := 1) (by omega) (by omega)) dL_key_9 (fun H locs hP hD hS => ?_)
  rw [pk_cl (x := (0 : Int32)) 0 (rfl) (by omega)] at hP hD
  have hP : va_P D vwCl (zWT cI cJ h (n, L) (kt, km, kl) (pt, pm, pl) (nu, le, ow, fo, run, wc, lc, tr, cl, tm, ms) (yl, yc, yt, co, pa, su, sc) mc ++ ((oa, .inl (cJ, 1, .inr (.inl (vp_updL yo 0 (((kl k)).toInt64))))) :: R)) _ := hP
  have hD : va_D (zAb B) (zWT cI cJ h (n, L) (kt, km, kl) (pt, pm, pl) (nu, le, ow, fo, run, wc, lc, tr, cl, tm, ms) (yl, yc, yt, co, pa, su, sc) mc ++ ((oa, .inl (cJ, 1, .inr (.inl (vp_updL yo 0 (((kl k)).toInt64))))) :: R)) := hD
  refine lv_goto (tgt := 17) hx hb dL_key_10 (by decide) ?_
  refine lv_iconst (v := 0) hx hb dL_key_17 (by decide) ?_
  exact W.iret (v := 0) hx hb hr (fun t ht hW => ⟨⟨_, (), rfl, rfl, by rw [ht]; exact hP, hD⟩, hS.F ht⟩) hS.2.2 dL_key_18

set_option maxHeartbeats 1000000 in
set_option maxRecDepth 100000 in
theorem c_L_key_x {l : Launch} {B kr kp : Nat} {D : va_G} {cI cJ cZ : ClassId} {h : Nat → Nat} {R : va_W} {n : Nat} {L : Nat → Int64} {kt : Nat → Int32} {km : Nat → Int32} {kl : Nat → Int32} {pt : Nat → Int32} {pm : Nat → Int32} {pl : Nat → Int32} {nu : Nat → Int32} {le : Nat → Int32} {ow : Nat → Int32} {fo : Nat → Int32} {run : Bool} {wc : Nat} {lc : Nat} {tr : Nat} {cl : Nat} {tm : Nat} {ms : Nat} {yl : Nat → Int32} {yc : Nat → Int32} {yt : Nat → Int32} {co : Nat} {pa : Int32} {su : Nat} {sc : Nat} {mc : Nat → Int32} {oa : Nat} {yo : Nat → Int64} {a : Int32} {i : Int32}   (hls : l.stackTraces = false) (h1 : ¬ ((¬ a < 0 ∧ ¬ 26 ≤ a) ∧ ¬ i < 0 ∧ i ≤ 2)) : Met l yL_key wsL_key ({ frames := 7, cells := 1, slots := 6, locals := 104 }) (zPc B kr kp D (zTy cI cJ cZ) (zWT cI cJ h (n, L) (kt, km, kl) (pt, pm, pl) (nu, le, ow, fo, run, wc, lc, tr, cl, tm, ms) (yl, yc, yt, co, pa, su, sc) mc ++ ((oa, .inl (cJ, 1, .inr (.inl yo))) :: R)) [.ref (h 0), .int a, .int i, .ref oa]) (zQi B D (zWT cI cJ h (n, L) (kt, km, kl) (pt, pm, pl) (nu, le, ow, fo, run, wc, lc, tr, cl, tm, ms) (yl, yc, yt, co, pa, su, sc) mc ++ ((oa, .inl (cJ, 1, .inr (.inl yo))) :: R)) 1) 1 6 (zAb B) := by
  refine va_MetW (cc := cL_key) (maxL := 5) (ret := (some .int)) (by decide) rfl ?_
  intro p e s m args below meth c s₁ B0 hml hv
  obtain ⟨rfl, hP, hD, hK, hE, hB⟩ := hv
  have hx := B0.exec
  have hb := B0.bytes
  have hr := B0.returns
  have hts := atoms_spec (ws := wsL_key) B0.pre
  have hown : s.vm.findClass RL = some m.cls := findClass_of_methodNamed B0.named
  have hlocks := B0.notSynchronized
  have hA : ∀ q : Nat, s.heap.size ≤ q → zAb B q := fun q hq => Nat.le_trans hB hq
  have hS : va_S (zAb B) s.heap s.heap [] := va_S.rf
  have hgr : s.heap.size ≤ s.heap.size := Nat.le_refl _
  have hl := lv_entry ([.ref (h 0), .int a, .int i, .ref oa]) (n := 5) (Nat.le_of_ble_eq_true rfl)
  rw [lg_entry_eq]
  generalize (lg_sl ([.ref (h 0), .int a, .int i, .ref oa]) ++ List.replicate (5 - (lg_sl ([.ref (h 0), .int a, .int i, .ref oa])).length) Slot.unset).toArray = ls at hl ⊢
  have hl : lv_has ls 5 [(0, .ref (h 0)), (1, .int a), (2, .int i), (3, .ref oa)] := hl
  have htab : c.exceptionTable.toList = tableOf [(0, 10, 13, 21)] := vx_table (x := yL_key) B0 (hts _ List.mem_cons_self)
  have hP : va_P D vwCl (zWT cI cJ h (n, L) (kt, km, kl) (pt, pm, pl) (nu, le, ow, fo, run, wc, lc, tr, cl, tm, ms) (yl, yc, yt, co, pa, su, sc) mc ++ ((oa, .inl (cJ, 1, .inr (.inl yo))) :: R)) s.heap := hP
  have hD : va_D (zAb B) (zWT cI cJ h (n, L) (kt, km, kl) (pt, pm, pl) (nu, le, ow, fo, run, wc, lc, tr, cl, tm, ms) (yl, yc, yt, co, pa, su, sc) mc ++ ((oa, .inl (cJ, 1, .inr (.inl yo))) :: R)) := hD
  refine lv_aload_n hx hb dL_key_0 rfl (lv_at hl 3 rfl) ?_
  refine lv_iconst (v := 0) hx hb dL_key_1 (by decide) ?_
  refine lv_aload_n hx hb dL_key_2 rfl (lv_at hl 0 rfl) ?_
  refine lv_iload_n hx hb dL_key_3 rfl (lv_at hl 1 rfl) ?_
  refine lv_iload_n hx hb dL_key_4 rfl (lv_at hl 2 rfl) ?_
  refine vx_calli (vx_runV (As := [.int a, .int i]) (rest := [.int 0, .ref oa]) ⟨hx, hb, hml, hown, hts⟩ (c_X4_key_x hls   h1) (cwV 2 hts gL_key_X4_key rfl rfl rfl hdv_X4_key ⟨Nat.le_of_ble_eq_true rfl, Nat.le_of_ble_eq_true rfl⟩) (zV 0 hP hD hK hE hB hS rfl rfl) rfl rfl hl.1 rfl (lv_room (Nat.le_of_ble_eq_true rfl)) dL_key_5 ⟨Nat.le_of_ble_eq_true rfl, Nat.le_of_ble_eq_true rfl⟩) hS (fun _ _ h => h) (fun _ h => h) (fun _ _ h => h) (fun E ce q9 u t H locs ht hal hpx hbx hsz hkp hS hce hcv hcl => ?_) (fun r u t H locs ht hal hpo hbo hsz hkp hS => hpo.elim)
  obtain ⟨rfl, hP, hD⟩ := hbx
  rw [ht] at hP
  refine vx_catch (name := "java/lang/IndexOutOfBoundsException") hown [] ⟨0, 10, 13, 21⟩ [] htab (fun _ h9 => absurd h9 List.not_mem_nil) (by decide) (by decide) (hts (.classLink RL 21 "java/lang/IndexOutOfBoundsException") (List.mem_of_getElem? (i := 1) rfl)) (va_tabs rfl rfl (hE.2.1.1 "java/lang/IndexOutOfBoundsException" (by decide +kernel))) hce hcv hcl ?_
  have hP : va_P D vwCl (zWT cI cJ h (n, L) (kt, km, kl) (pt, pm, pl) (nu, le, ow, fo, run, wc, lc, tr, cl, tm, ms) (yl, yc, yt, co, pa, su, sc) mc ++ ((oa, .inl (cJ, 1, .inr (.inl yo))) :: R)) _ := hP
  have hD : va_D (zAb B) (zWT cI cJ h (n, L) (kt, km, kl) (pt, pm, pl) (nu, le, ow, fo, run, wc, lc, tr, cl, tm, ms) (yl, yc, yt, co, pa, su, sc) mc ++ ((oa, .inl (cJ, 1, .inr (.inl yo))) :: R)) := hD
  refine lv_astore (lv' := [(4, .ref q9), (0, .ref (h 0)), (1, .int a), (2, .int i), (3, .ref oa)]) hx hb dL_key_13 hl (by decide) rfl (fun ls hl => ?_)
  refine lv_iconst (v := 1) hx hb dL_key_15 (by decide) ?_
  exact W.iret (v := 1) hx hb hr (fun t ht hW => ⟨⟨_, (), rfl, rfl, by rw [ht]; exact hP, hD⟩, hS.F ht⟩) hS.2.2 dL_key_16

set_option maxHeartbeats 1000000 in
set_option maxRecDepth 100000 in
theorem c_L_pair_0 {l : Launch} {B kr kp : Nat} {D : va_G} {cI cJ cZ : ClassId} {h : Nat → Nat} {R : va_W} {n : Nat} {L : Nat → Int64} {kt : Nat → Int32} {km : Nat → Int32} {kl : Nat → Int32} {pt : Nat → Int32} {pm : Nat → Int32} {pl : Nat → Int32} {nu : Nat → Int32} {le : Nat → Int32} {ow : Nat → Int32} {fo : Nat → Int32} {run : Bool} {wc : Nat} {lc : Nat} {tr : Nat} {cl : Nat} {tm : Nat} {ms : Nat} {yl : Nat → Int32} {yc : Nat → Int32} {yt : Nat → Int32} {co : Nat} {pa : Int32} {su : Nat} {sc : Nat} {mc : Nat → Int32} {oa : Nat} {yo : Nat → Int64} {a : Nat} {b : Nat}   (h1 : a < 26) (h2 : b < 26) : Met l yL_pair wsL_pair ({ frames := 3, cells := 0, slots := 0, locals := 67 }) (zPc B kr kp D (zTy cI cJ cZ) (zWT cI cJ h (n, L) (kt, km, kl) (pt, pm, pl) (nu, le, ow, fo, run, wc, lc, tr, cl, tm, ms) (yl, yc, yt, co, pa, su, sc) mc ++ ((oa, .inl (cJ, 1, .inr (.inl yo))) :: R)) [.ref (h 0), .int (nI a), .int (nI b), .int 0, .ref oa]) (zQi B D (zWT cI cJ h (n, L) (kt, km, kl) (pt, pm, pl) (nu, le, ow, fo, run, wc, lc, tr, cl, tm, ms) (yl, yc, yt, co, pa, su, sc) mc ++ ((oa, .inl (cJ, 1, .inr (.inl (vp_updL yo 0 (((pt (26 * a + b))).toInt64))))) :: R)) 0) 0 0 (zAb B) := by
  refine va_MetW (cc := cL_pair) (maxL := 6) (ret := (some .int)) (by decide) rfl ?_
  intro p e s m args below meth c s₁ B0 hml hv
  obtain ⟨rfl, hP, hD, hK, hE, hB⟩ := hv
  have hx := B0.exec
  have hb := B0.bytes
  have hr := B0.returns
  have hts := atoms_spec (ws := wsL_pair) B0.pre
  have hown : s.vm.findClass RL = some m.cls := findClass_of_methodNamed B0.named
  have hlocks := B0.notSynchronized
  have hA : ∀ q : Nat, s.heap.size ≤ q → zAb B q := fun q hq => Nat.le_trans hB hq
  have hS : va_S (zAb B) s.heap s.heap [] := va_S.rf
  have hgr : s.heap.size ≤ s.heap.size := Nat.le_refl _
  have hl := lv_entry ([.ref (h 0), .int (nI a), .int (nI b), .int 0, .ref oa]) (n := 6) (Nat.le_of_ble_eq_true rfl)
  rw [lg_entry_eq]
  generalize (lg_sl ([.ref (h 0), .int (nI a), .int (nI b), .int 0, .ref oa]) ++ List.replicate (6 - (lg_sl ([.ref (h 0), .int (nI a), .int (nI b), .int 0, .ref oa])).length) Slot.unset).toArray = ls at hl ⊢
  have hl : lv_has ls 6 [(0, .ref (h 0)), (1, .int (nI a)), (2, .int (nI b)), (3, .int 0), (4, .ref oa)] := hl
  have htab : c.exceptionTable.toList = tableOf [(0, 12, 15, 21)] := vx_table (x := yL_pair) B0 (hts _ List.mem_cons_self)
  have hP : va_P D vwCl (zWT cI cJ h (n, L) (kt, km, kl) (pt, pm, pl) (nu, le, ow, fo, run, wc, lc, tr, cl, tm, ms) (yl, yc, yt, co, pa, su, sc) mc ++ ((oa, .inl (cJ, 1, .inr (.inl yo))) :: R)) s.heap := hP
  have hD : va_D (zAb B) (zWT cI cJ h (n, L) (kt, km, kl) (pt, pm, pl) (nu, le, ow, fo, run, wc, lc, tr, cl, tm, ms) (yl, yc, yt, co, pa, su, sc) mc ++ ((oa, .inl (cJ, 1, .inr (.inl yo))) :: R)) := hD
  refine lv_aload hx hb dL_pair_0 (lv_at hl 4 rfl) ?_
  refine lv_iconst (v := 0) hx hb dL_pair_2 (by decide) ?_
  refine lv_aload_n hx hb dL_pair_3 rfl (lv_at hl 0 rfl) ?_
  refine lv_iload_n hx hb dL_pair_4 rfl (lv_at hl 1 rfl) ?_
  refine lv_iload_n hx hb dL_pair_5 rfl (lv_at hl 2 rfl) ?_
  refine lv_iload_n hx hb dL_pair_6 rfl (lv_at hl 3 rfl) ?_
  refine zci (zrV (As := [.int (nI a), .int (nI b), .int 0]) (rest := [.int 0, .ref oa]) ⟨hx, hb, hml, hown, hts⟩ (zV 0 hP hD hK hE hB hS rfl rfl) (c_X4_pair_0 (a := a) (b := b) (h1) (h2)) (cwV 3 hts gL_pair_X4_pair rfl rfl rfl hdv_X4_pair ⟨Nat.le_of_ble_eq_true rfl, Nat.le_of_ble_eq_true rfl⟩) rfl rfl hl.1 rfl (lv_room (Nat.le_of_ble_eq_true rfl)) dL_pair_7 ⟨Nat.le_of_ble_eq_true rfl, Nat.le_of_ble_eq_true rfl⟩) hS (fun H locs hP hD hS => ?_)
  have hP : va_P D vwCl (zWT cI cJ h (n, L) (kt, km, kl) (pt, pm, pl) (nu, le, ow, fo, run, wc, lc, tr, cl, tm, ms) (yl, yc, yt, co, pa, su, sc) mc ++ ((oa, .inl (cJ, 1, .inr (.inl yo))) :: R)) _ := hP
  have hD : va_D (zAb B) (zWT cI cJ h (n, L) (kt, km, kl) (pt, pm, pl) (nu, le, ow, fo, run, wc, lc, tr, cl, tm, ms) (yl, yc, yt, co, pa, su, sc) mc ++ ((oa, .inl (cJ, 1, .inr (.inl yo))) :: R)) := hD
  refine lv_i2l (v := ((pt (26 * a + b))).toInt64) hx hb dL_pair_10 rfl ?_
  refine va_last hx hb hK hP hD hS 21 1 rfl rfl (vp_in_nI (n := 0) (N := 1) (by omega) (by omega)) dL_pair_11 (fun H locs hP hD hS => ?_)
  rw [pk_cl (x := (0 : Int32)) 0 (rfl) (by omega)] at hP hD
  have hP : va_P D vwCl (zWT cI cJ h (n, L) (kt, km, kl) (pt, pm, pl) (nu, le, ow, fo, run, wc, lc, tr, cl, tm, ms) (yl, yc, yt, co, pa, su, sc) mc ++ ((oa, .inl (cJ, 1, .inr (.inl (vp_updL yo 0 (((pt (26 * a + b))).toInt64))))) :: R)) _ := hP
  have hD : va_D (zAb B) (zWT cI cJ h (n, L) (kt, km, kl) (pt, pm, pl) (nu, le, ow, fo, run, wc, lc, tr, cl, tm, ms) (yl, yc, yt, co, pa, su, sc) mc ++ ((oa, .inl (cJ, 1, .inr (.inl (vp_updL yo 0 (((pt (26 * a + b))).toInt64))))) :: R)) := hD
  refine lv_goto (tgt := 19) hx hb dL_pair_12 (by decide) ?_
  refine lv_iconst (v := 0) hx hb dL_pair_19 (by decide) ?_
  exact W.iret (v := 0) hx hb hr (fun t ht hW => ⟨⟨_, (), rfl, rfl, by rw [ht]; exact hP, hD⟩, hS.F ht⟩) hS.2.2 dL_pair_20

set_option maxHeartbeats 1000000 in
set_option maxRecDepth 100000 in
theorem c_L_pair_1 {l : Launch} {B kr kp : Nat} {D : va_G} {cI cJ cZ : ClassId} {h : Nat → Nat} {R : va_W} {n : Nat} {L : Nat → Int64} {kt : Nat → Int32} {km : Nat → Int32} {kl : Nat → Int32} {pt : Nat → Int32} {pm : Nat → Int32} {pl : Nat → Int32} {nu : Nat → Int32} {le : Nat → Int32} {ow : Nat → Int32} {fo : Nat → Int32} {run : Bool} {wc : Nat} {lc : Nat} {tr : Nat} {cl : Nat} {tm : Nat} {ms : Nat} {yl : Nat → Int32} {yc : Nat → Int32} {yt : Nat → Int32} {co : Nat} {pa : Int32} {su : Nat} {sc : Nat} {mc : Nat → Int32} {oa : Nat} {yo : Nat → Int64} {a : Nat} {b : Nat}   (h1 : a < 26) (h2 : b < 26) : Met l yL_pair wsL_pair ({ frames := 3, cells := 0, slots := 0, locals := 67 }) (zPc B kr kp D (zTy cI cJ cZ) (zWT cI cJ h (n, L) (kt, km, kl) (pt, pm, pl) (nu, le, ow, fo, run, wc, lc, tr, cl, tm, ms) (yl, yc, yt, co, pa, su, sc) mc ++ ((oa, .inl (cJ, 1, .inr (.inl yo))) :: R)) [.ref (h 0), .int (nI a), .int (nI b), .int 1, .ref oa]) (zQi B D (zWT cI cJ h (n, L) (kt, km, kl) (pt, pm, pl) (nu, le, ow, fo, run, wc, lc, tr, cl, tm, ms) (yl, yc, yt, co, pa, su, sc) mc ++ ((oa, .inl (cJ, 1, .inr (.inl (vp_updL yo 0 (((pm (26 * a + b))).toInt64))))) :: R)) 0) 0 0 (zAb B) := by
  refine va_MetW (cc := cL_pair) (maxL := 6) (ret := (some .int)) (by decide) rfl ?_
  intro p e s m args below meth c s₁ B0 hml hv
  obtain ⟨rfl, hP, hD, hK, hE, hB⟩ := hv
  have hx := B0.exec
  have hb := B0.bytes
  have hr := B0.returns
  have hts := atoms_spec (ws := wsL_pair) B0.pre
  have hown : s.vm.findClass RL = some m.cls := findClass_of_methodNamed B0.named
  have hlocks := B0.notSynchronized
  have hA : ∀ q : Nat, s.heap.size ≤ q → zAb B q := fun q hq => Nat.le_trans hB hq
  have hS : va_S (zAb B) s.heap s.heap [] := va_S.rf
  have hgr : s.heap.size ≤ s.heap.size := Nat.le_refl _
  have hl := lv_entry ([.ref (h 0), .int (nI a), .int (nI b), .int 1, .ref oa]) (n := 6) (Nat.le_of_ble_eq_true rfl)
  rw [lg_entry_eq]
  generalize (lg_sl ([.ref (h 0), .int (nI a), .int (nI b), .int 1, .ref oa]) ++ List.replicate (6 - (lg_sl ([.ref (h 0), .int (nI a), .int (nI b), .int 1, .ref oa])).length) Slot.unset).toArray = ls at hl ⊢
  have hl : lv_has ls 6 [(0, .ref (h 0)), (1, .int (nI a)), (2, .int (nI b)), (3, .int 1), (4, .ref oa)] := hl
  have htab : c.exceptionTable.toList = tableOf [(0, 12, 15, 21)] := vx_table (x := yL_pair) B0 (hts _ List.mem_cons_self)
  have hP : va_P D vwCl (zWT cI cJ h (n, L) (kt, km, kl) (pt, pm, pl) (nu, le, ow, fo, run, wc, lc, tr, cl, tm, ms) (yl, yc, yt, co, pa, su, sc) mc ++ ((oa, .inl (cJ, 1, .inr (.inl yo))) :: R)) s.heap := hP
  have hD : va_D (zAb B) (zWT cI cJ h (n, L) (kt, km, kl) (pt, pm, pl) (nu, le, ow, fo, run, wc, lc, tr, cl, tm, ms) (yl, yc, yt, co, pa, su, sc) mc ++ ((oa, .inl (cJ, 1, .inr (.inl yo))) :: R)) := hD
  refine lv_aload hx hb dL_pair_0 (lv_at hl 4 rfl) ?_
  refine lv_iconst (v := 0) hx hb dL_pair_2 (by decide) ?_
  refine lv_aload_n hx hb dL_pair_3 rfl (lv_at hl 0 rfl) ?_
  refine lv_iload_n hx hb dL_pair_4 rfl (lv_at hl 1 rfl) ?_
  refine lv_iload_n hx hb dL_pair_5 rfl (lv_at hl 2 rfl) ?_
  refine lv_iload_n hx hb dL_pair_6 rfl (lv_at hl 3 rfl) ?_
  refine zci (zrV (As := [.int (nI a), .int (nI b), .int 1]) (rest := [.int 0, .ref oa]) ⟨hx, hb, hml, hown, hts⟩ (zV 0 hP hD hK hE hB hS rfl rfl) (c_X4_pair_1 (a := a) (b := b) (h1) (h2)) (cwV 3 hts gL_pair_X4_pair rfl rfl rfl hdv_X4_pair ⟨Nat.le_of_ble_eq_true rfl, Nat.le_of_ble_eq_true rfl⟩) rfl rfl hl.1 rfl (lv_room (Nat.le_of_ble_eq_true rfl)) dL_pair_7 ⟨Nat.le_of_ble_eq_true rfl, Nat.le_of_ble_eq_true rfl⟩) hS (fun H locs hP hD hS => ?_)
  have hP : va_P D vwCl (zWT cI cJ h (n, L) (kt, km, kl) (pt, pm, pl) (nu, le, ow, fo, run, wc, lc, tr, cl, tm, ms) (yl, yc, yt, co, pa, su, sc) mc ++ ((oa, .inl (cJ, 1, .inr (.inl yo))) :: R)) _ := hP
  have hD : va_D (zAb B) (zWT cI cJ h (n, L) (kt, km, kl) (pt, pm, pl) (nu, le, ow, fo, run, wc, lc, tr, cl, tm, ms) (yl, yc, yt, co, pa, su, sc) mc ++ ((oa, .inl (cJ, 1, .inr (.inl yo))) :: R)) := hD
  refine lv_i2l (v := ((pm (26 * a + b))).toInt64) hx hb dL_pair_10 rfl ?_
  refine va_last hx hb hK hP hD hS 21 1 rfl rfl (vp_in_nI (n := 0) (N := 1) (by omega) (by omega)) dL_pair_11 (fun H locs hP hD hS => ?_)
  rw [pk_cl (x := (0 : Int32)) 0 (rfl) (by omega)] at hP hD
  have hP : va_P D vwCl (zWT cI cJ h (n, L) (kt, km, kl) (pt, pm, pl) (nu, le, ow, fo, run, wc, lc, tr, cl, tm, ms) (yl, yc, yt, co, pa, su, sc) mc ++ ((oa, .inl (cJ, 1, .inr (.inl (vp_updL yo 0 (((pm (26 * a + b))).toInt64))))) :: R)) _ := hP
  have hD : va_D (zAb B) (zWT cI cJ h (n, L) (kt, km, kl) (pt, pm, pl) (nu, le, ow, fo, run, wc, lc, tr, cl, tm, ms) (yl, yc, yt, co, pa, su, sc) mc ++ ((oa, .inl (cJ, 1, .inr (.inl (vp_updL yo 0 (((pm (26 * a + b))).toInt64))))) :: R)) := hD
  refine lv_goto (tgt := 19) hx hb dL_pair_12 (by decide) ?_
  refine lv_iconst (v := 0) hx hb dL_pair_19 (by decide) ?_
  exact W.iret (v := 0) hx hb hr (fun t ht hW => ⟨⟨_, (), rfl, rfl, by rw [ht]; exact hP, hD⟩, hS.F ht⟩) hS.2.2 dL_pair_20

set_option maxHeartbeats 1000000 in
set_option maxRecDepth 100000 in
theorem c_L_pair_2 {l : Launch} {B kr kp : Nat} {D : va_G} {cI cJ cZ : ClassId} {h : Nat → Nat} {R : va_W} {n : Nat} {L : Nat → Int64} {kt : Nat → Int32} {km : Nat → Int32} {kl : Nat → Int32} {pt : Nat → Int32} {pm : Nat → Int32} {pl : Nat → Int32} {nu : Nat → Int32} {le : Nat → Int32} {ow : Nat → Int32} {fo : Nat → Int32} {run : Bool} {wc : Nat} {lc : Nat} {tr : Nat} {cl : Nat} {tm : Nat} {ms : Nat} {yl : Nat → Int32} {yc : Nat → Int32} {yt : Nat → Int32} {co : Nat} {pa : Int32} {su : Nat} {sc : Nat} {mc : Nat → Int32} {oa : Nat} {yo : Nat → Int64} {a : Nat} {b : Nat}   (h1 : a < 26) (h2 : b < 26) : Met l yL_pair wsL_pair ({ frames := 3, cells := 0, slots := 0, locals := 67 }) (zPc B kr kp D (zTy cI cJ cZ) (zWT cI cJ h (n, L) (kt, km, kl) (pt, pm, pl) (nu, le, ow, fo, run, wc, lc, tr, cl, tm, ms) (yl, yc, yt, co, pa, su, sc) mc ++ ((oa, .inl (cJ, 1, .inr (.inl yo))) :: R)) [.ref (h 0), .int (nI a), .int (nI b), .int 2, .ref oa]) (zQi B D (zWT cI cJ h (n, L) (kt, km, kl) (pt, pm, pl) (nu, le, ow, fo, run, wc, lc, tr, cl, tm, ms) (yl, yc, yt, co, pa, su, sc) mc ++ ((oa, .inl (cJ, 1, .inr (.inl (vp_updL yo 0 (((pl (26 * a + b))).toInt64))))) :: R)) 0) 0 0 (zAb B) := by
  refine va_MetW (cc := cL_pair) (maxL := 6) (ret := (some .int)) (by decide) rfl ?_
  intro p e s m args below meth c s₁ B0 hml hv
  obtain ⟨rfl, hP, hD, hK, hE, hB⟩ := hv
  have hx := B0.exec
  have hb := B0.bytes
  have hr := B0.returns
  have hts := atoms_spec (ws := wsL_pair) B0.pre
  have hown : s.vm.findClass RL = some m.cls := findClass_of_methodNamed B0.named
  have hlocks := B0.notSynchronized
  have hA : ∀ q : Nat, s.heap.size ≤ q → zAb B q := fun q hq => Nat.le_trans hB hq
  have hS : va_S (zAb B) s.heap s.heap [] := va_S.rf
  have hgr : s.heap.size ≤ s.heap.size := Nat.le_refl _
  have hl := lv_entry ([.ref (h 0), .int (nI a), .int (nI b), .int 2, .ref oa]) (n := 6) (Nat.le_of_ble_eq_true rfl)
  rw [lg_entry_eq]
  generalize (lg_sl ([.ref (h 0), .int (nI a), .int (nI b), .int 2, .ref oa]) ++ List.replicate (6 - (lg_sl ([.ref (h 0), .int (nI a), .int (nI b), .int 2, .ref oa])).length) Slot.unset).toArray = ls at hl ⊢
  have hl : lv_has ls 6 [(0, .ref (h 0)), (1, .int (nI a)), (2, .int (nI b)), (3, .int 2), (4, .ref oa)] := hl
  have htab : c.exceptionTable.toList = tableOf [(0, 12, 15, 21)] := vx_table (x := yL_pair) B0 (hts _ List.mem_cons_self)
  have hP : va_P D vwCl (zWT cI cJ h (n, L) (kt, km, kl) (pt, pm, pl) (nu, le, ow, fo, run, wc, lc, tr, cl, tm, ms) (yl, yc, yt, co, pa, su, sc) mc ++ ((oa, .inl (cJ, 1, .inr (.inl yo))) :: R)) s.heap := hP
  have hD : va_D (zAb B) (zWT cI cJ h (n, L) (kt, km, kl) (pt, pm, pl) (nu, le, ow, fo, run, wc, lc, tr, cl, tm, ms) (yl, yc, yt, co, pa, su, sc) mc ++ ((oa, .inl (cJ, 1, .inr (.inl yo))) :: R)) := hD
  refine lv_aload hx hb dL_pair_0 (lv_at hl 4 rfl) ?_
  refine lv_iconst (v := 0) hx hb dL_pair_2 (by decide) ?_
  refine lv_aload_n hx hb dL_pair_3 rfl (lv_at hl 0 rfl) ?_
  refine lv_iload_n hx hb dL_pair_4 rfl (lv_at hl 1 rfl) ?_
  refine lv_iload_n hx hb dL_pair_5 rfl (lv_at hl 2 rfl) ?_
  refine lv_iload_n hx hb dL_pair_6 rfl (lv_at hl 3 rfl) ?_
  refine zci (zrV (As := [.int (nI a), .int (nI b), .int 2]) (rest := [.int 0, .ref oa]) ⟨hx, hb, hml, hown, hts⟩ (zV 0 hP hD hK hE hB hS rfl rfl) (c_X4_pair_2 (a := a) (b := b) (h1) (h2)) (cwV 3 hts gL_pair_X4_pair rfl rfl rfl hdv_X4_pair ⟨Nat.le_of_ble_eq_true rfl, Nat.le_of_ble_eq_true rfl⟩) rfl rfl hl.1 rfl (lv_room (Nat.le_of_ble_eq_true rfl)) dL_pair_7 ⟨Nat.le_of_ble_eq_true rfl, Nat.le_of_ble_eq_true rfl⟩) hS (fun H locs hP hD hS => ?_)
  have hP : va_P D vwCl (zWT cI cJ h (n, L) (kt, km, kl) (pt, pm, pl) (nu, le, ow, fo, run, wc, lc, tr, cl, tm, ms) (yl, yc, yt, co, pa, su, sc) mc ++ ((oa, .inl (cJ, 1, .inr (.inl yo))) :: R)) _ := hP
  have hD : va_D (zAb B) (zWT cI cJ h (n, L) (kt, km, kl) (pt, pm, pl) (nu, le, ow, fo, run, wc, lc, tr, cl, tm, ms) (yl, yc, yt, co, pa, su, sc) mc ++ ((oa, .inl (cJ, 1, .inr (.inl yo))) :: R)) := hD
  refine lv_i2l (v := ((pl (26 * a + b))).toInt64) hx hb dL_pair_10 rfl ?_
  refine va_last hx hb hK hP hD hS 21 1 rfl rfl (vp_in_nI (n := 0) (N := 1) (by omega) (by omega)) dL_pair_11 (fun H locs hP hD hS => ?_)
  rw [pk_cl (x := (0 : Int32)) 0 (rfl) (by omega)] at hP hD
  have hP : va_P D vwCl (zWT cI cJ h (n, L) (kt, km, kl) (pt, pm, pl) (nu, le, ow, fo, run, wc, lc, tr, cl, tm, ms) (yl, yc, yt, co, pa, su, sc) mc ++ ((oa, .inl (cJ, 1, .inr (.inl (vp_updL yo 0 (((pl (26 * a + b))).toInt64))))) :: R)) _ := hP
  have hD : va_D (zAb B) (zWT cI cJ h (n, L) (kt, km, kl) (pt, pm, pl) (nu, le, ow, fo, run, wc, lc, tr, cl, tm, ms) (yl, yc, yt, co, pa, su, sc) mc ++ ((oa, .inl (cJ, 1, .inr (.inl (vp_updL yo 0 (((pl (26 * a + b))).toInt64))))) :: R)) := hD
  refine lv_goto (tgt := 19) hx hb dL_pair_12 (by decide) ?_
  refine lv_iconst (v := 0) hx hb dL_pair_19 (by decide) ?_
  exact W.iret (v := 0) hx hb hr (fun t ht hW => ⟨⟨_, (), rfl, rfl, by rw [ht]; exact hP, hD⟩, hS.F ht⟩) hS.2.2 dL_pair_20

set_option maxHeartbeats 1000000 in
set_option maxRecDepth 100000 in
theorem c_L_pair_3 {l : Launch} {B kr kp : Nat} {D : va_G} {cI cJ cZ : ClassId} {h : Nat → Nat} {R : va_W} {n : Nat} {L : Nat → Int64} {kt : Nat → Int32} {km : Nat → Int32} {kl : Nat → Int32} {pt : Nat → Int32} {pm : Nat → Int32} {pl : Nat → Int32} {nu : Nat → Int32} {le : Nat → Int32} {ow : Nat → Int32} {fo : Nat → Int32} {run : Bool} {wc : Nat} {lc : Nat} {tr : Nat} {cl : Nat} {tm : Nat} {ms : Nat} {yl : Nat → Int32} {yc : Nat → Int32} {yt : Nat → Int32} {co : Nat} {pa : Int32} {su : Nat} {sc : Nat} {mc : Nat → Int32} {oa : Nat} {yo : Nat → Int64} {a : Nat} {b : Nat}   (h1 : a < 26) (h2 : b < 26) : Met l yL_pair wsL_pair ({ frames := 4, cells := 0, slots := 0, locals := 88 }) (zPc B kr kp D (zTy cI cJ cZ) (zWT cI cJ h (n, L) (kt, km, kl) (pt, pm, pl) (nu, le, ow, fo, run, wc, lc, tr, cl, tm, ms) (yl, yc, yt, co, pa, su, sc) mc ++ ((oa, .inl (cJ, 1, .inr (.inl yo))) :: R)) [.ref (h 0), .int (nI a), .int (nI b), .int 3, .ref oa]) (zQi B D (zWT cI cJ h (n, L) (kt, km, kl) (pt, pm, pl) (nu, le, ow, fo, run, wc, lc, tr, cl, tm, ms) (yl, yc, yt, co, pa, su, sc) mc ++ ((oa, .inl (cJ, 1, .inr (.inl (vp_updL yo 0 (((zwk pt pl (nI (26 * a + b)))).toInt64))))) :: R)) 0) 0 0 (zAb B) := by
  refine va_MetW (cc := cL_pair) (maxL := 6) (ret := (some .int)) (by decide) rfl ?_
  intro p e s m args below meth c s₁ B0 hml hv
  obtain ⟨rfl, hP, hD, hK, hE, hB⟩ := hv
  have hx := B0.exec
  have hb := B0.bytes
  have hr := B0.returns
  have hts := atoms_spec (ws := wsL_pair) B0.pre
  have hown : s.vm.findClass RL = some m.cls := findClass_of_methodNamed B0.named
  have hlocks := B0.notSynchronized
  have hA : ∀ q : Nat, s.heap.size ≤ q → zAb B q := fun q hq => Nat.le_trans hB hq
  have hS : va_S (zAb B) s.heap s.heap [] := va_S.rf
  have hgr : s.heap.size ≤ s.heap.size := Nat.le_refl _
  have hl := lv_entry ([.ref (h 0), .int (nI a), .int (nI b), .int 3, .ref oa]) (n := 6) (Nat.le_of_ble_eq_true rfl)
  rw [lg_entry_eq]
  generalize (lg_sl ([.ref (h 0), .int (nI a), .int (nI b), .int 3, .ref oa]) ++ List.replicate (6 - (lg_sl ([.ref (h 0), .int (nI a), .int (nI b), .int 3, .ref oa])).length) Slot.unset).toArray = ls at hl ⊢
  have hl : lv_has ls 6 [(0, .ref (h 0)), (1, .int (nI a)), (2, .int (nI b)), (3, .int 3), (4, .ref oa)] := hl
  have htab : c.exceptionTable.toList = tableOf [(0, 12, 15, 21)] := vx_table (x := yL_pair) B0 (hts _ List.mem_cons_self)
  have hP : va_P D vwCl (zWT cI cJ h (n, L) (kt, km, kl) (pt, pm, pl) (nu, le, ow, fo, run, wc, lc, tr, cl, tm, ms) (yl, yc, yt, co, pa, su, sc) mc ++ ((oa, .inl (cJ, 1, .inr (.inl yo))) :: R)) s.heap := hP
  have hD : va_D (zAb B) (zWT cI cJ h (n, L) (kt, km, kl) (pt, pm, pl) (nu, le, ow, fo, run, wc, lc, tr, cl, tm, ms) (yl, yc, yt, co, pa, su, sc) mc ++ ((oa, .inl (cJ, 1, .inr (.inl yo))) :: R)) := hD
  refine lv_aload hx hb dL_pair_0 (lv_at hl 4 rfl) ?_
  refine lv_iconst (v := 0) hx hb dL_pair_2 (by decide) ?_
  refine lv_aload_n hx hb dL_pair_3 rfl (lv_at hl 0 rfl) ?_
  refine lv_iload_n hx hb dL_pair_4 rfl (lv_at hl 1 rfl) ?_
  refine lv_iload_n hx hb dL_pair_5 rfl (lv_at hl 2 rfl) ?_
  refine lv_iload_n hx hb dL_pair_6 rfl (lv_at hl 3 rfl) ?_
  refine zci (zrV (As := [.int (nI a), .int (nI b), .int 3]) (rest := [.int 0, .ref oa]) ⟨hx, hb, hml, hown, hts⟩ (zV 0 hP hD hK hE hB hS rfl rfl) (c_X4_pair_3 (a := a) (b := b) (h1) (h2)) (cwV 3 hts gL_pair_X4_pair rfl rfl rfl hdv_X4_pair ⟨Nat.le_of_ble_eq_true rfl, Nat.le_of_ble_eq_true rfl⟩) rfl rfl hl.1 rfl (lv_room (Nat.le_of_ble_eq_true rfl)) dL_pair_7 ⟨Nat.le_of_ble_eq_true rfl, Nat.le_of_ble_eq_true rfl⟩) hS (fun H locs hP hD hS => ?_)
  have hP : va_P D vwCl (zWT cI cJ h (n, L) (kt, km, kl) (pt, pm, pl) (nu, le, ow, fo, run, wc, lc, tr, cl, tm, ms) (yl, yc, yt, co, pa, su, sc) mc ++ ((oa, .inl (cJ, 1, .inr (.inl yo))) :: R)) _ := hP
  have hD : va_D (zAb B) (zWT cI cJ h (n, L) (kt, km, kl) (pt, pm, pl) (nu, le, ow, fo, run, wc, lc, tr, cl, tm, ms) (yl, yc, yt, co, pa, su, sc) mc ++ ((oa, .inl (cJ, 1, .inr (.inl yo))) :: R)) := hD
  refine lv_i2l (v := ((zwk pt pl (nI (26 * a + b)))).toInt64) hx hb dL_pair_10 rfl ?_
  refine va_last hx hb hK hP hD hS 21 1 rfl rfl (vp_in_nI (n := 0) (N := 1) (by omega) (by omega)) dL_pair_11 (fun H locs hP hD hS => ?_)
  rw [pk_cl (x := (0 : Int32)) 0 (rfl) (by omega)] at hP hD
  have hP : va_P D vwCl (zWT cI cJ h (n, L) (kt, km, kl) (pt, pm, pl) (nu, le, ow, fo, run, wc, lc, tr, cl, tm, ms) (yl, yc, yt, co, pa, su, sc) mc ++ ((oa, .inl (cJ, 1, .inr (.inl (vp_updL yo 0 (((zwk pt pl (nI (26 * a + b)))).toInt64))))) :: R)) _ := hP
  have hD : va_D (zAb B) (zWT cI cJ h (n, L) (kt, km, kl) (pt, pm, pl) (nu, le, ow, fo, run, wc, lc, tr, cl, tm, ms) (yl, yc, yt, co, pa, su, sc) mc ++ ((oa, .inl (cJ, 1, .inr (.inl (vp_updL yo 0 (((zwk pt pl (nI (26 * a + b)))).toInt64))))) :: R)) := hD
  refine lv_goto (tgt := 19) hx hb dL_pair_12 (by decide) ?_
  refine lv_iconst (v := 0) hx hb dL_pair_19 (by decide) ?_
  exact W.iret (v := 0) hx hb hr (fun t ht hW => ⟨⟨_, (), rfl, rfl, by rw [ht]; exact hP, hD⟩, hS.F ht⟩) hS.2.2 dL_pair_20

set_option maxHeartbeats 1000000 in
set_option maxRecDepth 100000 in
theorem c_L_pair_x {l : Launch} {B kr kp : Nat} {D : va_G} {cI cJ cZ : ClassId} {h : Nat → Nat} {R : va_W} {n : Nat} {L : Nat → Int64} {kt : Nat → Int32} {km : Nat → Int32} {kl : Nat → Int32} {pt : Nat → Int32} {pm : Nat → Int32} {pl : Nat → Int32} {nu : Nat → Int32} {le : Nat → Int32} {ow : Nat → Int32} {fo : Nat → Int32} {run : Bool} {wc : Nat} {lc : Nat} {tr : Nat} {cl : Nat} {tm : Nat} {ms : Nat} {yl : Nat → Int32} {yc : Nat → Int32} {yt : Nat → Int32} {co : Nat} {pa : Int32} {su : Nat} {sc : Nat} {mc : Nat → Int32} {oa : Nat} {yo : Nat → Int64} {a : Int32} {b : Int32} {i : Int32}   (hls : l.stackTraces = false) (h1 : ¬ ((¬ a < 0 ∧ ¬ 26 ≤ a) ∧ (¬ b < 0 ∧ ¬ 26 ≤ b) ∧ ¬ i < 0 ∧ i ≤ 3)) : Met l yL_pair wsL_pair ({ frames := 7, cells := 1, slots := 6, locals := 106 }) (zPc B kr kp D (zTy cI cJ cZ) (zWT cI cJ h (n, L) (kt, km, kl) (pt, pm, pl) (nu, le, ow, fo, run, wc, lc, tr, cl, tm, ms) (yl, yc, yt, co, pa, su, sc) mc ++ ((oa, .inl (cJ, 1, .inr (.inl yo))) :: R)) [.ref (h 0), .int a, .int b, .int i, .ref oa]) (zQi B D (zWT cI cJ h (n, L) (kt, km, kl) (pt, pm, pl) (nu, le, ow, fo, run, wc, lc, tr, cl, tm, ms) (yl, yc, yt, co, pa, su, sc) mc ++ ((oa, .inl (cJ, 1, .inr (.inl yo))) :: R)) 1) 1 6 (zAb B) := by
  refine va_MetW (cc := cL_pair) (maxL := 6) (ret := (some .int)) (by decide) rfl ?_
  intro p e s m args below meth c s₁ B0 hml hv
  obtain ⟨rfl, hP, hD, hK, hE, hB⟩ := hv
  have hx := B0.exec
  have hb := B0.bytes
  have hr := B0.returns
  have hts := atoms_spec (ws := wsL_pair) B0.pre
  have hown : s.vm.findClass RL = some m.cls := findClass_of_methodNamed B0.named
  have hlocks := B0.notSynchronized
  have hA : ∀ q : Nat, s.heap.size ≤ q → zAb B q := fun q hq => Nat.le_trans hB hq
  have hS : va_S (zAb B) s.heap s.heap [] := va_S.rf
  have hgr : s.heap.size ≤ s.heap.size := Nat.le_refl _
  have hl := lv_entry ([.ref (h 0), .int a, .int b, .int i, .ref oa]) (n := 6) (Nat.le_of_ble_eq_true rfl)
  rw [lg_entry_eq]
  generalize (lg_sl ([.ref (h 0), .int a, .int b, .int i, .ref oa]) ++ List.replicate (6 - (lg_sl ([.ref (h 0), .int a, .int b, .int i, .ref oa])).length) Slot.unset).toArray = ls at hl ⊢
  have hl : lv_has ls 6 [(0, .ref (h 0)), (1, .int a), (2, .int b), (3, .int i), (4, .ref oa)] := hl
  have htab : c.exceptionTable.toList = tableOf [(0, 12, 15, 21)] := vx_table (x := yL_pair) B0 (hts _ List.mem_cons_self)
  have hP : va_P D vwCl (zWT cI cJ h (n, L) (kt, km, kl) (pt, pm, pl) (nu, le, ow, fo, run, wc, lc, tr, cl, tm, ms) (yl, yc, yt, co, pa, su, sc) mc ++ ((oa, .inl (cJ, 1, .inr (.inl yo))) :: R)) s.heap := hP
  have hD : va_D (zAb B) (zWT cI cJ h (n, L) (kt, km, kl) (pt, pm, pl) (nu, le, ow, fo, run, wc, lc, tr, cl, tm, ms) (yl, yc, yt, co, pa, su, sc) mc ++ ((oa, .inl (cJ, 1, .inr (.inl yo))) :: R)) := hD
  refine lv_aload hx hb dL_pair_0 (lv_at hl 4 rfl) ?_
  refine lv_iconst (v := 0) hx hb dL_pair_2 (by decide) ?_
  refine lv_aload_n hx hb dL_pair_3 rfl (lv_at hl 0 rfl) ?_
  refine lv_iload_n hx hb dL_pair_4 rfl (lv_at hl 1 rfl) ?_
  refine lv_iload_n hx hb dL_pair_5 rfl (lv_at hl 2 rfl) ?_
  refine lv_iload_n hx hb dL_pair_6 rfl (lv_at hl 3 rfl) ?_
  refine vx_calli (vx_runV (As := [.int a, .int b, .int i]) (rest := [.int 0, .ref oa]) ⟨hx, hb, hml, hown, hts⟩ (c_X4_pair_x hls   h1) (cwV 3 hts gL_pair_X4_pair rfl rfl rfl hdv_X4_pair ⟨Nat.le_of_ble_eq_true rfl, Nat.le_of_ble_eq_true rfl⟩) (zV 0 hP hD hK hE hB hS rfl rfl) rfl rfl hl.1 rfl (lv_room (Nat.le_of_ble_eq_true rfl)) dL_pair_7 ⟨Nat.le_of_ble_eq_true rfl, Nat.le_of_ble_eq_true rfl⟩) hS (fun _ _ h => h) (fun _ h => h) (fun _ _ h => h) (fun E ce q9 u t H locs ht hal hpx hbx hsz hkp hS hce hcv hcl => ?_) (fun r u t H locs ht hal hpo hbo hsz hkp hS => hpo.elim)
  obtain ⟨rfl, hP, hD⟩ := hbx
  rw [ht] at hP
  refine vx_catch (name := "java/lang/IndexOutOfBoundsException") hown [] ⟨0, 12, 15, 21⟩ [] htab (fun _ h9 => absurd h9 List.not_mem_nil) (by decide) (by decide) (hts (.classLink RL 21 "java/lang/IndexOutOfBoundsException") (List.mem_of_getElem? (i := 1) rfl)) (va_tabs rfl rfl (hE.2.1.1 "java/lang/IndexOutOfBoundsException" (by decide +kernel))) hce hcv hcl ?_
  have hP : va_P D vwCl (zWT cI cJ h (n, L) (kt, km, kl) (pt, pm, pl) (nu, le, ow, fo, run, wc, lc, tr, cl, tm, ms) (yl, yc, yt, co, pa, su, sc) mc ++ ((oa, .inl (cJ, 1, .inr (.inl yo))) :: R)) _ := hP
  have hD : va_D (zAb B) (zWT cI cJ h (n, L) (kt, km, kl) (pt, pm, pl) (nu, le, ow, fo, run, wc, lc, tr, cl, tm, ms) (yl, yc, yt, co, pa, su, sc) mc ++ ((oa, .inl (cJ, 1, .inr (.inl yo))) :: R)) := hD
  refine lv_astore (lv' := [(5, .ref q9), (0, .ref (h 0)), (1, .int a), (2, .int b), (3, .int i), (4, .ref oa)]) hx hb dL_pair_15 hl (by decide) rfl (fun ls hl => ?_)
  refine lv_iconst (v := 1) hx hb dL_pair_17 (by decide) ?_
  exact W.iret (v := 1) hx hb hr (fun t ht hW => ⟨⟨_, (), rfl, rfl, by rw [ht]; exact hP, hD⟩, hS.F ht⟩) hS.2.2 dL_pair_18

set_option maxHeartbeats 1000000 in
set_option maxRecDepth 100000 in
theorem c_L_mistakes {l : Launch} {B kr kp : Nat} {D : va_G} {cI cJ cZ : ClassId} {h : Nat → Nat} {R : va_W} {n : Nat} {L : Nat → Int64} {kt : Nat → Int32} {km : Nat → Int32} {kl : Nat → Int32} {pt : Nat → Int32} {pm : Nat → Int32} {pl : Nat → Int32} {nu : Nat → Int32} {le : Nat → Int32} {ow : Nat → Int32} {fo : Nat → Int32} {run : Bool} {wc : Nat} {lc : Nat} {tr : Nat} {cl : Nat} {tm : Nat} {ms : Nat} {yl : Nat → Int32} {yc : Nat → Int32} {yt : Nat → Int32} {co : Nat} {pa : Int32} {su : Nat} {sc : Nat} {mc : Nat → Int32} {oa : Nat} {yo : Nat → Int64} {k : Nat}   (h1 : 1 ≤ k) (h4 : k ≤ 4) : Met l yL_mistakes wsL_mistakes ({ frames := 2, cells := 0, slots := 0, locals := 42 }) (zPc B kr kp D (zTy cI cJ cZ) (zWT cI cJ h (n, L) (kt, km, kl) (pt, pm, pl) (nu, le, ow, fo, run, wc, lc, tr, cl, tm, ms) (yl, yc, yt, co, pa, su, sc) mc ++ ((oa, .inl (cJ, 1, .inr (.inl yo))) :: R)) [.ref (h 0), .int (nI k), .ref oa]) (zQi B D (zWT cI cJ h (n, L) (kt, km, kl) (pt, pm, pl) (nu, le, ow, fo, run, wc, lc, tr, cl, tm, ms) (yl, yc, yt, co, pa, su, sc) mc ++ ((oa, .inl (cJ, 1, .inr (.inl (vp_updL yo 0 (((mc k)).toInt64))))) :: R)) 0) 0 0 (zAb B) := by
  refine va_MetW (cc := cL_mistakes) (maxL := 4) (ret := (some .int)) (by decide) rfl ?_
  intro p e s m args below meth c s₁ B0 hml hv
  obtain ⟨rfl, hP, hD, hK, hE, hB⟩ := hv
  have hx := B0.exec
  have hb := B0.bytes
  have hr := B0.returns
  have hts := atoms_spec (ws := wsL_mistakes) B0.pre
  have hown : s.vm.findClass RL = some m.cls := findClass_of_methodNamed B0.named
  have hlocks := B0.notSynchronized
  have hA : ∀ q : Nat, s.heap.size ≤ q → zAb B q := fun q hq => Nat.le_trans hB hq
  have hS : va_S (zAb B) s.heap s.heap [] := va_S.rf
  have hgr : s.heap.size ≤ s.heap.size := Nat.le_refl _
  have hl := lv_entry ([.ref (h 0), .int (nI k), .ref oa]) (n := 4) (Nat.le_of_ble_eq_true rfl)
  rw [lg_entry_eq]
  generalize (lg_sl ([.ref (h 0), .int (nI k), .ref oa]) ++ List.replicate (4 - (lg_sl ([.ref (h 0), .int (nI k), .ref oa])).length) Slot.unset).toArray = ls at hl ⊢
  have hl : lv_has ls 4 [(0, .ref (h 0)), (1, .int (nI k)), (2, .ref oa)] := hl
  have htab : c.exceptionTable.toList = tableOf [(0, 9, 12, 21)] := vx_table (x := yL_mistakes) B0 (hts _ List.mem_cons_self)
  have hP : va_P D vwCl (zWT cI cJ h (n, L) (kt, km, kl) (pt, pm, pl) (nu, le, ow, fo, run, wc, lc, tr, cl, tm, ms) (yl, yc, yt, co, pa, su, sc) mc ++ ((oa, .inl (cJ, 1, .inr (.inl yo))) :: R)) s.heap := hP
  have hD : va_D (zAb B) (zWT cI cJ h (n, L) (kt, km, kl) (pt, pm, pl) (nu, le, ow, fo, run, wc, lc, tr, cl, tm, ms) (yl, yc, yt, co, pa, su, sc) mc ++ ((oa, .inl (cJ, 1, .inr (.inl yo))) :: R)) := hD
  refine lv_aload_n hx hb dL_mistakes_0 rfl (lv_at hl 2 rfl) ?_
  refine lv_iconst (v := 0) hx hb dL_mistakes_1 (by decide) ?_
  refine lv_aload_n hx hb dL_mistakes_2 rfl (lv_at hl 0 rfl) ?_
  refine lv_iload_n hx hb dL_mistakes_3 rfl (lv_at hl 1 rfl) ?_
  refine zci (zrV (As := [.int (nI k)]) (rest := [.int 0, .ref oa]) ⟨hx, hb, hml, hown, hts⟩ (zV 0 hP hD hK hE hB hS rfl rfl) (c_X4_mistakes (k := k) (h1) (h4)) (cwV 1 hts gL_mistakes_X4_mistakes rfl rfl rfl hdv_X4_mistakes ⟨Nat.le_of_ble_eq_true rfl, Nat.le_of_ble_eq_true rfl⟩) rfl rfl hl.1 rfl (lv_room (Nat.le_of_ble_eq_true rfl)) dL_mistakes_4 ⟨Nat.le_of_ble_eq_true rfl, Nat.le_of_ble_eq_true rfl⟩) hS (fun H locs hP hD hS => ?_)
  have hP : va_P D vwCl (zWT cI cJ h (n, L) (kt, km, kl) (pt, pm, pl) (nu, le, ow, fo, run, wc, lc, tr, cl, tm, ms) (yl, yc, yt, co, pa, su, sc) mc ++ ((oa, .inl (cJ, 1, .inr (.inl yo))) :: R)) _ := hP
  have hD : va_D (zAb B) (zWT cI cJ h (n, L) (kt, km, kl) (pt, pm, pl) (nu, le, ow, fo, run, wc, lc, tr, cl, tm, ms) (yl, yc, yt, co, pa, su, sc) mc ++ ((oa, .inl (cJ, 1, .inr (.inl yo))) :: R)) := hD
  refine lv_i2l (v := ((mc k)).toInt64) hx hb dL_mistakes_7 rfl ?_
  refine va_last hx hb hK hP hD hS 21 1 rfl rfl (vp_in_nI (n := 0) (N := 1) (by omega) (by omega)) dL_mistakes_8 (fun H locs hP hD hS => ?_)
  rw [pk_cl (x := (0 : Int32)) 0 (rfl) (by omega)] at hP hD
  have hP : va_P D vwCl (zWT cI cJ h (n, L) (kt, km, kl) (pt, pm, pl) (nu, le, ow, fo, run, wc, lc, tr, cl, tm, ms) (yl, yc, yt, co, pa, su, sc) mc ++ ((oa, .inl (cJ, 1, .inr (.inl (vp_updL yo 0 (((mc k)).toInt64))))) :: R)) _ := hP
  have hD : va_D (zAb B) (zWT cI cJ h (n, L) (kt, km, kl) (pt, pm, pl) (nu, le, ow, fo, run, wc, lc, tr, cl, tm, ms) (yl, yc, yt, co, pa, su, sc) mc ++ ((oa, .inl (cJ, 1, .inr (.inl (vp_updL yo 0 (((mc k)).toInt64))))) :: R)) := hD
  refine lv_goto (tgt := 15) hx hb dL_mistakes_9 (by decide) ?_
  refine lv_iconst (v := 0) hx hb dL_mistakes_15 (by decide) ?_
  exact W.iret (v := 0) hx hb hr (fun t ht hW => ⟨⟨_, (), rfl, rfl, by rw [ht]; exact hP, hD⟩, hS.F ht⟩) hS.2.2 dL_mistakes_16

set_option maxHeartbeats 1000000 in
set_option maxRecDepth 100000 in
theorem c_L_mistakes_x {l : Launch} {B kr kp : Nat} {D : va_G} {cI cJ cZ : ClassId} {h : Nat → Nat} {R : va_W} {n : Nat} {L : Nat → Int64} {kt : Nat → Int32} {km : Nat → Int32} {kl : Nat → Int32} {pt : Nat → Int32} {pm : Nat → Int32} {pl : Nat → Int32} {nu : Nat → Int32} {le : Nat → Int32} {ow : Nat → Int32} {fo : Nat → Int32} {run : Bool} {wc : Nat} {lc : Nat} {tr : Nat} {cl : Nat} {tm : Nat} {ms : Nat} {yl : Nat → Int32} {yc : Nat → Int32} {yt : Nat → Int32} {co : Nat} {pa : Int32} {su : Nat} {sc : Nat} {mc : Nat → Int32} {oa : Nat} {yo : Nat → Int64} {i : Int32}   (hls : l.stackTraces = false) (hi : i < 1 ∨ ¬ i ≤ 4) : Met l yL_mistakes wsL_mistakes ({ frames := 7, cells := 1, slots := 6, locals := 103 }) (zPc B kr kp D (zTy cI cJ cZ) (zWT cI cJ h (n, L) (kt, km, kl) (pt, pm, pl) (nu, le, ow, fo, run, wc, lc, tr, cl, tm, ms) (yl, yc, yt, co, pa, su, sc) mc ++ ((oa, .inl (cJ, 1, .inr (.inl yo))) :: R)) [.ref (h 0), .int i, .ref oa]) (zQi B D (zWT cI cJ h (n, L) (kt, km, kl) (pt, pm, pl) (nu, le, ow, fo, run, wc, lc, tr, cl, tm, ms) (yl, yc, yt, co, pa, su, sc) mc ++ ((oa, .inl (cJ, 1, .inr (.inl yo))) :: R)) 1) 1 6 (zAb B) := by
  refine va_MetW (cc := cL_mistakes) (maxL := 4) (ret := (some .int)) (by decide) rfl ?_
  intro p e s m args below meth c s₁ B0 hml hv
  obtain ⟨rfl, hP, hD, hK, hE, hB⟩ := hv
  have hx := B0.exec
  have hb := B0.bytes
  have hr := B0.returns
  have hts := atoms_spec (ws := wsL_mistakes) B0.pre
  have hown : s.vm.findClass RL = some m.cls := findClass_of_methodNamed B0.named
  have hlocks := B0.notSynchronized
  have hA : ∀ q : Nat, s.heap.size ≤ q → zAb B q := fun q hq => Nat.le_trans hB hq
  have hS : va_S (zAb B) s.heap s.heap [] := va_S.rf
  have hgr : s.heap.size ≤ s.heap.size := Nat.le_refl _
  have hl := lv_entry ([.ref (h 0), .int i, .ref oa]) (n := 4) (Nat.le_of_ble_eq_true rfl)
  rw [lg_entry_eq]
  generalize (lg_sl ([.ref (h 0), .int i, .ref oa]) ++ List.replicate (4 - (lg_sl ([.ref (h 0), .int i, .ref oa])).length) Slot.unset).toArray = ls at hl ⊢
  have hl : lv_has ls 4 [(0, .ref (h 0)), (1, .int i), (2, .ref oa)] := hl
  have htab : c.exceptionTable.toList = tableOf [(0, 9, 12, 21)] := vx_table (x := yL_mistakes) B0 (hts _ List.mem_cons_self)
  have hP : va_P D vwCl (zWT cI cJ h (n, L) (kt, km, kl) (pt, pm, pl) (nu, le, ow, fo, run, wc, lc, tr, cl, tm, ms) (yl, yc, yt, co, pa, su, sc) mc ++ ((oa, .inl (cJ, 1, .inr (.inl yo))) :: R)) s.heap := hP
  have hD : va_D (zAb B) (zWT cI cJ h (n, L) (kt, km, kl) (pt, pm, pl) (nu, le, ow, fo, run, wc, lc, tr, cl, tm, ms) (yl, yc, yt, co, pa, su, sc) mc ++ ((oa, .inl (cJ, 1, .inr (.inl yo))) :: R)) := hD
  refine lv_aload_n hx hb dL_mistakes_0 rfl (lv_at hl 2 rfl) ?_
  refine lv_iconst (v := 0) hx hb dL_mistakes_1 (by decide) ?_
  refine lv_aload_n hx hb dL_mistakes_2 rfl (lv_at hl 0 rfl) ?_
  refine lv_iload_n hx hb dL_mistakes_3 rfl (lv_at hl 1 rfl) ?_
  refine vx_calli (vx_runV (As := [.int i]) (rest := [.int 0, .ref oa]) ⟨hx, hb, hml, hown, hts⟩ (c_X4_mistakes_x hls   hi) (cwV 1 hts gL_mistakes_X4_mistakes rfl rfl rfl hdv_X4_mistakes ⟨Nat.le_of_ble_eq_true rfl, Nat.le_of_ble_eq_true rfl⟩) (zV 0 hP hD hK hE hB hS rfl rfl) rfl rfl hl.1 rfl (lv_room (Nat.le_of_ble_eq_true rfl)) dL_mistakes_4 ⟨Nat.le_of_ble_eq_true rfl, Nat.le_of_ble_eq_true rfl⟩) hS (fun _ _ h => h) (fun _ h => h) (fun _ _ h => h) (fun E ce q9 u t H locs ht hal hpx hbx hsz hkp hS hce hcv hcl => ?_) (fun r u t H locs ht hal hpo hbo hsz hkp hS => hpo.elim)
  obtain ⟨rfl, hP, hD⟩ := hbx
  rw [ht] at hP
  refine vx_catch (name := "java/lang/IndexOutOfBoundsException") hown [] ⟨0, 9, 12, 21⟩ [] htab (fun _ h9 => absurd h9 List.not_mem_nil) (by decide) (by decide) (hts (.classLink RL 21 "java/lang/IndexOutOfBoundsException") (List.mem_of_getElem? (i := 1) rfl)) (va_tabs rfl rfl (hE.2.1.1 "java/lang/IndexOutOfBoundsException" (by decide +kernel))) hce hcv hcl ?_
  have hP : va_P D vwCl (zWT cI cJ h (n, L) (kt, km, kl) (pt, pm, pl) (nu, le, ow, fo, run, wc, lc, tr, cl, tm, ms) (yl, yc, yt, co, pa, su, sc) mc ++ ((oa, .inl (cJ, 1, .inr (.inl yo))) :: R)) _ := hP
  have hD : va_D (zAb B) (zWT cI cJ h (n, L) (kt, km, kl) (pt, pm, pl) (nu, le, ow, fo, run, wc, lc, tr, cl, tm, ms) (yl, yc, yt, co, pa, su, sc) mc ++ ((oa, .inl (cJ, 1, .inr (.inl yo))) :: R)) := hD
  refine lv_astore_n (lv' := [(3, .ref q9), (0, .ref (h 0)), (1, .int i), (2, .ref oa)]) hx hb dL_mistakes_12 rfl hl (by decide) rfl (fun ls hl => ?_)
  refine lv_iconst (v := 1) hx hb dL_mistakes_13 (by decide) ?_
  exact W.iret (v := 1) hx hb hr (fun t ht hW => ⟨⟨_, (), rfl, rfl, by rw [ht]; exact hP, hD⟩, hS.F ht⟩) hS.2.2 dL_mistakes_14

set_option maxHeartbeats 1000000 in
set_option maxRecDepth 100000 in
theorem c_L_lesson_0 {l : Launch} {B kr kp : Nat} {D : va_G} {cI cJ cZ : ClassId} {h : Nat → Nat} {R : va_W} {n : Nat} {L : Nat → Int64} {kt : Nat → Int32} {km : Nat → Int32} {kl : Nat → Int32} {pt : Nat → Int32} {pm : Nat → Int32} {pl : Nat → Int32} {nu : Nat → Int32} {le : Nat → Int32} {ow : Nat → Int32} {fo : Nat → Int32} {run : Bool} {wc : Nat} {lc : Nat} {tr : Nat} {cl : Nat} {tm : Nat} {ms : Nat} {yl : Nat → Int32} {yc : Nat → Int32} {yt : Nat → Int32} {co : Nat} {pa : Int32} {su : Nat} {sc : Nat} {mc : Nat → Int32} {oa : Nat} {yo : Nat → Int64} {k : Nat}   (hk : k < co) (hco : co ≤ 256) : Met l yL_lesson wsL_lesson ({ frames := 3, cells := 0, slots := 0, locals := 65 }) (zPc B kr kp D (zTy cI cJ cZ) (zWT cI cJ h (n, L) (kt, km, kl) (pt, pm, pl) (nu, le, ow, fo, run, wc, lc, tr, cl, tm, ms) (yl, yc, yt, co, pa, su, sc) mc ++ ((oa, .inl (cJ, 1, .inr (.inl yo))) :: R)) [.ref (h 0), .int (nI k), .int 0, .ref oa]) (zQi B D (zWT cI cJ h (n, L) (kt, km, kl) (pt, pm, pl) (nu, le, ow, fo, run, wc, lc, tr, cl, tm, ms) (yl, yc, yt, co, pa, su, sc) mc ++ ((oa, .inl (cJ, 1, .inr (.inl (vp_updL yo 0 (((yl k)).toInt64))))) :: R)) 0) 0 0 (zAb B) := by
  refine va_MetW (cc := cL_lesson) (maxL := 5) (ret := (some .int)) (by decide) rfl ?_
  intro p e s m args below meth c s₁ B0 hml hv
  obtain ⟨rfl, hP, hD, hK, hE, hB⟩ := hv
  have hx := B0.exec
  have hb := B0.bytes
  have hr := B0.returns
  have hts := atoms_spec (ws := wsL_lesson) B0.pre
  have hown : s.vm.findClass RL = some m.cls := findClass_of_methodNamed B0.named
  have hlocks := B0.notSynchronized
  have hA : ∀ q : Nat, s.heap.size ≤ q → zAb B q := fun q hq => Nat.le_trans hB hq
  have hS : va_S (zAb B) s.heap s.heap [] := va_S.rf
  have hgr : s.heap.size ≤ s.heap.size := Nat.le_refl _
  have hl := lv_entry ([.ref (h 0), .int (nI k), .int 0, .ref oa]) (n := 5) (Nat.le_of_ble_eq_true rfl)
  rw [lg_entry_eq]
  generalize (lg_sl ([.ref (h 0), .int (nI k), .int 0, .ref oa]) ++ List.replicate (5 - (lg_sl ([.ref (h 0), .int (nI k), .int 0, .ref oa])).length) Slot.unset).toArray = ls at hl ⊢
  have hl : lv_has ls 5 [(0, .ref (h 0)), (1, .int (nI k)), (2, .int 0), (3, .ref oa)] := hl
  have htab : c.exceptionTable.toList = tableOf [(0, 10, 13, 21)] := vx_table (x := yL_lesson) B0 (hts _ List.mem_cons_self)
  have hP : va_P D vwCl (zWT cI cJ h (n, L) (kt, km, kl) (pt, pm, pl) (nu, le, ow, fo, run, wc, lc, tr, cl, tm, ms) (yl, yc, yt, co, pa, su, sc) mc ++ ((oa, .inl (cJ, 1, .inr (.inl yo))) :: R)) s.heap := hP
  have hD : va_D (zAb B) (zWT cI cJ h (n, L) (kt, km, kl) (pt, pm, pl) (nu, le, ow, fo, run, wc, lc, tr, cl, tm, ms) (yl, yc, yt, co, pa, su, sc) mc ++ ((oa, .inl (cJ, 1, .inr (.inl yo))) :: R)) := hD
  refine lv_aload_n hx hb dL_lesson_0 rfl (lv_at hl 3 rfl) ?_
  refine lv_iconst (v := 0) hx hb dL_lesson_1 (by decide) ?_
  refine lv_aload_n hx hb dL_lesson_2 rfl (lv_at hl 0 rfl) ?_
  refine lv_iload_n hx hb dL_lesson_3 rfl (lv_at hl 1 rfl) ?_
  refine lv_iload_n hx hb dL_lesson_4 rfl (lv_at hl 2 rfl) ?_
  refine zci (zrV (As := [.int (nI k), .int 0]) (rest := [.int 0, .ref oa]) ⟨hx, hb, hml, hown, hts⟩ (zV 0 hP hD hK hE hB hS rfl rfl) (c_X4_lesson_0 (k := k) (hk) (hco)) (cwV 2 hts gL_lesson_X4_lesson rfl rfl rfl hdv_X4_lesson ⟨Nat.le_of_ble_eq_true rfl, Nat.le_of_ble_eq_true rfl⟩) rfl rfl hl.1 rfl (lv_room (Nat.le_of_ble_eq_true rfl)) dL_lesson_5 ⟨Nat.le_of_ble_eq_true rfl, Nat.le_of_ble_eq_true rfl⟩) hS (fun H locs hP hD hS => ?_)
  have hP : va_P D vwCl (zWT cI cJ h (n, L) (kt, km, kl) (pt, pm, pl) (nu, le, ow, fo, run, wc, lc, tr, cl, tm, ms) (yl, yc, yt, co, pa, su, sc) mc ++ ((oa, .inl (cJ, 1, .inr (.inl yo))) :: R)) _ := hP
  have hD : va_D (zAb B) (zWT cI cJ h (n, L) (kt, km, kl) (pt, pm, pl) (nu, le, ow, fo, run, wc, lc, tr, cl, tm, ms) (yl, yc, yt, co, pa, su, sc) mc ++ ((oa, .inl (cJ, 1, .inr (.inl yo))) :: R)) := hD
  refine lv_i2l (v := ((yl k)).toInt64) hx hb dL_lesson_8 rfl ?_
  refine va_last hx hb hK hP hD hS 21 1 rfl rfl (vp_in_nI (n := 0) (N := 1) (by omega) (by omega)) dL_lesson_9 (fun H locs hP hD hS => ?_)
  rw [pk_cl (x := (0 : Int32)) 0 (rfl) (by omega)] at hP hD
  have hP : va_P D vwCl (zWT cI cJ h (n, L) (kt, km, kl) (pt, pm, pl) (nu, le, ow, fo, run, wc, lc, tr, cl, tm, ms) (yl, yc, yt, co, pa, su, sc) mc ++ ((oa, .inl (cJ, 1, .inr (.inl (vp_updL yo 0 (((yl k)).toInt64))))) :: R)) _ := hP
  have hD : va_D (zAb B) (zWT cI cJ h (n, L) (kt, km, kl) (pt, pm, pl) (nu, le, ow, fo, run, wc, lc, tr, cl, tm, ms) (yl, yc, yt, co, pa, su, sc) mc ++ ((oa, .inl (cJ, 1, .inr (.inl (vp_updL yo 0 (((yl k)).toInt64))))) :: R)) := hD
  refine lv_goto (tgt := 17) hx hb dL_lesson_10 (by decide) ?_
  refine lv_iconst (v := 0) hx hb dL_lesson_17 (by decide) ?_
  exact W.iret (v := 0) hx hb hr (fun t ht hW => ⟨⟨_, (), rfl, rfl, by rw [ht]; exact hP, hD⟩, hS.F ht⟩) hS.2.2 dL_lesson_18

set_option maxHeartbeats 1000000 in
set_option maxRecDepth 100000 in
theorem c_L_lesson_1 {l : Launch} {B kr kp : Nat} {D : va_G} {cI cJ cZ : ClassId} {h : Nat → Nat} {R : va_W} {n : Nat} {L : Nat → Int64} {kt : Nat → Int32} {km : Nat → Int32} {kl : Nat → Int32} {pt : Nat → Int32} {pm : Nat → Int32} {pl : Nat → Int32} {nu : Nat → Int32} {le : Nat → Int32} {ow : Nat → Int32} {fo : Nat → Int32} {run : Bool} {wc : Nat} {lc : Nat} {tr : Nat} {cl : Nat} {tm : Nat} {ms : Nat} {yl : Nat → Int32} {yc : Nat → Int32} {yt : Nat → Int32} {co : Nat} {pa : Int32} {su : Nat} {sc : Nat} {mc : Nat → Int32} {oa : Nat} {yo : Nat → Int64} {k : Nat}   (hk : k < co) (hco : co ≤ 256) : Met l yL_lesson wsL_lesson ({ frames := 3, cells := 0, slots := 0, locals := 65 }) (zPc B kr kp D (zTy cI cJ cZ) (zWT cI cJ h (n, L) (kt, km, kl) (pt, pm, pl) (nu, le, ow, fo, run, wc, lc, tr, cl, tm, ms) (yl, yc, yt, co, pa, su, sc) mc ++ ((oa, .inl (cJ, 1, .inr (.inl yo))) :: R)) [.ref (h 0), .int (nI k), .int 1, .ref oa]) (zQi B D (zWT cI cJ h (n, L) (kt, km, kl) (pt, pm, pl) (nu, le, ow, fo, run, wc, lc, tr, cl, tm, ms) (yl, yc, yt, co, pa, su, sc) mc ++ ((oa, .inl (cJ, 1, .inr (.inl (vp_updL yo 0 (((yc k)).toInt64))))) :: R)) 0) 0 0 (zAb B) := by
  refine va_MetW (cc := cL_lesson) (maxL := 5) (ret := (some .int)) (by decide) rfl ?_
  intro p e s m args below meth c s₁ B0 hml hv
  obtain ⟨rfl, hP, hD, hK, hE, hB⟩ := hv
  have hx := B0.exec
  have hb := B0.bytes
  have hr := B0.returns
  have hts := atoms_spec (ws := wsL_lesson) B0.pre
  have hown : s.vm.findClass RL = some m.cls := findClass_of_methodNamed B0.named
  have hlocks := B0.notSynchronized
  have hA : ∀ q : Nat, s.heap.size ≤ q → zAb B q := fun q hq => Nat.le_trans hB hq
  have hS : va_S (zAb B) s.heap s.heap [] := va_S.rf
  have hgr : s.heap.size ≤ s.heap.size := Nat.le_refl _
  have hl := lv_entry ([.ref (h 0), .int (nI k), .int 1, .ref oa]) (n := 5) (Nat.le_of_ble_eq_true rfl)
  rw [lg_entry_eq]
  generalize (lg_sl ([.ref (h 0), .int (nI k), .int 1, .ref oa]) ++ List.replicate (5 - (lg_sl ([.ref (h 0), .int (nI k), .int 1, .ref oa])).length) Slot.unset).toArray = ls at hl ⊢
  have hl : lv_has ls 5 [(0, .ref (h 0)), (1, .int (nI k)), (2, .int 1), (3, .ref oa)] := hl
  have htab : c.exceptionTable.toList = tableOf [(0, 10, 13, 21)] := vx_table (x := yL_lesson) B0 (hts _ List.mem_cons_self)
  have hP : va_P D vwCl (zWT cI cJ h (n, L) (kt, km, kl) (pt, pm, pl) (nu, le, ow, fo, run, wc, lc, tr, cl, tm, ms) (yl, yc, yt, co, pa, su, sc) mc ++ ((oa, .inl (cJ, 1, .inr (.inl yo))) :: R)) s.heap := hP
  have hD : va_D (zAb B) (zWT cI cJ h (n, L) (kt, km, kl) (pt, pm, pl) (nu, le, ow, fo, run, wc, lc, tr, cl, tm, ms) (yl, yc, yt, co, pa, su, sc) mc ++ ((oa, .inl (cJ, 1, .inr (.inl yo))) :: R)) := hD
  refine lv_aload_n hx hb dL_lesson_0 rfl (lv_at hl 3 rfl) ?_
  refine lv_iconst (v := 0) hx hb dL_lesson_1 (by decide) ?_
  refine lv_aload_n hx hb dL_lesson_2 rfl (lv_at hl 0 rfl) ?_
  refine lv_iload_n hx hb dL_lesson_3 rfl (lv_at hl 1 rfl) ?_
  refine lv_iload_n hx hb dL_lesson_4 rfl (lv_at hl 2 rfl) ?_
  refine zci (zrV (As := [.int (nI k), .int 1]) (rest := [.int 0, .ref oa]) ⟨hx, hb, hml, hown, hts⟩ (zV 0 hP hD hK hE hB hS rfl rfl) (c_X4_lesson_1 (k := k) (hk) (hco)) (cwV 2 hts gL_lesson_X4_lesson rfl rfl rfl hdv_X4_lesson ⟨Nat.le_of_ble_eq_true rfl, Nat.le_of_ble_eq_true rfl⟩) rfl rfl hl.1 rfl (lv_room (Nat.le_of_ble_eq_true rfl)) dL_lesson_5 ⟨Nat.le_of_ble_eq_true rfl, Nat.le_of_ble_eq_true rfl⟩) hS (fun H locs hP hD hS => ?_)
  have hP : va_P D vwCl (zWT cI cJ h (n, L) (kt, km, kl) (pt, pm, pl) (nu, le, ow, fo, run, wc, lc, tr, cl, tm, ms) (yl, yc, yt, co, pa, su, sc) mc ++ ((oa, .inl (cJ, 1, .inr (.inl yo))) :: R)) _ := hP
  have hD : va_D (zAb B) (zWT cI cJ h (n, L) (kt, km, kl) (pt, pm, pl) (nu, le, ow, fo, run, wc, lc, tr, cl, tm, ms) (yl, yc, yt, co, pa, su, sc) mc ++ ((oa, .inl (cJ, 1, .inr (.inl yo))) :: R)) := hD
  refine lv_i2l (v := ((yc k)).toInt64) hx hb dL_lesson_8 rfl ?_
  refine va_last hx hb hK hP hD hS 21 1 rfl rfl (vp_in_nI (n := 0) (N := 1) (by omega) (by omega)) dL_lesson_9 (fun H locs hP hD hS => ?_)
  rw [pk_cl (x := (0 : Int32)) 0 (rfl) (by omega)] at hP hD
  have hP : va_P D vwCl (zWT cI cJ h (n, L) (kt, km, kl) (pt, pm, pl) (nu, le, ow, fo, run, wc, lc, tr, cl, tm, ms) (yl, yc, yt, co, pa, su, sc) mc ++ ((oa, .inl (cJ, 1, .inr (.inl (vp_updL yo 0 (((yc k)).toInt64))))) :: R)) _ := hP
  have hD : va_D (zAb B) (zWT cI cJ h (n, L) (kt, km, kl) (pt, pm, pl) (nu, le, ow, fo, run, wc, lc, tr, cl, tm, ms) (yl, yc, yt, co, pa, su, sc) mc ++ ((oa, .inl (cJ, 1, .inr (.inl (vp_updL yo 0 (((yc k)).toInt64))))) :: R)) := hD
  refine lv_goto (tgt := 17) hx hb dL_lesson_10 (by decide) ?_
  refine lv_iconst (v := 0) hx hb dL_lesson_17 (by decide) ?_
  exact W.iret (v := 0) hx hb hr (fun t ht hW => ⟨⟨_, (), rfl, rfl, by rw [ht]; exact hP, hD⟩, hS.F ht⟩) hS.2.2 dL_lesson_18

set_option maxHeartbeats 1000000 in
set_option maxRecDepth 100000 in
theorem c_L_lesson_2 {l : Launch} {B kr kp : Nat} {D : va_G} {cI cJ cZ : ClassId} {h : Nat → Nat} {R : va_W} {n : Nat} {L : Nat → Int64} {kt : Nat → Int32} {km : Nat → Int32} {kl : Nat → Int32} {pt : Nat → Int32} {pm : Nat → Int32} {pl : Nat → Int32} {nu : Nat → Int32} {le : Nat → Int32} {ow : Nat → Int32} {fo : Nat → Int32} {run : Bool} {wc : Nat} {lc : Nat} {tr : Nat} {cl : Nat} {tm : Nat} {ms : Nat} {yl : Nat → Int32} {yc : Nat → Int32} {yt : Nat → Int32} {co : Nat} {pa : Int32} {su : Nat} {sc : Nat} {mc : Nat → Int32} {oa : Nat} {yo : Nat → Int64} {k : Nat}   (hk : k < co) (hco : co ≤ 256) : Met l yL_lesson wsL_lesson ({ frames := 3, cells := 0, slots := 0, locals := 65 }) (zPc B kr kp D (zTy cI cJ cZ) (zWT cI cJ h (n, L) (kt, km, kl) (pt, pm, pl) (nu, le, ow, fo, run, wc, lc, tr, cl, tm, ms) (yl, yc, yt, co, pa, su, sc) mc ++ ((oa, .inl (cJ, 1, .inr (.inl yo))) :: R)) [.ref (h 0), .int (nI k), .int 2, .ref oa]) (zQi B D (zWT cI cJ h (n, L) (kt, km, kl) (pt, pm, pl) (nu, le, ow, fo, run, wc, lc, tr, cl, tm, ms) (yl, yc, yt, co, pa, su, sc) mc ++ ((oa, .inl (cJ, 1, .inr (.inl (vp_updL yo 0 (((yt k)).toInt64))))) :: R)) 0) 0 0 (zAb B) := by
  refine va_MetW (cc := cL_lesson) (maxL := 5) (ret := (some .int)) (by decide) rfl ?_
  intro p e s m args below meth c s₁ B0 hml hv
  obtain ⟨rfl, hP, hD, hK, hE, hB⟩ := hv
  have hx := B0.exec
  have hb := B0.bytes
  have hr := B0.returns
  have hts := atoms_spec (ws := wsL_lesson) B0.pre
  have hown : s.vm.findClass RL = some m.cls := findClass_of_methodNamed B0.named
  have hlocks := B0.notSynchronized
  have hA : ∀ q : Nat, s.heap.size ≤ q → zAb B q := fun q hq => Nat.le_trans hB hq
  have hS : va_S (zAb B) s.heap s.heap [] := va_S.rf
  have hgr : s.heap.size ≤ s.heap.size := Nat.le_refl _
  have hl := lv_entry ([.ref (h 0), .int (nI k), .int 2, .ref oa]) (n := 5) (Nat.le_of_ble_eq_true rfl)
  rw [lg_entry_eq]
  generalize (lg_sl ([.ref (h 0), .int (nI k), .int 2, .ref oa]) ++ List.replicate (5 - (lg_sl ([.ref (h 0), .int (nI k), .int 2, .ref oa])).length) Slot.unset).toArray = ls at hl ⊢
  have hl : lv_has ls 5 [(0, .ref (h 0)), (1, .int (nI k)), (2, .int 2), (3, .ref oa)] := hl
  have htab : c.exceptionTable.toList = tableOf [(0, 10, 13, 21)] := vx_table (x := yL_lesson) B0 (hts _ List.mem_cons_self)
  have hP : va_P D vwCl (zWT cI cJ h (n, L) (kt, km, kl) (pt, pm, pl) (nu, le, ow, fo, run, wc, lc, tr, cl, tm, ms) (yl, yc, yt, co, pa, su, sc) mc ++ ((oa, .inl (cJ, 1, .inr (.inl yo))) :: R)) s.heap := hP
  have hD : va_D (zAb B) (zWT cI cJ h (n, L) (kt, km, kl) (pt, pm, pl) (nu, le, ow, fo, run, wc, lc, tr, cl, tm, ms) (yl, yc, yt, co, pa, su, sc) mc ++ ((oa, .inl (cJ, 1, .inr (.inl yo))) :: R)) := hD
  refine lv_aload_n hx hb dL_lesson_0 rfl (lv_at hl 3 rfl) ?_
  refine lv_iconst (v := 0) hx hb dL_lesson_1 (by decide) ?_
  refine lv_aload_n hx hb dL_lesson_2 rfl (lv_at hl 0 rfl) ?_
  refine lv_iload_n hx hb dL_lesson_3 rfl (lv_at hl 1 rfl) ?_
  refine lv_iload_n hx hb dL_lesson_4 rfl (lv_at hl 2 rfl) ?_
  refine zci (zrV (As := [.int (nI k), .int 2]) (rest := [.int 0, .ref oa]) ⟨hx, hb, hml, hown, hts⟩ (zV 0 hP hD hK hE hB hS rfl rfl) (c_X4_lesson_2 (k := k) (hk) (hco)) (cwV 2 hts gL_lesson_X4_lesson rfl rfl rfl hdv_X4_lesson ⟨Nat.le_of_ble_eq_true rfl, Nat.le_of_ble_eq_true rfl⟩) rfl rfl hl.1 rfl (lv_room (Nat.le_of_ble_eq_true rfl)) dL_lesson_5 ⟨Nat.le_of_ble_eq_true rfl, Nat.le_of_ble_eq_true rfl⟩) hS (fun H locs hP hD hS => ?_)
  have hP : va_P D vwCl (zWT cI cJ h (n, L) (kt, km, kl) (pt, pm, pl) (nu, le, ow, fo, run, wc, lc, tr, cl, tm, ms) (yl, yc, yt, co, pa, su, sc) mc ++ ((oa, .inl (cJ, 1, .inr (.inl yo))) :: R)) _ := hP
  have hD : va_D (zAb B) (zWT cI cJ h (n, L) (kt, km, kl) (pt, pm, pl) (nu, le, ow, fo, run, wc, lc, tr, cl, tm, ms) (yl, yc, yt, co, pa, su, sc) mc ++ ((oa, .inl (cJ, 1, .inr (.inl yo))) :: R)) := hD
  refine lv_i2l (v := ((yt k)).toInt64) hx hb dL_lesson_8 rfl ?_
  refine va_last hx hb hK hP hD hS 21 1 rfl rfl (vp_in_nI (n := 0) (N := 1) (by omega) (by omega)) dL_lesson_9 (fun H locs hP hD hS => ?_)
  rw [pk_cl (x := (0 : Int32)) 0 (rfl) (by omega)] at hP hD
  have hP : va_P D vwCl (zWT cI cJ h (n, L) (kt, km, kl) (pt, pm, pl) (nu, le, ow, fo, run, wc, lc, tr, cl, tm, ms) (yl, yc, yt, co, pa, su, sc) mc ++ ((oa, .inl (cJ, 1, .inr (.inl (vp_updL yo 0 (((yt k)).toInt64))))) :: R)) _ := hP
  have hD : va_D (zAb B) (zWT cI cJ h (n, L) (kt, km, kl) (pt, pm, pl) (nu, le, ow, fo, run, wc, lc, tr, cl, tm, ms) (yl, yc, yt, co, pa, su, sc) mc ++ ((oa, .inl (cJ, 1, .inr (.inl (vp_updL yo 0 (((yt k)).toInt64))))) :: R)) := hD
  refine lv_goto (tgt := 17) hx hb dL_lesson_10 (by decide) ?_
  refine lv_iconst (v := 0) hx hb dL_lesson_17 (by decide) ?_
  exact W.iret (v := 0) hx hb hr (fun t ht hW => ⟨⟨_, (), rfl, rfl, by rw [ht]; exact hP, hD⟩, hS.F ht⟩) hS.2.2 dL_lesson_18

set_option maxHeartbeats 1000000 in
set_option maxRecDepth 100000 in
theorem c_L_lesson_3 {l : Launch} {B kr kp : Nat} {D : va_G} {cI cJ cZ : ClassId} {h : Nat → Nat} {R : va_W} {n : Nat} {L : Nat → Int64} {kt : Nat → Int32} {km : Nat → Int32} {kl : Nat → Int32} {pt : Nat → Int32} {pm : Nat → Int32} {pl : Nat → Int32} {nu : Nat → Int32} {le : Nat → Int32} {ow : Nat → Int32} {fo : Nat → Int32} {run : Bool} {wc : Nat} {lc : Nat} {tr : Nat} {cl : Nat} {tm : Nat} {ms : Nat} {yl : Nat → Int32} {yc : Nat → Int32} {yt : Nat → Int32} {co : Nat} {pa : Int32} {su : Nat} {sc : Nat} {mc : Nat → Int32} {oa : Nat} {yo : Nat → Int64} {k : Nat}   (hk : k < co) (hco : co ≤ 256) : Met l yL_lesson wsL_lesson ({ frames := 4, cells := 0, slots := 0, locals := 87 }) (zPc B kr kp D (zTy cI cJ cZ) (zWT cI cJ h (n, L) (kt, km, kl) (pt, pm, pl) (nu, le, ow, fo, run, wc, lc, tr, cl, tm, ms) (yl, yc, yt, co, pa, su, sc) mc ++ ((oa, .inl (cJ, 1, .inr (.inl yo))) :: R)) [.ref (h 0), .int (nI k), .int 3, .ref oa]) (zQi B D (zWT cI cJ h (n, L) (kt, km, kl) (pt, pm, pl) (nu, le, ow, fo, run, wc, lc, tr, cl, tm, ms) (yl, yc, yt, co, pa, su, sc) mc ++ ((oa, .inl (cJ, 1, .inr (.inl (vp_updL yo 0 (((zsp yl yt k)).toInt64))))) :: R)) 0) 0 0 (zAb B) := by
  refine va_MetW (cc := cL_lesson) (maxL := 5) (ret := (some .int)) (by decide) rfl ?_
  intro p e s m args below meth c s₁ B0 hml hv
  obtain ⟨rfl, hP, hD, hK, hE, hB⟩ := hv
  have hx := B0.exec
  have hb := B0.bytes
  have hr := B0.returns
  have hts := atoms_spec (ws := wsL_lesson) B0.pre
  have hown : s.vm.findClass RL = some m.cls := findClass_of_methodNamed B0.named
  have hlocks := B0.notSynchronized
  have hA : ∀ q : Nat, s.heap.size ≤ q → zAb B q := fun q hq => Nat.le_trans hB hq
  have hS : va_S (zAb B) s.heap s.heap [] := va_S.rf
  have hgr : s.heap.size ≤ s.heap.size := Nat.le_refl _
  have hl := lv_entry ([.ref (h 0), .int (nI k), .int 3, .ref oa]) (n := 5) (Nat.le_of_ble_eq_true rfl)
  rw [lg_entry_eq]
  generalize (lg_sl ([.ref (h 0), .int (nI k), .int 3, .ref oa]) ++ List.replicate (5 - (lg_sl ([.ref (h 0), .int (nI k), .int 3, .ref oa])).length) Slot.unset).toArray = ls at hl ⊢
  have hl : lv_has ls 5 [(0, .ref (h 0)), (1, .int (nI k)), (2, .int 3), (3, .ref oa)] := hl
  have htab : c.exceptionTable.toList = tableOf [(0, 10, 13, 21)] := vx_table (x := yL_lesson) B0 (hts _ List.mem_cons_self)
  have hP : va_P D vwCl (zWT cI cJ h (n, L) (kt, km, kl) (pt, pm, pl) (nu, le, ow, fo, run, wc, lc, tr, cl, tm, ms) (yl, yc, yt, co, pa, su, sc) mc ++ ((oa, .inl (cJ, 1, .inr (.inl yo))) :: R)) s.heap := hP
  have hD : va_D (zAb B) (zWT cI cJ h (n, L) (kt, km, kl) (pt, pm, pl) (nu, le, ow, fo, run, wc, lc, tr, cl, tm, ms) (yl, yc, yt, co, pa, su, sc) mc ++ ((oa, .inl (cJ, 1, .inr (.inl yo))) :: R)) := hD
  refine lv_aload_n hx hb dL_lesson_0 rfl (lv_at hl 3 rfl) ?_
  refine lv_iconst (v := 0) hx hb dL_lesson_1 (by decide) ?_
  refine lv_aload_n hx hb dL_lesson_2 rfl (lv_at hl 0 rfl) ?_
  refine lv_iload_n hx hb dL_lesson_3 rfl (lv_at hl 1 rfl) ?_
  refine lv_iload_n hx hb dL_lesson_4 rfl (lv_at hl 2 rfl) ?_
  refine zci (zrV (As := [.int (nI k), .int 3]) (rest := [.int 0, .ref oa]) ⟨hx, hb, hml, hown, hts⟩ (zV 0 hP hD hK hE hB hS rfl rfl) (c_X4_lesson_3 (k := k) (hk) (hco)) (cwV 2 hts gL_lesson_X4_lesson rfl rfl rfl hdv_X4_lesson ⟨Nat.le_of_ble_eq_true rfl, Nat.le_of_ble_eq_true rfl⟩) rfl rfl hl.1 rfl (lv_room (Nat.le_of_ble_eq_true rfl)) dL_lesson_5 ⟨Nat.le_of_ble_eq_true rfl, Nat.le_of_ble_eq_true rfl⟩) hS (fun H locs hP hD hS => ?_)
  have hP : va_P D vwCl (zWT cI cJ h (n, L) (kt, km, kl) (pt, pm, pl) (nu, le, ow, fo, run, wc, lc, tr, cl, tm, ms) (yl, yc, yt, co, pa, su, sc) mc ++ ((oa, .inl (cJ, 1, .inr (.inl yo))) :: R)) _ := hP
  have hD : va_D (zAb B) (zWT cI cJ h (n, L) (kt, km, kl) (pt, pm, pl) (nu, le, ow, fo, run, wc, lc, tr, cl, tm, ms) (yl, yc, yt, co, pa, su, sc) mc ++ ((oa, .inl (cJ, 1, .inr (.inl yo))) :: R)) := hD
  refine lv_i2l (v := ((zsp yl yt k)).toInt64) hx hb dL_lesson_8 rfl ?_
  refine va_last hx hb hK hP hD hS 21 1 rfl rfl (vp_in_nI (n := 0) (N := 1) (by omega) (by omega)) dL_lesson_9 (fun H locs hP hD hS => ?_)
  rw [pk_cl (x := (0 : Int32)) 0 (rfl) (by omega)] at hP hD
  have hP : va_P D vwCl (zWT cI cJ h (n, L) (kt, km, kl) (pt, pm, pl) (nu, le, ow, fo, run, wc, lc, tr, cl, tm, ms) (yl, yc, yt, co, pa, su, sc) mc ++ ((oa, .inl (cJ, 1, .inr (.inl (vp_updL yo 0 (((zsp yl yt k)).toInt64))))) :: R)) _ := hP
  have hD : va_D (zAb B) (zWT cI cJ h (n, L) (kt, km, kl) (pt, pm, pl) (nu, le, ow, fo, run, wc, lc, tr, cl, tm, ms) (yl, yc, yt, co, pa, su, sc) mc ++ ((oa, .inl (cJ, 1, .inr (.inl (vp_updL yo 0 (((zsp yl yt k)).toInt64))))) :: R)) := hD
  refine lv_goto (tgt := 17) hx hb dL_lesson_10 (by decide) ?_
  refine lv_iconst (v := 0) hx hb dL_lesson_17 (by decide) ?_
  exact W.iret (v := 0) hx hb hr (fun t ht hW => ⟨⟨_, (), rfl, rfl, by rw [ht]; exact hP, hD⟩, hS.F ht⟩) hS.2.2 dL_lesson_18

set_option maxHeartbeats 1000000 in
set_option maxRecDepth 100000 in
theorem c_L_lesson_x {l : Launch} {B kr kp : Nat} {D : va_G} {cI cJ cZ : ClassId} {h : Nat → Nat} {R : va_W} {n : Nat} {L : Nat → Int64} {kt : Nat → Int32} {km : Nat → Int32} {kl : Nat → Int32} {pt : Nat → Int32} {pm : Nat → Int32} {pl : Nat → Int32} {nu : Nat → Int32} {le : Nat → Int32} {ow : Nat → Int32} {fo : Nat → Int32} {run : Bool} {wc : Nat} {lc : Nat} {tr : Nat} {cl : Nat} {tm : Nat} {ms : Nat} {yl : Nat → Int32} {yc : Nat → Int32} {yt : Nat → Int32} {co : Nat} {pa : Int32} {su : Nat} {sc : Nat} {mc : Nat → Int32} {oa : Nat} {yo : Nat → Int64} {i : Int32} {j : Int32}   (hls : l.stackTraces = false) (h1 : ¬ (¬ i < 0 ∧ ¬ nI co ≤ i ∧ ¬ j < 0 ∧ j ≤ 3)) : Met l yL_lesson wsL_lesson ({ frames := 7, cells := 1, slots := 6, locals := 104 }) (zPc B kr kp D (zTy cI cJ cZ) (zWT cI cJ h (n, L) (kt, km, kl) (pt, pm, pl) (nu, le, ow, fo, run, wc, lc, tr, cl, tm, ms) (yl, yc, yt, co, pa, su, sc) mc ++ ((oa, .inl (cJ, 1, .inr (.inl yo))) :: R)) [.ref (h 0), .int i, .int j, .ref oa]) (zQi B D (zWT cI cJ h (n, L) (kt, km, kl) (pt, pm, pl) (nu, le, ow, fo, run, wc, lc, tr, cl, tm, ms) (yl, yc, yt, co, pa, su, sc) mc ++ ((oa, .inl (cJ, 1, .inr (.inl yo))) :: R)) 1) 1 6 (zAb B) := by
  refine va_MetW (cc := cL_lesson) (maxL := 5) (ret := (some .int)) (by decide) rfl ?_
  intro p e s m args below meth c s₁ B0 hml hv
  obtain ⟨rfl, hP, hD, hK, hE, hB⟩ := hv
  have hx := B0.exec
  have hb := B0.bytes
  have hr := B0.returns
  have hts := atoms_spec (ws := wsL_lesson) B0.pre
  have hown : s.vm.findClass RL = some m.cls := findClass_of_methodNamed B0.named
  have hlocks := B0.notSynchronized
  have hA : ∀ q : Nat, s.heap.size ≤ q → zAb B q := fun q hq => Nat.le_trans hB hq
  have hS : va_S (zAb B) s.heap s.heap [] := va_S.rf
  have hgr : s.heap.size ≤ s.heap.size := Nat.le_refl _
  have hl := lv_entry ([.ref (h 0), .int i, .int j, .ref oa]) (n := 5) (Nat.le_of_ble_eq_true rfl)
  rw [lg_entry_eq]
  generalize (lg_sl ([.ref (h 0), .int i, .int j, .ref oa]) ++ List.replicate (5 - (lg_sl ([.ref (h 0), .int i, .int j, .ref oa])).length) Slot.unset).toArray = ls at hl ⊢
  have hl : lv_has ls 5 [(0, .ref (h 0)), (1, .int i), (2, .int j), (3, .ref oa)] := hl
  have htab : c.exceptionTable.toList = tableOf [(0, 10, 13, 21)] := vx_table (x := yL_lesson) B0 (hts _ List.mem_cons_self)
  have hP : va_P D vwCl (zWT cI cJ h (n, L) (kt, km, kl) (pt, pm, pl) (nu, le, ow, fo, run, wc, lc, tr, cl, tm, ms) (yl, yc, yt, co, pa, su, sc) mc ++ ((oa, .inl (cJ, 1, .inr (.inl yo))) :: R)) s.heap := hP
  have hD : va_D (zAb B) (zWT cI cJ h (n, L) (kt, km, kl) (pt, pm, pl) (nu, le, ow, fo, run, wc, lc, tr, cl, tm, ms) (yl, yc, yt, co, pa, su, sc) mc ++ ((oa, .inl (cJ, 1, .inr (.inl yo))) :: R)) := hD
  refine lv_aload_n hx hb dL_lesson_0 rfl (lv_at hl 3 rfl) ?_
  refine lv_iconst (v := 0) hx hb dL_lesson_1 (by decide) ?_
  refine lv_aload_n hx hb dL_lesson_2 rfl (lv_at hl 0 rfl) ?_
  refine lv_iload_n hx hb dL_lesson_3 rfl (lv_at hl 1 rfl) ?_
  refine lv_iload_n hx hb dL_lesson_4 rfl (lv_at hl 2 rfl) ?_
  refine vx_calli (vx_runV (As := [.int i, .int j]) (rest := [.int 0, .ref oa]) ⟨hx, hb, hml, hown, hts⟩ (c_X4_lesson_x hls   h1) (cwV 2 hts gL_lesson_X4_lesson rfl rfl rfl hdv_X4_lesson ⟨Nat.le_of_ble_eq_true rfl, Nat.le_of_ble_eq_true rfl⟩) (zV 0 hP hD hK hE hB hS rfl rfl) rfl rfl hl.1 rfl (lv_room (Nat.le_of_ble_eq_true rfl)) dL_lesson_5 ⟨Nat.le_of_ble_eq_true rfl, Nat.le_of_ble_eq_true rfl⟩) hS (fun _ _ h => h) (fun _ h => h) (fun _ _ h => h) (fun E ce q9 u t H locs ht hal hpx hbx hsz hkp hS hce hcv hcl => ?_) (fun r u t H locs ht hal hpo hbo hsz hkp hS => hpo.elim)
  obtain ⟨rfl, hP, hD⟩ := hbx
  rw [ht] at hP
  refine vx_catch (name := "java/lang/IndexOutOfBoundsException") hown [] ⟨0, 10, 13, 21⟩ [] htab (fun _ h9 => absurd h9 List.not_mem_nil) (by decide) (by decide) (hts (.classLink RL 21 "java/lang/IndexOutOfBoundsException") (List.mem_of_getElem? (i := 1) rfl)) (va_tabs rfl rfl (hE.2.1.1 "java/lang/IndexOutOfBoundsException" (by decide +kernel))) hce hcv hcl ?_
  have hP : va_P D vwCl (zWT cI cJ h (n, L) (kt, km, kl) (pt, pm, pl) (nu, le, ow, fo, run, wc, lc, tr, cl, tm, ms) (yl, yc, yt, co, pa, su, sc) mc ++ ((oa, .inl (cJ, 1, .inr (.inl yo))) :: R)) _ := hP
  have hD : va_D (zAb B) (zWT cI cJ h (n, L) (kt, km, kl) (pt, pm, pl) (nu, le, ow, fo, run, wc, lc, tr, cl, tm, ms) (yl, yc, yt, co, pa, su, sc) mc ++ ((oa, .inl (cJ, 1, .inr (.inl yo))) :: R)) := hD
  refine lv_astore (lv' := [(4, .ref q9), (0, .ref (h 0)), (1, .int i), (2, .int j), (3, .ref oa)]) hx hb dL_lesson_13 hl (by decide) rfl (fun ls hl => ?_)
  refine lv_iconst (v := 1) hx hb dL_lesson_15 (by decide) ?_
  exact W.iret (v := 1) hx hb hr (fun t ht hW => ⟨⟨_, (), rfl, rfl, by rw [ht]; exact hP, hD⟩, hS.F ht⟩) hS.2.2 dL_lesson_16
