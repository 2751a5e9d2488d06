set_option maxHeartbeats 1000000 in
set_option maxRecDepth 100000 in
theorem law_strike_w1 {p : Program} {l : Launch} {e : Env} {s : State} {m : MethodId} {below : List Frame} {meth : Method} {c : Code} {b L9 : Nat} {xs : Nat → Int32} {D : va_G} {cI cJ cZ : ClassId} {kr kp j cc ss : Nat} {h h2 : Nat → Nat} {oa : Nat} {yo : Nat → Int64} {th : Int32} {n : Nat} {L : Nat → Int64} {kt : Nat → Int32} {km : Nat → Int32} {kl : Nat → Int32} {pt : Nat → Int32} {pm : Nat → Int32} {pl : Nat → Int32} {nu : Nat → Int32} {le : Nat → Int32} {ow : Nat → Int32} {fo : Nat → Int32} {run : Bool} {wc : Nat} {lc : Nat} {tr : Nat} {cl : Nat} {tm : Nat} {ms : Nat} {yl : Nat → Int32} {yc : Nat → Int32} {yt : Nat → Int32} {co : Nat} {pa : Int32} {su : Nat} {sc : Nat} {mc : Nat → Int32} {af : Nat → Int32} {yn : Nat} {yh : Nat → Int32} {x : Nat} {kk : Nat} {ky : Nat} {tt : Nat} (C : zLw p l s m meth c b L9 xs D cI cJ cZ kr kp) (hj : 4 * j + 4 ≤ L9) (hcc : cc + 2 ≤ 601024) (hss : ss + 1542 ≤ 7293034) (kont : zKt p l e s m below meth c b D cI cJ cZ j cc ss) (hI : zInv j n L pt le ow af true wc lc tr cl tm ms yl yc yt co yn su sc yh) (ea1 : xs (4 * j + 1) = nI ky) (ea2 : xs (4 * j + 2) = nI tt) (hky : ky < 26) (ht1 : 1 ≤ tt) (ht2 : tt ≤ 5000) (hx9 : le tr = nI x) (hx26 : x < 26) (hms : ms = 0) (hkk : zkd (nI ky) le ow lc tr = nI kk) (hk1 : 1 ≤ kk) (hk4 : kk ≤ 4) {H : Heap} {locs : List Loc} {ls : Array Slot} (hP : va_P D vwCl ((zWT cI cJ h (n, L) (kt, km, kl) (pt, pm, pl) (nu, le, ow, fo, true, wc, lc, tr, cl, tm, ms) (yl, yc, yt, co, pa, su, sc) mc) ++ ((oa, .inl (cJ, 1, .inr (.inl yo))) :: (zWM cI cJ cZ h2 th (n, L) ((zcb kt pt), (zcb km pm), (zcb kl pl)) mc (true, wc, nu, lc, le, af, tr, ms, cl, tm) (co, yn, yh, pa)))) H) (hD : va_D (zAb s.heap.size) ((zWT cI cJ h (n, L) (kt, km, kl) (pt, pm, pl) (nu, le, ow, fo, true, wc, lc, tr, cl, tm, ms) (yl, yc, yt, co, pa, su, sc) mc) ++ ((oa, .inl (cJ, 1, .inr (.inl yo))) :: (zWM cI cJ cZ h2 th (n, L) ((zcb kt pt), (zcb km pm), (zcb kl pl)) mc (true, wc, nu, lc, le, af, tr, ms, cl, tm) (co, yn, yh, pa))))) (hS : va_S (zAb s.heap.size) s.heap H locs) (hl : lv_has ls 9 [(0, .ref b), (1, .ref (h 0)), (2, .ref (h2 0)), (3, .ref oa), (4, .int (nI (4 * j)))]) : W p l e room_1 s m #[Value.ref b] below meth c H locs cc ss (lw_Z below #[Value.ref b] s) (F0 m 744 ls []) := by
  obtain ⟨C0, hls, hK, hE, hL9⟩ := C
  obtain ⟨hx, hb, hr, hml, hown, hts0, hX, hbl, hlocks, hgv⟩ := C0
  have hts : ∀ w ∈ wsL_law, w.before #[Value.ref b] s = true := fun w h => hts0 w (wsL_law_in w h)
  have hbA : ¬ zAb s.heap.size b := Nat.not_le.mpr hbl
  have hB : s.heap.size ≤ s.heap.size := Nat.le_refl _
  have hn40 := hI.1.1
  have hzk := hI.1.2
  obtain ⟨hwc6, hlc48, htrl, hclt, hms1⟩ := hI.2.1
  have hrt := hI.2.2.1
  have hle := hI.2.2.2.1
  have hMk := hI.2.2.2.2.1
  have hct := hI.2.2.2.2.2.1
  have hHi := hI.2.2.2.2.2.2.1
  have hsu := hI.2.2.2.2.2.2.2.2.1
  have hj5 : j ≤ 511 := by omega
  have hco : co < 256 := by have := hct.1; omega
  have hco6 : co ≤ 256 := Nat.le_of_lt hco
  have hsl : su < 2147483648 := by have := hsu.2.2; omega
  have hpt := hI.hpt (Nat.le_succ_of_le hj5)
  have htr : tr < lc := hrt rfl
  have h2ms : ms ≤ 2 := by omega
  have hyn := hHi.2.2.1
  have hy12 := hHi.2.2.2.1
  refine lv_aload_n hx hb dL_law_744 rfl (lv_at hl 1 rfl) ?_
  refine lv_aload_n hx hb dL_law_745 rfl (lv_at hl 0 rfl) ?_
  refine lv_iload hx hb dL_law_746 (lv_at hl 4 rfl) ?_
  refine lv_iconst (v := 1) hx hb dL_law_748 (by decide) ?_
  refine lv_iadd hx hb dL_law_749 ?_
  refine lv_topi (fun v_1 ev_1 => ?_)
  obtain rfl : v_1 = (nI ((4 * j) + 1)) := ev_1.trans (nI_add (4 * j) 1)
  refine va_sld hx hb hX hbl hbA hS (vp_in_nI (n := ((4 * j) + 1)) (N := L9) (by omega) (by omega)) dL_law_750 ?_
  refine lv_topi (fun v_2 ev_2 => ?_)
  obtain rfl : (nI ky) = v_2 := (ev_2.trans ((congrArg xs (nI_clamp (by omega))).trans ea1)).symm
  refine lv_aload_n hx hb dL_law_751 rfl (lv_at hl 0 rfl) ?_
  refine lv_iload hx hb dL_law_752 (lv_at hl 4 rfl) ?_
  refine lv_iconst (v := 2) hx hb dL_law_754 (by decide) ?_
  refine lv_iadd hx hb dL_law_755 ?_
  refine lv_topi (fun v_3 ev_3 => ?_)
  obtain rfl : v_3 = (nI ((4 * j) + 2)) := ev_3.trans (nI_add (4 * j) 2)
  refine va_sld hx hb hX hbl hbA hS (vp_in_nI (n := ((4 * j) + 2)) (N := L9) (by omega) (by omega)) dL_law_756 ?_
  refine lv_topi (fun v_4 ev_4 => ?_)
  obtain rfl : (nI tt) = v_4 := (ev_4.trans ((congrArg xs (nI_clamp (by omega))).trans ea2)).symm
  refine lv_aload_n hx hb dL_law_757 rfl (lv_at hl 3 rfl) ?_
  refine zci (vx_runSW (As := [.ref (h 0), .int (nI ky), .int (nI tt), .ref oa]) (rest := []) ⟨hx, hb, hml, hown, hts⟩ (c_L_strike_w1 (time := tt) (kk := kk) (zin26 hky) (ht1) (ht2) (rfl) (htr) (hlc48) (hms) (hkk) (hk1) (hk4)) (vx_cwSW 4 hts gL_law_L_strike rfl rfl rfl hds_L_strike ⟨Nat.le_of_ble_eq_true rfl, Nat.le_of_ble_eq_true rfl⟩) (zS hP hD hK hE hB hS) rfl rfl hl.1 rfl (lv_room (Nat.le_of_ble_eq_true rfl)) dL_law_758 ⟨(show cc + 0 ≤ 601024 by omega), (show ss + 0 ≤ 7293034 by omega)⟩) hS (fun H locs hP hD hS => ?_)
  have hP : va_P D vwCl ((zWT cI cJ h (n, L) (kt, km, kl) (pt, pm, pl) (nu, le, ow, fo, true, wc, lc, tr, cl, (tm + tt), (ms + 1)) (yl, yc, yt, co, pa, su, sc) (upd mc kk (mc kk + 1))) ++ ((oa, .inl (cJ, 1, .inr (.inl (vp_updL yo 0 (((nI kk)).toInt64))))) :: (zWM cI cJ cZ h2 th (n, L) ((zcb kt pt), (zcb km pm), (zcb kl pl)) mc (true, wc, nu, lc, le, af, tr, ms, cl, tm) (co, yn, yh, pa)))) H := hP
  have hD : va_D (zAb s.heap.size) ((zWT cI cJ h (n, L) (kt, km, kl) (pt, pm, pl) (nu, le, ow, fo, true, wc, lc, tr, cl, (tm + tt), (ms + 1)) (yl, yc, yt, co, pa, su, sc) (upd mc kk (mc kk + 1))) ++ ((oa, .inl (cJ, 1, .inr (.inl (vp_updL yo 0 (((nI kk)).toInt64))))) :: (zWM cI cJ cZ h2 th (n, L) ((zcb kt pt), (zcb km pm), (zcb kl pl)) mc (true, wc, nu, lc, le, af, tr, ms, cl, tm) (co, yn, yh, pa)))) := hD
  refine lv_istore (lv' := [(5, .int 0), (0, .ref b), (1, .ref (h 0)), (2, .ref (h2 0)), (3, .ref oa), (4, .int (nI (4 * j)))]) hx hb dL_law_761 hl (by decide) rfl (fun ls hl => ?_)
  refine lv_aload_n hx hb dL_law_763 rfl (lv_at hl 3 rfl) ?_
  refine lv_aload_n hx hb dL_law_764 rfl (lv_at hl 1 rfl) ?_
  refine lv_iload hx hb dL_law_765 (lv_at hl 5 rfl) ?_
  refine lv_iconst (v := 1) hx hb dL_law_767 (by decide) ?_
  refine lv_iadd hx hb dL_law_768 ?_
  refine lv_topi (fun v_5 ev_5 => ?_)
  obtain rfl : v_5 = (nI ((4 * j) + 1)) := ev_5.trans (nI_add (4 * j) 1)
  refine va_sld hx hb hX hbl hbA hS (vp_in_nI (n := ((4 * j) + 1)) (N := L9) (by omega) (by omega)) dL_law_769 ?_
  refine lv_topi (fun v_6 ev_6 => ?_)
  obtain rfl : (nI ky) = v_6 := (ev_6.trans ((congrArg xs (nI_clamp (by omega))).trans ea1)).symm
  refine lv_aload_n hx hb dL_law_770 rfl (lv_at hl 1 rfl) ?_
  refine lv_iload hx hb dL_law_771 (lv_at hl 5 rfl) ?_
  refine lv_iconst (v := 2) hx hb dL_law_773 (by decide) ?_
  refine lv_iadd hx hb dL_law_774 ?_
  refine lv_topi (fun v_7 ev_7 => ?_)
  obtain rfl : v_7 = (nI ((4 * j) + 2)) := ev_7.trans (nI_add (4 * j) 2)
  refine va_sld hx hb hX hbl hbA hS (vp_in_nI (n := ((4 * j) + 2)) (N := L9) (by omega) (by omega)) dL_law_775 ?_
  refine lv_topi (fun v_8 ev_8 => ?_)
  obtain rfl : (nI tt) = v_8 := (ev_8.trans ((congrArg xs (nI_clamp (by omega))).trans ea2)).symm
  have hP9 : va_P D vwCl ((zWM cI cJ cZ h2 th (n, L) ((zcb kt pt), (zcb km pm), (zcb kl pl)) mc (true, wc, nu, lc, le, af, tr, ms, cl, tm) (co, yn, yh, pa)) ++ ((zWT cI cJ h (n, L) (kt, km, kl) (pt, pm, pl) (nu, le, ow, fo, true, wc, lc, tr, cl, (tm + tt), (ms + 1)) (yl, yc, yt, co, pa, su, sc) (upd mc kk (mc kk + 1))) ++ [(oa, .inl (cJ, 1, .inr (.inl (vp_updL yo 0 (((nI kk)).toInt64)))))])) H := zswapP (A := (zWT cI cJ h (n, L) (kt, km, kl) (pt, pm, pl) (nu, le, ow, fo, true, wc, lc, tr, cl, (tm + tt), (ms + 1)) (yl, yc, yt, co, pa, su, sc) (upd mc kk (mc kk + 1))) ++ [(oa, .inl (cJ, 1, .inr (.inl (vp_updL yo 0 (((nI kk)).toInt64)))))]) (Bw := (zWM cI cJ cZ h2 th (n, L) ((zcb kt pt), (zcb km pm), (zcb kl pl)) mc (true, wc, nu, lc, le, af, tr, ms, cl, tm) (co, yn, yh, pa))) hP
  have hD9 : va_D (zAb s.heap.size) ((zWM cI cJ cZ h2 th (n, L) ((zcb kt pt), (zcb km pm), (zcb kl pl)) mc (true, wc, nu, lc, le, af, tr, ms, cl, tm) (co, yn, yh, pa)) ++ ((zWT cI cJ h (n, L) (kt, km, kl) (pt, pm, pl) (nu, le, ow, fo, true, wc, lc, tr, cl, (tm + tt), (ms + 1)) (yl, yc, yt, co, pa, su, sc) (upd mc kk (mc kk + 1))) ++ [(oa, .inl (cJ, 1, .inr (.inl (vp_updL yo 0 (((nI kk)).toInt64)))))])) := zswapD (A := (zWT cI cJ h (n, L) (kt, km, kl) (pt, pm, pl) (nu, le, ow, fo, true, wc, lc, tr, cl, (tm + tt), (ms + 1)) (yl, yc, yt, co, pa, su, sc) (upd mc kk (mc kk + 1))) ++ [(oa, .inl (cJ, 1, .inr (.inl (vp_updL yo 0 (((nI kk)).toInt64)))))]) (Bw := (zWM cI cJ cZ h2 th (n, L) ((zcb kt pt), (zcb km pm), (zcb kl pl)) mc (true, wc, nu, lc, le, af, tr, ms, cl, tm) (co, yn, yh, pa))) hD
  refine zcih (zrV (As := [.int (nI ky), .int (nI tt)]) (rest := []) ⟨hx, hb, hml, hown, hts⟩ (zV 0 hP9 hD9 hK hE hB hS rfl rfl) (c_X5_strike_w1 (key := ky) (time := tt) (ow := ow) (x := x) (kk := kk) (hky) (ht1) (ht2) (rfl) (hMk) (htr) (hlc48) (hx9) (hx26) (hms) (hkk) (hk1) (hk4)) (cwV 2 hts gL_law_X5_strike rfl rfl rfl hdv_X5_strike ⟨Nat.le_of_ble_eq_true rfl, Nat.le_of_ble_eq_true rfl⟩) rfl rfl hl.1 rfl (lv_room (Nat.le_of_ble_eq_true rfl)) dL_law_776 ⟨(show cc + 0 + 1 ≤ 601024 by omega), (show ss + 0 + 1536 ≤ 7293034 by omega)⟩) hS (fun q9 H locs hP hD hS => ?_)
  have hP : va_P D vwCl ((zWT cI cJ h (n, L) (kt, km, kl) (pt, pm, pl) (nu, le, ow, fo, true, wc, lc, tr, cl, (tm + tt), (ms + 1)) (yl, yc, yt, co, pa, su, sc) (upd mc kk (mc kk + 1))) ++ ((oa, .inl (cJ, 1, .inr (.inl (vp_updL yo 0 (((nI kk)).toInt64))))) :: (zWM cI cJ cZ (zh9 h2 q9) 0 (n, L) ((zcb kt pt), (zcb km pm), (zcb kl pl)) (upd mc kk (mc kk + 1)) (true, wc, nu, lc, le, af, tr, (ms + 1), cl, (tm + tt)) (co, yn, yh, pa)))) H := zswapP (A := (zWM cI cJ cZ (zh9 h2 q9) 0 (n, L) ((zcb kt pt), (zcb km pm), (zcb kl pl)) (upd mc kk (mc kk + 1)) (true, wc, nu, lc, le, af, tr, (ms + 1), cl, (tm + tt)) (co, yn, yh, pa))) (Bw := (zWT cI cJ h (n, L) (kt, km, kl) (pt, pm, pl) (nu, le, ow, fo, true, wc, lc, tr, cl, (tm + tt), (ms + 1)) (yl, yc, yt, co, pa, su, sc) (upd mc kk (mc kk + 1))) ++ [(oa, .inl (cJ, 1, .inr (.inl (vp_updL yo 0 (((nI kk)).toInt64)))))]) hP
  have hD : va_D (zAb s.heap.size) ((zWT cI cJ h (n, L) (kt, km, kl) (pt, pm, pl) (nu, le, ow, fo, true, wc, lc, tr, cl, (tm + tt), (ms + 1)) (yl, yc, yt, co, pa, su, sc) (upd mc kk (mc kk + 1))) ++ ((oa, .inl (cJ, 1, .inr (.inl (vp_updL yo 0 (((nI kk)).toInt64))))) :: (zWM cI cJ cZ (zh9 h2 q9) 0 (n, L) ((zcb kt pt), (zcb km pm), (zcb kl pl)) (upd mc kk (mc kk + 1)) (true, wc, nu, lc, le, af, tr, (ms + 1), cl, (tm + tt)) (co, yn, yh, pa)))) := zswapD (A := (zWM cI cJ cZ (zh9 h2 q9) 0 (n, L) ((zcb kt pt), (zcb km pm), (zcb kl pl)) (upd mc kk (mc kk + 1)) (true, wc, nu, lc, le, af, tr, (ms + 1), cl, (tm + tt)) (co, yn, yh, pa))) (Bw := (zWT cI cJ h (n, L) (kt, km, kl) (pt, pm, pl) (nu, le, ow, fo, true, wc, lc, tr, cl, (tm + tt), (ms + 1)) (yl, yc, yt, co, pa, su, sc) (upd mc kk (mc kk + 1))) ++ [(oa, .inl (cJ, 1, .inr (.inl (vp_updL yo 0 (((nI kk)).toInt64)))))]) hD
  refine lv_istore (lv' := [(6, .int (nI kk)), (5, .int 0), (0, .ref b), (1, .ref (h 0)), (2, .ref (h2 0)), (3, .ref oa), (4, .int (nI (4 * j)))]) hx hb dL_law_779 hl (by decide) rfl (fun ls hl => ?_)
  refine lv_aload_n hx hb dL_law_781 rfl (lv_at hl 4 rfl) ?_
  have hP9 : va_P D vwCl ((zWM cI cJ cZ (zh9 h2 q9) 0 (n, L) ((zcb kt pt), (zcb km pm), (zcb kl pl)) (upd mc kk (mc kk + 1)) (true, wc, nu, lc, le, af, tr, (ms + 1), cl, (tm + tt)) (co, yn, yh, pa)) ++ ((zWT cI cJ h (n, L) (kt, km, kl) (pt, pm, pl) (nu, le, ow, fo, true, wc, lc, tr, cl, (tm + tt), (ms + 1)) (yl, yc, yt, co, pa, su, sc) (upd mc kk (mc kk + 1))) ++ [(oa, .inl (cJ, 1, .inr (.inl (vp_updL yo 0 (((nI kk)).toInt64)))))])) H := zswapP (A := (zWT cI cJ h (n, L) (kt, km, kl) (pt, pm, pl) (nu, le, ow, fo, true, wc, lc, tr, cl, (tm + tt), (ms + 1)) (yl, yc, yt, co, pa, su, sc) (upd mc kk (mc kk + 1))) ++ [(oa, .inl (cJ, 1, .inr (.inl (vp_updL yo 0 (((nI kk)).toInt64)))))]) (Bw := (zWM cI cJ cZ (zh9 h2 q9) 0 (n, L) ((zcb kt pt), (zcb km pm), (zcb kl pl)) (upd mc kk (mc kk + 1)) (true, wc, nu, lc, le, af, tr, (ms + 1), cl, (tm + tt)) (co, yn, yh, pa))) hP
  have hD9 : va_D (zAb s.heap.size) ((zWM cI cJ cZ (zh9 h2 q9) 0 (n, L) ((zcb kt pt), (zcb km pm), (zcb kl pl)) (upd mc kk (mc kk + 1)) (true, wc, nu, lc, le, af, tr, (ms + 1), cl, (tm + tt)) (co, yn, yh, pa)) ++ ((zWT cI cJ h (n, L) (kt, km, kl) (pt, pm, pl) (nu, le, ow, fo, true, wc, lc, tr, cl, (tm + tt), (ms + 1)) (yl, yc, yt, co, pa, su, sc) (upd mc kk (mc kk + 1))) ++ [(oa, .inl (cJ, 1, .inr (.inl (vp_updL yo 0 (((nI kk)).toInt64)))))])) := zswapD (A := (zWT cI cJ h (n, L) (kt, km, kl) (pt, pm, pl) (nu, le, ow, fo, true, wc, lc, tr, cl, (tm + tt), (ms + 1)) (yl, yc, yt, co, pa, su, sc) (upd mc kk (mc kk + 1))) ++ [(oa, .inl (cJ, 1, .inr (.inl (vp_updL yo 0 (((nI kk)).toInt64)))))]) (Bw := (zWM cI cJ cZ (zh9 h2 q9) 0 (n, L) ((zcb kt pt), (zcb km pm), (zcb kl pl)) (upd mc kk (mc kk + 1)) (true, wc, nu, lc, le, af, tr, (ms + 1), cl, (tm + tt)) (co, yn, yh, pa))) hD
  refine zci (zrV (As := []) (rest := []) ⟨hx, hb, hml, hown, hts⟩ (zV 0 hP9 hD9 hK hE hB hS rfl rfl) (c_X5_thrown  ) (cwV 0 hts gL_law_X5_thrown rfl rfl rfl hdv_X5_thrown ⟨Nat.le_of_ble_eq_true rfl, Nat.le_of_ble_eq_true rfl⟩) rfl rfl hl.1 rfl (lv_room (Nat.le_of_ble_eq_true rfl)) dL_law_782 ⟨(show cc + 0 + 1 + 0 ≤ 601024 by omega), (show ss + 0 + 1536 + 0 ≤ 7293034 by omega)⟩) hS (fun H locs hP hD hS => ?_)
  have hP : va_P D vwCl ((zWT cI cJ h (n, L) (kt, km, kl) (pt, pm, pl) (nu, le, ow, fo, true, wc, lc, tr, cl, (tm + tt), (ms + 1)) (yl, yc, yt, co, pa, su, sc) (upd mc kk (mc kk + 1))) ++ ((oa, .inl (cJ, 1, .inr (.inl (vp_updL yo 0 (((nI kk)).toInt64))))) :: (zWM cI cJ cZ (zh9 h2 q9) 0 (n, L) ((zcb kt pt), (zcb km pm), (zcb kl pl)) (upd mc kk (mc kk + 1)) (true, wc, nu, lc, le, af, tr, (ms + 1), cl, (tm + tt)) (co, yn, yh, pa)))) H := zswapP (A := (zWM cI cJ cZ (zh9 h2 q9) 0 (n, L) ((zcb kt pt), (zcb km pm), (zcb kl pl)) (upd mc kk (mc kk + 1)) (true, wc, nu, lc, le, af, tr, (ms + 1), cl, (tm + tt)) (co, yn, yh, pa))) (Bw := (zWT cI cJ h (n, L) (kt, km, kl) (pt, pm, pl) (nu, le, ow, fo, true, wc, lc, tr, cl, (tm + tt), (ms + 1)) (yl, yc, yt, co, pa, su, sc) (upd mc kk (mc kk + 1))) ++ [(oa, .inl (cJ, 1, .inr (.inl (vp_updL yo 0 (((nI kk)).toInt64)))))]) hP
  have hD : va_D (zAb s.heap.size) ((zWT cI cJ h (n, L) (kt, km, kl) (pt, pm, pl) (nu, le, ow, fo, true, wc, lc, tr, cl, (tm + tt), (ms + 1)) (yl, yc, yt, co, pa, su, sc) (upd mc kk (mc kk + 1))) ++ ((oa, .inl (cJ, 1, .inr (.inl (vp_updL yo 0 (((nI kk)).toInt64))))) :: (zWM cI cJ cZ (zh9 h2 q9) 0 (n, L) ((zcb kt pt), (zcb km pm), (zcb kl pl)) (upd mc kk (mc kk + 1)) (true, wc, nu, lc, le, af, tr, (ms + 1), cl, (tm + tt)) (co, yn, yh, pa)))) := zswapD (A := (zWM cI cJ cZ (zh9 h2 q9) 0 (n, L) ((zcb kt pt), (zcb km pm), (zcb kl pl)) (upd mc kk (mc kk + 1)) (true, wc, nu, lc, le, af, tr, (ms + 1), cl, (tm + tt)) (co, yn, yh, pa))) (Bw := (zWT cI cJ h (n, L) (kt, km, kl) (pt, pm, pl) (nu, le, ow, fo, true, wc, lc, tr, cl, (tm + tt), (ms + 1)) (yl, yc, yt, co, pa, su, sc) (upd mc kk (mc kk + 1))) ++ [(oa, .inl (cJ, 1, .inr (.inl (vp_updL yo 0 (((nI kk)).toInt64)))))]) hD
  refine lv_iload hx hb dL_law_785 (lv_at hl 1 rfl) ?_
  refine lv_icmp_eq (tgt := 792) hx hb dL_law_787 (by decide) (fun c_9 => ?_) (fun c_9 => ?_)
  · skip
    refine lv_iload hx hb dL_law_792 (lv_at hl 1 rfl) ?_
    refine lv_if_ne (tgt := 809) hx hb dL_law_794 (by decide) (fun c_10 => ?_) (fun c_10 => ?_)
    · skip
      exfalso; first | omega | (revert c_10; decide) | (exact absurd rfl c_10) | simp_all
    · skip
      refine lv_aload_n hx hb dL_law_797 rfl (lv_at hl 5 rfl) ?_
      refine lv_iconst (v := 0) hx hb dL_law_798 (by decide) ?_
      refine va_lald hx hb hK hP 21 1 rfl rfl (vp_in_nI (n := 0) (N := 1) (by omega) (by omega)) dL_law_799 ?_
      refine lv_topl (fun v_11 ev_11 => ?_)
      obtain rfl : (((nI kk)).toInt64) = v_11 := (ev_11.trans (pk_uLs (f := yo) (k := 0) (x := (((nI kk)).toInt64)))).symm
      refine lv_iload hx hb dL_law_800 (lv_at hl 0 rfl) ?_
      refine lv_i2l (v := ((nI kk)).toInt64) hx hb dL_law_802 rfl ?_
      refine W.lcmp hx hb dL_law_803 ?_
      refine lv_if_eq (tgt := 809) hx hb dL_law_804 (by decide) (fun c_12 => ?_) (fun c_12 => ?_)
      · skip
        have c_12 : (((nI kk)).toInt64) = (((nI kk)).toInt64) := (lg_cmp_eq _ _).mp c_12
        refine lv_goto (tgt := 1191) hx hb dL_law_809 (by decide) ?_
        refine W.widen (k := cc + 2) (n := ss + 1542) (show cc + 0 + 1 + 0 ≤ cc + 2 by omega) (show ss + 0 + 1536 + 0 ≤ ss + 1542 by omega) ?_
        exact kont h (zh9 h2 q9) oa (vp_updL yo 0 (((nI kk)).toInt64)) 0 n L kt km kl pt pm pl nu le ow fo true wc lc tr cl (tm + tt) (ms + 1) yl yc yt co pa su sc (upd mc kk (mc kk + 1)) af yn yh (hI.slip hms ht2) _ _ _ hP hD hS (lv_sub hl [2, 3, 4, 5, 6] rfl)
      · skip
        have c_12 : ¬ (((nI kk)).toInt64) = (((nI kk)).toInt64) := fun hh => c_12 ((lg_cmp_eq _ _).mpr hh)
        exact absurd rfl c_12
  · skip
    exfalso; first | omega | (revert c_9; decide) | (exact absurd rfl c_9) | simp_all

set_option maxHeartbeats 1000000 in
set_option maxRecDepth 100000 in
theorem law_strike_w2 {p : Program} {l : Launch} {e : Env} {s : State} {m : MethodId} {below : List Frame} {meth : Method} {c : Code} {b L9 : Nat} {xs : Nat → Int32} {D : va_G} {cI cJ cZ : ClassId} {kr kp j cc ss : Nat} {h h2 : Nat → Nat} {oa : Nat} {yo : Nat → Int64} {th : Int32} {n : Nat} {L : Nat → Int64} {kt : Nat → Int32} {km : Nat → Int32} {kl : Nat → Int32} {pt : Nat → Int32} {pm : Nat → Int32} {pl : Nat → Int32} {nu : Nat → Int32} {le : Nat → Int32} {ow : Nat → Int32} {fo : Nat → Int32} {run : Bool} {wc : Nat} {lc : Nat} {tr : Nat} {cl : Nat} {tm : Nat} {ms : Nat} {yl : Nat → Int32} {yc : Nat → Int32} {yt : Nat → Int32} {co : Nat} {pa : Int32} {su : Nat} {sc : Nat} {mc : Nat → Int32} {af : Nat → Int32} {yn : Nat} {yh : Nat → Int32} {x : Nat} {o : Option Nat} {fin : Bool} {g : Bool} {kk : Nat} {ky : Nat} {tt : Nat} (C : zLw p l s m meth c b L9 xs D cI cJ cZ kr kp) (hj : 4 * j + 4 ≤ L9) (hcc : cc + 2 ≤ 601024) (hss : ss + 1542 ≤ 7293034) (kont : zKt p l e s m below meth c b D cI cJ cZ j cc ss) (hI : zInv j n L pt le ow af true wc lc tr cl tm ms yl yc yt co yn su sc yh) (ea1 : xs (4 * j + 1) = nI ky) (ea2 : xs (4 * j + 2) = nI tt) (hky : ky < 26) (ht1 : 1 ≤ tt) (ht2 : tt ≤ 5000) (hx9 : le tr = nI x) (hx26 : x < 26) (ho : zis le ow lc tr (nI tr - 1) = zoI o) (hoy : ∀ y, o = some y → y < 26) (ho1 : o = none → ¬ af tr = 0) (ho2 : ∀ y, o = some y → af tr = 0 ∧ 0 < tr ∧ le (tr - 1) = nI y ∧ y < 26) (hf : zsel fin (tr + 1 = lc) (tr + 1 < lc)) (hg : zsel g (3 * co = yn) (3 * co + 3 ≤ yn)) (hms : ms = 1) (hkk : zkd (nI ky) le ow lc tr = nI kk) (hk1 : 1 ≤ kk) (hk4 : kk ≤ 4) {H : Heap} {locs : List Loc} {ls : Array Slot} (hP : va_P D vwCl ((zWT cI cJ h (n, L) (kt, km, kl) (pt, pm, pl) (nu, le, ow, fo, true, wc, lc, tr, cl, tm, ms) (yl, yc, yt, co, pa, su, sc) mc) ++ ((oa, .inl (cJ, 1, .inr (.inl yo))) :: (zWM cI cJ cZ h2 th (n, L) ((zcb kt pt), (zcb km pm), (zcb kl pl)) mc (true, wc, nu, lc, le, af, tr, ms, cl, tm) (co, yn, yh, pa)))) H) (hD : va_D (zAb s.heap.size) ((zWT cI cJ h (n, L) (kt, km, kl) (pt, pm, pl) (nu, le, ow, fo, true, wc, lc, tr, cl, tm, ms) (yl, yc, yt, co, pa, su, sc) mc) ++ ((oa, .inl (cJ, 1, .inr (.inl yo))) :: (zWM cI cJ cZ h2 th (n, L) ((zcb kt pt), (zcb km pm), (zcb kl pl)) mc (true, wc, nu, lc, le, af, tr, ms, cl, tm) (co, yn, yh, pa))))) (hS : va_S (zAb s.heap.size) s.heap H locs) (hl : lv_has ls 9 [(0, .ref b), (1, .ref (h 0)), (2, .ref (h2 0)), (3, .ref oa), (4, .int (nI (4 * j)))]) : W p l e room_1 s m #[Value.ref b] below meth c H locs cc ss (lw_Z below #[Value.ref b] s) (F0 m 744 ls []) := by
  obtain ⟨C0, hls, hK, hE, hL9⟩ := C
  obtain ⟨hx, hb, hr, hml, hown, hts0, hX, hbl, hlocks, hgv⟩ := C0
  have hts : ∀ w ∈ wsL_law, w.before #[Value.ref b] s = true := fun w h => hts0 w (wsL_law_in w h)
  have hbA : ¬ zAb s.heap.size b := Nat.not_le.mpr hbl
  have hB : s.heap.size ≤ s.heap.size := Nat.le_refl _
  have hn40 := hI.1.1
  have hzk := hI.1.2
  obtain ⟨hwc6, hlc48, htrl, hclt, hms1⟩ := hI.2.1
  have hrt := hI.2.2.1
  have hle := hI.2.2.2.1
  have hMk := hI.2.2.2.2.1
  have hct := hI.2.2.2.2.2.1
  have hHi := hI.2.2.2.2.2.2.1
  have hsu := hI.2.2.2.2.2.2.2.2.1
  have hj5 : j ≤ 511 := by omega
  have hco : co < 256 := by have := hct.1; omega
  have hco6 : co ≤ 256 := Nat.le_of_lt hco
  have hsl : su < 2147483648 := by have := hsu.2.2; omega
  have hpt := hI.hpt (Nat.le_succ_of_le hj5)
  have htr : tr < lc := hrt rfl
  have h2ms : ms ≤ 2 := by omega
  have hyn := hHi.2.2.1
  have hy12 := hHi.2.2.2.1
  refine lv_aload_n hx hb dL_law_744 rfl (lv_at hl 1 rfl) ?_
  refine lv_aload_n hx hb dL_law_745 rfl (lv_at hl 0 rfl) ?_
  refine lv_iload hx hb dL_law_746 (lv_at hl 4 rfl) ?_
  refine lv_iconst (v := 1) hx hb dL_law_748 (by decide) ?_
  refine lv_iadd hx hb dL_law_749 ?_
  refine lv_topi (fun v_1 ev_1 => ?_)
  obtain rfl : v_1 = (nI ((4 * j) + 1)) := ev_1.trans (nI_add (4 * j) 1)
  refine va_sld hx hb hX hbl hbA hS (vp_in_nI (n := ((4 * j) + 1)) (N := L9) (by omega) (by omega)) dL_law_750 ?_
  refine lv_topi (fun v_2 ev_2 => ?_)
  obtain rfl : (nI ky) = v_2 := (ev_2.trans ((congrArg xs (nI_clamp (by omega))).trans ea1)).symm
  refine lv_aload_n hx hb dL_law_751 rfl (lv_at hl 0 rfl) ?_
  refine lv_iload hx hb dL_law_752 (lv_at hl 4 rfl) ?_
  refine lv_iconst (v := 2) hx hb dL_law_754 (by decide) ?_
  refine lv_iadd hx hb dL_law_755 ?_
  refine lv_topi (fun v_3 ev_3 => ?_)
  obtain rfl : v_3 = (nI ((4 * j) + 2)) := ev_3.trans (nI_add (4 * j) 2)
  refine va_sld hx hb hX hbl hbA hS (vp_in_nI (n := ((4 * j) + 2)) (N := L9) (by omega) (by omega)) dL_law_756 ?_
  refine lv_topi (fun v_4 ev_4 => ?_)
  obtain rfl : (nI tt) = v_4 := (ev_4.trans ((congrArg xs (nI_clamp (by omega))).trans ea2)).symm
  refine lv_aload_n hx hb dL_law_757 rfl (lv_at hl 3 rfl) ?_
  refine zci (vx_runSW (As := [.ref (h 0), .int (nI ky), .int (nI tt), .ref oa]) (rest := []) ⟨hx, hb, hml, hown, hts⟩ (c_L_strike_w2 (time := tt) (x := x) (o := o) (fin := fin) (kk := kk) (zin26 hky) (ht1) (ht2) (rfl) (hx9) (hx26) (ho) (hoy) (hf) (htr) (hlc48) (hclt) (hco) (h2ms) (hms) (hkk) (hk1) (hk4)) (vx_cwSW 4 hts gL_law_L_strike rfl rfl rfl hds_L_strike ⟨Nat.le_of_ble_eq_true rfl, Nat.le_of_ble_eq_true rfl⟩) (zS hP hD hK hE hB hS) rfl rfl hl.1 rfl (lv_room (Nat.le_of_ble_eq_true rfl)) dL_law_758 ⟨(show cc + 0 ≤ 601024 by omega), (show ss + 0 ≤ 7293034 by omega)⟩) hS (fun H locs hP hD hS => ?_)
  have hP : va_P D vwCl ((zWT cI cJ h (n, L) ((zkt kt x), (zkm (zc0 (ms + 1)) km x), (zkl (zc0 (ms + 1)) kl x (nI tt))) ((zou o x pt (zkt pt)), (zou o x pm (zkm (zc0 (ms + 1)) pm)), (zou o x pl (fun p => zkl (zc0 (ms + 1)) pl p (nI tt)))) (nu, le, ow, fo, (zsel fin false true), wc, lc, (tr + 1), (zsel (zc0 (ms + 1)) (cl + 1) cl), (tm + tt), 0) ((zsel fin (upd yl co (nI lc)) yl), (zsel fin (upd yc co (nI (zsel (zc0 (ms + 1)) (cl + 1) cl))) yc), (zsel fin (upd yt co (nI (tm + tt))) yt), (zsel fin (co + 1) co), (zsel fin (zpc pa lc (zsel (zc0 (ms + 1)) (cl + 1) cl)) pa), (zsel fin (su + lc) su), (zsel fin (sc + (zsel (zc0 (ms + 1)) (cl + 1) cl)) sc)) (upd mc kk (mc kk + 1))) ++ ((oa, .inl (cJ, 1, .inr (.inl (vp_updL yo 0 (((nI kk)).toInt64))))) :: (zWM cI cJ cZ h2 th (n, L) ((zcb kt pt), (zcb km pm), (zcb kl pl)) mc (true, wc, nu, lc, le, af, tr, ms, cl, tm) (co, yn, yh, pa)))) H := hP
  have hD : va_D (zAb s.heap.size) ((zWT cI cJ h (n, L) ((zkt kt x), (zkm (zc0 (ms + 1)) km x), (zkl (zc0 (ms + 1)) kl x (nI tt))) ((zou o x pt (zkt pt)), (zou o x pm (zkm (zc0 (ms + 1)) pm)), (zou o x pl (fun p => zkl (zc0 (ms + 1)) pl p (nI tt)))) (nu, le, ow, fo, (zsel fin false true), wc, lc, (tr + 1), (zsel (zc0 (ms + 1)) (cl + 1) cl), (tm + tt), 0) ((zsel fin (upd yl co (nI lc)) yl), (zsel fin (upd yc co (nI (zsel (zc0 (ms + 1)) (cl + 1) cl))) yc), (zsel fin (upd yt co (nI (tm + tt))) yt), (zsel fin (co + 1) co), (zsel fin (zpc pa lc (zsel (zc0 (ms + 1)) (cl + 1) cl)) pa), (zsel fin (su + lc) su), (zsel fin (sc + (zsel (zc0 (ms + 1)) (cl + 1) cl)) sc)) (upd mc kk (mc kk + 1))) ++ ((oa, .inl (cJ, 1, .inr (.inl (vp_updL yo 0 (((nI kk)).toInt64))))) :: (zWM cI cJ cZ h2 th (n, L) ((zcb kt pt), (zcb km pm), (zcb kl pl)) mc (true, wc, nu, lc, le, af, tr, ms, cl, tm) (co, yn, yh, pa)))) := hD
  refine lv_istore (lv' := [(5, .int 0), (0, .ref b), (1, .ref (h 0)), (2, .ref (h2 0)), (3, .ref oa), (4, .int (nI (4 * j)))]) hx hb dL_law_761 hl (by decide) rfl (fun ls hl => ?_)
  refine lv_aload_n hx hb dL_law_763 rfl (lv_at hl 3 rfl) ?_
  refine lv_aload_n hx hb dL_law_764 rfl (lv_at hl 1 rfl) ?_
  refine lv_iload hx hb dL_law_765 (lv_at hl 5 rfl) ?_
  refine lv_iconst (v := 1) hx hb dL_law_767 (by decide) ?_
  refine lv_iadd hx hb dL_law_768 ?_
  refine lv_topi (fun v_5 ev_5 => ?_)
  obtain rfl : v_5 = (nI ((4 * j) + 1)) := ev_5.trans (nI_add (4 * j) 1)
  refine va_sld hx hb hX hbl hbA hS (vp_in_nI (n := ((4 * j) + 1)) (N := L9) (by omega) (by omega)) dL_law_769 ?_
  refine lv_topi (fun v_6 ev_6 => ?_)
  obtain rfl : (nI ky) = v_6 := (ev_6.trans ((congrArg xs (nI_clamp (by omega))).trans ea1)).symm
  refine lv_aload_n hx hb dL_law_770 rfl (lv_at hl 1 rfl) ?_
  refine lv_iload hx hb dL_law_771 (lv_at hl 5 rfl) ?_
  refine lv_iconst (v := 2) hx hb dL_law_773 (by decide) ?_
  refine lv_iadd hx hb dL_law_774 ?_
  refine lv_topi (fun v_7 ev_7 => ?_)
  obtain rfl : v_7 = (nI ((4 * j) + 2)) := ev_7.trans (nI_add (4 * j) 2)
  refine va_sld hx hb hX hbl hbA hS (vp_in_nI (n := ((4 * j) + 2)) (N := L9) (by omega) (by omega)) dL_law_775 ?_
  refine lv_topi (fun v_8 ev_8 => ?_)
  obtain rfl : (nI tt) = v_8 := (ev_8.trans ((congrArg xs (nI_clamp (by omega))).trans ea2)).symm
  have hP9 : va_P D vwCl ((zWM cI cJ cZ h2 th (n, L) ((zcb kt pt), (zcb km pm), (zcb kl pl)) mc (true, wc, nu, lc, le, af, tr, ms, cl, tm) (co, yn, yh, pa)) ++ ((zWT cI cJ h (n, L) ((zkt kt x), (zkm (zc0 (ms + 1)) km x), (zkl (zc0 (ms + 1)) kl x (nI tt))) ((zou o x pt (zkt pt)), (zou o x pm (zkm (zc0 (ms + 1)) pm)), (zou o x pl (fun p => zkl (zc0 (ms + 1)) pl p (nI tt)))) (nu, le, ow, fo, (zsel fin false true), wc, lc, (tr + 1), (zsel (zc0 (ms + 1)) (cl + 1) cl), (tm + tt), 0) ((zsel fin (upd yl co (nI lc)) yl), (zsel fin (upd yc co (nI (zsel (zc0 (ms + 1)) (cl + 1) cl))) yc), (zsel fin (upd yt co (nI (tm + tt))) yt), (zsel fin (co + 1) co), (zsel fin (zpc pa lc (zsel (zc0 (ms + 1)) (cl + 1) cl)) pa), (zsel fin (su + lc) su), (zsel fin (sc + (zsel (zc0 (ms + 1)) (cl + 1) cl)) sc)) (upd mc kk (mc kk + 1))) ++ [(oa, .inl (cJ, 1, .inr (.inl (vp_updL yo 0 (((nI kk)).toInt64)))))])) H := zswapP (A := (zWT cI cJ h (n, L) ((zkt kt x), (zkm (zc0 (ms + 1)) km x), (zkl (zc0 (ms + 1)) kl x (nI tt))) ((zou o x pt (zkt pt)), (zou o x pm (zkm (zc0 (ms + 1)) pm)), (zou o x pl (fun p => zkl (zc0 (ms + 1)) pl p (nI tt)))) (nu, le, ow, fo, (zsel fin false true), wc, lc, (tr + 1), (zsel (zc0 (ms + 1)) (cl + 1) cl), (tm + tt), 0) ((zsel fin (upd yl co (nI lc)) yl), (zsel fin (upd yc co (nI (zsel (zc0 (ms + 1)) (cl + 1) cl))) yc), (zsel fin (upd yt co (nI (tm + tt))) yt), (zsel fin (co + 1) co), (zsel fin (zpc pa lc (zsel (zc0 (ms + 1)) (cl + 1) cl)) pa), (zsel fin (su + lc) su), (zsel fin (sc + (zsel (zc0 (ms + 1)) (cl + 1) cl)) sc)) (upd mc kk (mc kk + 1))) ++ [(oa, .inl (cJ, 1, .inr (.inl (vp_updL yo 0 (((nI kk)).toInt64)))))]) (Bw := (zWM cI cJ cZ h2 th (n, L) ((zcb kt pt), (zcb km pm), (zcb kl pl)) mc (true, wc, nu, lc, le, af, tr, ms, cl, tm) (co, yn, yh, pa))) hP
  have hD9 : va_D (zAb s.heap.size) ((zWM cI cJ cZ h2 th (n, L) ((zcb kt pt), (zcb km pm), (zcb kl pl)) mc (true, wc, nu, lc, le, af, tr, ms, cl, tm) (co, yn, yh, pa)) ++ ((zWT cI cJ h (n, L) ((zkt kt x), (zkm (zc0 (ms + 1)) km x), (zkl (zc0 (ms + 1)) kl x (nI tt))) ((zou o x pt (zkt pt)), (zou o x pm (zkm (zc0 (ms + 1)) pm)), (zou o x pl (fun p => zkl (zc0 (ms + 1)) pl p (nI tt)))) (nu, le, ow, fo, (zsel fin false true), wc, lc, (tr + 1), (zsel (zc0 (ms + 1)) (cl + 1) cl), (tm + tt), 0) ((zsel fin (upd yl co (nI lc)) yl), (zsel fin (upd yc co (nI (zsel (zc0 (ms + 1)) (cl + 1) cl))) yc), (zsel fin (upd yt co (nI (tm + tt))) yt), (zsel fin (co + 1) co), (zsel fin (zpc pa lc (zsel (zc0 (ms + 1)) (cl + 1) cl)) pa), (zsel fin (su + lc) su), (zsel fin (sc + (zsel (zc0 (ms + 1)) (cl + 1) cl)) sc)) (upd mc kk (mc kk + 1))) ++ [(oa, .inl (cJ, 1, .inr (.inl (vp_updL yo 0 (((nI kk)).toInt64)))))])) := zswapD (A := (zWT cI cJ h (n, L) ((zkt kt x), (zkm (zc0 (ms + 1)) km x), (zkl (zc0 (ms + 1)) kl x (nI tt))) ((zou o x pt (zkt pt)), (zou o x pm (zkm (zc0 (ms + 1)) pm)), (zou o x pl (fun p => zkl (zc0 (ms + 1)) pl p (nI tt)))) (nu, le, ow, fo, (zsel fin false true), wc, lc, (tr + 1), (zsel (zc0 (ms + 1)) (cl + 1) cl), (tm + tt), 0) ((zsel fin (upd yl co (nI lc)) yl), (zsel fin (upd yc co (nI (zsel (zc0 (ms + 1)) (cl + 1) cl))) yc), (zsel fin (upd yt co (nI (tm + tt))) yt), (zsel fin (co + 1) co), (zsel fin (zpc pa lc (zsel (zc0 (ms + 1)) (cl + 1) cl)) pa), (zsel fin (su + lc) su), (zsel fin (sc + (zsel (zc0 (ms + 1)) (cl + 1) cl)) sc)) (upd mc kk (mc kk + 1))) ++ [(oa, .inl (cJ, 1, .inr (.inl (vp_updL yo 0 (((nI kk)).toInt64)))))]) (Bw := (zWM cI cJ cZ h2 th (n, L) ((zcb kt pt), (zcb km pm), (zcb kl pl)) mc (true, wc, nu, lc, le, af, tr, ms, cl, tm) (co, yn, yh, pa))) hD
  refine zcih (zrV (As := [.int (nI ky), .int (nI tt)]) (rest := []) ⟨hx, hb, hml, hown, hts⟩ (zV 0 hP9 hD9 hK hE hB hS rfl rfl) (c_X5_strike_w2 (key := ky) (time := tt) (ow := ow) (x := x) (o := o) (fin := fin) (g := g) (kk := kk) (hky) (ht1) (ht2) (rfl) (hMk) (hx9) (hx26) (ho1) (ho2) (hf) (htr) (hlc48) (hclt) (hco) (h2ms) (hg) (hyn) (hy12) (hms) (hkk) (hk1) (hk4)) (cwV 2 hts gL_law_X5_strike rfl rfl rfl hdv_X5_strike ⟨Nat.le_of_ble_eq_true rfl, Nat.le_of_ble_eq_true rfl⟩) rfl rfl hl.1 rfl (lv_room (Nat.le_of_ble_eq_true rfl)) dL_law_776 ⟨(show cc + 0 + 1 ≤ 601024 by omega), (show ss + 0 + 1536 ≤ 7293034 by omega)⟩) hS (fun q9 H locs hP hD hS => ?_)
  have hP : va_P D vwCl ((zWT cI cJ h (n, L) ((zkt kt x), (zkm (zc0 (ms + 1)) km x), (zkl (zc0 (ms + 1)) kl x (nI tt))) ((zou o x pt (zkt pt)), (zou o x pm (zkm (zc0 (ms + 1)) pm)), (zou o x pl (fun p => zkl (zc0 (ms + 1)) pl p (nI tt)))) (nu, le, ow, fo, (zsel fin false true), wc, lc, (tr + 1), (zsel (zc0 (ms + 1)) (cl + 1) cl), (tm + tt), 0) ((zsel fin (upd yl co (nI lc)) yl), (zsel fin (upd yc co (nI (zsel (zc0 (ms + 1)) (cl + 1) cl))) yc), (zsel fin (upd yt co (nI (tm + tt))) yt), (zsel fin (co + 1) co), (zsel fin (zpc pa lc (zsel (zc0 (ms + 1)) (cl + 1) cl)) pa), (zsel fin (su + lc) su), (zsel fin (sc + (zsel (zc0 (ms + 1)) (cl + 1) cl)) sc)) (upd mc kk (mc kk + 1))) ++ ((oa, .inl (cJ, 1, .inr (.inl (vp_updL yo 0 (((nI kk)).toInt64))))) :: (zWM cI cJ cZ (zh9 h2 q9) 0 (n, L) ((zcb (zkt kt x) (zou o x pt (zkt pt))), (zcb (zkm (zc0 (ms + 1)) km x) (zou o x pm (zkm (zc0 (ms + 1)) pm))), (zcb (zkl (zc0 (ms + 1)) kl x (nI tt)) (zou o x pl (fun p => zkl (zc0 (ms + 1)) pl p (nI tt))))) (upd mc kk (mc kk + 1)) ((zsel fin false true), wc, nu, lc, le, af, (tr + 1), 0, (zsel (zc0 (ms + 1)) (cl + 1) cl), (tm + tt)) ((zsel fin (co + 1) co), (zsel fin (zyn g yn) yn), (zsel fin (zh3 (zyh g yh yn) co lc (zsel (zc0 (ms + 1)) (cl + 1) cl) (tm + tt)) yh), (zsel fin (zpc pa lc (zsel (zc0 (ms + 1)) (cl + 1) cl)) pa))))) H := zswapP (A := (zWM cI cJ cZ (zh9 h2 q9) 0 (n, L) ((zcb (zkt kt x) (zou o x pt (zkt pt))), (zcb (zkm (zc0 (ms + 1)) km x) (zou o x pm (zkm (zc0 (ms + 1)) pm))), (zcb (zkl (zc0 (ms + 1)) kl x (nI tt)) (zou o x pl (fun p => zkl (zc0 (ms + 1)) pl p (nI tt))))) (upd mc kk (mc kk + 1)) ((zsel fin false true), wc, nu, lc, le, af, (tr + 1), 0, (zsel (zc0 (ms + 1)) (cl + 1) cl), (tm + tt)) ((zsel fin (co + 1) co), (zsel fin (zyn g yn) yn), (zsel fin (zh3 (zyh g yh yn) co lc (zsel (zc0 (ms + 1)) (cl + 1) cl) (tm + tt)) yh), (zsel fin (zpc pa lc (zsel (zc0 (ms + 1)) (cl + 1) cl)) pa)))) (Bw := (zWT cI cJ h (n, L) ((zkt kt x), (zkm (zc0 (ms + 1)) km x), (zkl (zc0 (ms + 1)) kl x (nI tt))) ((zou o x pt (zkt pt)), (zou o x pm (zkm (zc0 (ms + 1)) pm)), (zou o x pl (fun p => zkl (zc0 (ms + 1)) pl p (nI tt)))) (nu, le, ow, fo, (zsel fin false true), wc, lc, (tr + 1), (zsel (zc0 (ms + 1)) (cl + 1) cl), (tm + tt), 0) ((zsel fin (upd yl co (nI lc)) yl), (zsel fin (upd yc co (nI (zsel (zc0 (ms + 1)) (cl + 1) cl))) yc), (zsel fin (upd yt co (nI (tm + tt))) yt), (zsel fin (co + 1) co), (zsel fin (zpc pa lc (zsel (zc0 (ms + 1)) (cl + 1) cl)) pa), (zsel fin (su + lc) su), (zsel fin (sc + (zsel (zc0 (ms + 1)) (cl + 1) cl)) sc)) (upd mc kk (mc kk + 1))) ++ [(oa, .inl (cJ, 1, .inr (.inl (vp_updL yo 0 (((nI kk)).toInt64)))))]) hP
  have hD : va_D (zAb s.heap.size) ((zWT cI cJ h (n, L) ((zkt kt x), (zkm (zc0 (ms + 1)) km x), (zkl (zc0 (ms + 1)) kl x (nI tt))) ((zou o x pt (zkt pt)), (zou o x pm (zkm (zc0 (ms + 1)) pm)), (zou o x pl (fun p => zkl (zc0 (ms + 1)) pl p (nI tt)))) (nu, le, ow, fo, (zsel fin false true), wc, lc, (tr + 1), (zsel (zc0 (ms + 1)) (cl + 1) cl), (tm + tt), 0) ((zsel fin (upd yl co (nI lc)) yl), (zsel fin (upd yc co (nI (zsel (zc0 (ms + 1)) (cl + 1) cl))) yc), (zsel fin (upd yt co (nI (tm + tt))) yt), (zsel fin (co + 1) co), (zsel fin (zpc pa lc (zsel (zc0 (ms + 1)) (cl + 1) cl)) pa), (zsel fin (su + lc) su), (zsel fin (sc + (zsel (zc0 (ms + 1)) (cl + 1) cl)) sc)) (upd mc kk (mc kk + 1))) ++ ((oa, .inl (cJ, 1, .inr (.inl (vp_updL yo 0 (((nI kk)).toInt64))))) :: (zWM cI cJ cZ (zh9 h2 q9) 0 (n, L) ((zcb (zkt kt x) (zou o x pt (zkt pt))), (zcb (zkm (zc0 (ms + 1)) km x) (zou o x pm (zkm (zc0 (ms + 1)) pm))), (zcb (zkl (zc0 (ms + 1)) kl x (nI tt)) (zou o x pl (fun p => zkl (zc0 (ms + 1)) pl p (nI tt))))) (upd mc kk (mc kk + 1)) ((zsel fin false true), wc, nu, lc, le, af, (tr + 1), 0, (zsel (zc0 (ms + 1)) (cl + 1) cl), (tm + tt)) ((zsel fin (co + 1) co), (zsel fin (zyn g yn) yn), (zsel fin (zh3 (zyh g yh yn) co lc (zsel (zc0 (ms + 1)) (cl + 1) cl) (tm + tt)) yh), (zsel fin (zpc pa lc (zsel (zc0 (ms + 1)) (cl + 1) cl)) pa))))) := zswapD (A := (zWM cI cJ cZ (zh9 h2 q9) 0 (n, L) ((zcb (zkt kt x) (zou o x pt (zkt pt))), (zcb (zkm (zc0 (ms + 1)) km x) (zou o x pm (zkm (zc0 (ms + 1)) pm))), (zcb (zkl (zc0 (ms + 1)) kl x (nI tt)) (zou o x pl (fun p => zkl (zc0 (ms + 1)) pl p (nI tt))))) (upd mc kk (mc kk + 1)) ((zsel fin false true), wc, nu, lc, le, af, (tr + 1), 0, (zsel (zc0 (ms + 1)) (cl + 1) cl), (tm + tt)) ((zsel fin (co + 1) co), (zsel fin (zyn g yn) yn), (zsel fin (zh3 (zyh g yh yn) co lc (zsel (zc0 (ms + 1)) (cl + 1) cl) (tm + tt)) yh), (zsel fin (zpc pa lc (zsel (zc0 (ms + 1)) (cl + 1) cl)) pa)))) (Bw := (zWT cI cJ h (n, L) ((zkt kt x), (zkm (zc0 (ms + 1)) km x), (zkl (zc0 (ms + 1)) kl x (nI tt))) ((zou o x pt (zkt pt)), (zou o x pm (zkm (zc0 (ms + 1)) pm)), (zou o x pl (fun p => zkl (zc0 (ms + 1)) pl p (nI tt)))) (nu, le, ow, fo, (zsel fin false true), wc, lc, (tr + 1), (zsel (zc0 (ms + 1)) (cl + 1) cl), (tm + tt), 0) ((zsel fin (upd yl co (nI lc)) yl), (zsel fin (upd yc co (nI (zsel (zc0 (ms + 1)) (cl + 1) cl))) yc), (zsel fin (upd yt co (nI (tm + tt))) yt), (zsel fin (co + 1) co), (zsel fin (zpc pa lc (zsel (zc0 (ms + 1)) (cl + 1) cl)) pa), (zsel fin (su + lc) su), (zsel fin (sc + (zsel (zc0 (ms + 1)) (cl + 1) cl)) sc)) (upd mc kk (mc kk + 1))) ++ [(oa, .inl (cJ, 1, .inr (.inl (vp_updL yo 0 (((nI kk)).toInt64)))))]) hD
  refine lv_istore (lv' := [(6, .int (nI kk)), (5, .int 0), (0, .ref b), (1, .ref (h 0)), (2, .ref (h2 0)), (3, .ref oa), (4, .int (nI (4 * j)))]) hx hb dL_law_779 hl (by decide) rfl (fun ls hl => ?_)
  refine lv_aload_n hx hb dL_law_781 rfl (lv_at hl 4 rfl) ?_
  have hP9 : va_P D vwCl ((zWM cI cJ cZ (zh9 h2 q9) 0 (n, L) ((zcb (zkt kt x) (zou o x pt (zkt pt))), (zcb (zkm (zc0 (ms + 1)) km x) (zou o x pm (zkm (zc0 (ms + 1)) pm))), (zcb (zkl (zc0 (ms + 1)) kl x (nI tt)) (zou o x pl (fun p => zkl (zc0 (ms + 1)) pl p (nI tt))))) (upd mc kk (mc kk + 1)) ((zsel fin false true), wc, nu, lc, le, af, (tr + 1), 0, (zsel (zc0 (ms + 1)) (cl + 1) cl), (tm + tt)) ((zsel fin (co + 1) co), (zsel fin (zyn g yn) yn), (zsel fin (zh3 (zyh g yh yn) co lc (zsel (zc0 (ms + 1)) (cl + 1) cl) (tm + tt)) yh), (zsel fin (zpc pa lc (zsel (zc0 (ms + 1)) (cl + 1) cl)) pa))) ++ ((zWT cI cJ h (n, L) ((zkt kt x), (zkm (zc0 (ms + 1)) km x), (zkl (zc0 (ms + 1)) kl x (nI tt))) ((zou o x pt (zkt pt)), (zou o x pm (zkm (zc0 (ms + 1)) pm)), (zou o x pl (fun p => zkl (zc0 (ms + 1)) pl p (nI tt)))) (nu, le, ow, fo, (zsel fin false true), wc, lc, (tr + 1), (zsel (zc0 (ms + 1)) (cl + 1) cl), (tm + tt), 0) ((zsel fin (upd yl co (nI lc)) yl), (zsel fin (upd yc co (nI (zsel (zc0 (ms + 1)) (cl + 1) cl))) yc), (zsel fin (upd yt co (nI (tm + tt))) yt), (zsel fin (co + 1) co), (zsel fin (zpc pa lc (zsel (zc0 (ms + 1)) (cl + 1) cl)) pa), (zsel fin (su + lc) su), (zsel fin (sc + (zsel (zc0 (ms + 1)) (cl + 1) cl)) sc)) (upd mc kk (mc kk + 1))) ++ [(oa, .inl (cJ, 1, .inr (.inl (vp_updL yo 0 (((nI kk)).toInt64)))))])) H := zswapP (A := (zWT cI cJ h (n, L) ((zkt kt x), (zkm (zc0 (ms + 1)) km x), (zkl (zc0 (ms + 1)) kl x (nI tt))) ((zou o x pt (zkt pt)), (zou o x pm (zkm (zc0 (ms + 1)) pm)), (zou o x pl (fun p => zkl (zc0 (ms + 1)) pl p (nI tt)))) (nu, le, ow, fo, (zsel fin false true), wc, lc, (tr + 1), (zsel (zc0 (ms + 1)) (cl + 1) cl), (tm + tt), 0) ((zsel fin (upd yl co (nI lc)) yl), (zsel fin (upd yc co (nI (zsel (zc0 (ms + 1)) (cl + 1) cl))) yc), (zsel fin (upd yt co (nI (tm + tt))) yt), (zsel fin (co + 1) co), (zsel fin (zpc pa lc (zsel (zc0 (ms + 1)) (cl + 1) cl)) pa), (zsel fin (su + lc) su), (zsel fin (sc + (zsel (zc0 (ms + 1)) (cl + 1) cl)) sc)) (upd mc kk (mc kk + 1))) ++ [(oa, .inl (cJ, 1, .inr (.inl (vp_updL yo 0 (((nI kk)).toInt64)))))]) (Bw := (zWM cI cJ cZ (zh9 h2 q9) 0 (n, L) ((zcb (zkt kt x) (zou o x pt (zkt pt))), (zcb (zkm (zc0 (ms + 1)) km x) (zou o x pm (zkm (zc0 (ms + 1)) pm))), (zcb (zkl (zc0 (ms + 1)) kl x (nI tt)) (zou o x pl (fun p => zkl (zc0 (ms + 1)) pl p (nI tt))))) (upd mc kk (mc kk + 1)) ((zsel fin false true), wc, nu, lc, le, af, (tr + 1), 0, (zsel (zc0 (ms + 1)) (cl + 1) cl), (tm + tt)) ((zsel fin (co + 1) co), (zsel fin (zyn g yn) yn), (zsel fin (zh3 (zyh g yh yn) co lc (zsel (zc0 (ms + 1)) (cl + 1) cl) (tm + tt)) yh), (zsel fin (zpc pa lc (zsel (zc0 (ms + 1)) (cl + 1) cl)) pa)))) hP
  have hD9 : va_D (zAb s.heap.size) ((zWM cI cJ cZ (zh9 h2 q9) 0 (n, L) ((zcb (zkt kt x) (zou o x pt (zkt pt))), (zcb (zkm (zc0 (ms + 1)) km x) (zou o x pm (zkm (zc0 (ms + 1)) pm))), (zcb (zkl (zc0 (ms + 1)) kl x (nI tt)) (zou o x pl (fun p => zkl (zc0 (ms + 1)) pl p (nI tt))))) (upd mc kk (mc kk + 1)) ((zsel fin false true), wc, nu, lc, le, af, (tr + 1), 0, (zsel (zc0 (ms + 1)) (cl + 1) cl), (tm + tt)) ((zsel fin (co + 1) co), (zsel fin (zyn g yn) yn), (zsel fin (zh3 (zyh g yh yn) co lc (zsel (zc0 (ms + 1)) (cl + 1) cl) (tm + tt)) yh), (zsel fin (zpc pa lc (zsel (zc0 (ms + 1)) (cl + 1) cl)) pa))) ++ ((zWT cI cJ h (n, L) ((zkt kt x), (zkm (zc0 (ms + 1)) km x), (zkl (zc0 (ms + 1)) kl x (nI tt))) ((zou o x pt (zkt pt)), (zou o x pm (zkm (zc0 (ms + 1)) pm)), (zou o x pl (fun p => zkl (zc0 (ms + 1)) pl p (nI tt)))) (nu, le, ow, fo, (zsel fin false true), wc, lc, (tr + 1), (zsel (zc0 (ms + 1)) (cl + 1) cl), (tm + tt), 0) ((zsel fin (upd yl co (nI lc)) yl), (zsel fin (upd yc co (nI (zsel (zc0 (ms + 1)) (cl + 1) cl))) yc), (zsel fin (upd yt co (nI (tm + tt))) yt), (zsel fin (co + 1) co), (zsel fin (zpc pa lc (zsel (zc0 (ms + 1)) (cl + 1) cl)) pa), (zsel fin (su + lc) su), (zsel fin (sc + (zsel (zc0 (ms + 1)) (cl + 1) cl)) sc)) (upd mc kk (mc kk + 1))) ++ [(oa, .inl (cJ, 1, .inr (.inl (vp_updL yo 0 (((nI kk)).toInt64)))))])) := zswapD (A := (zWT cI cJ h (n, L) ((zkt kt x), (zkm (zc0 (ms + 1)) km x), (zkl (zc0 (ms + 1)) kl x (nI tt))) ((zou o x pt (zkt pt)), (zou o x pm (zkm (zc0 (ms + 1)) pm)), (zou o x pl (fun p => zkl (zc0 (ms + 1)) pl p (nI tt)))) (nu, le, ow, fo, (zsel fin false true), wc, lc, (tr + 1), (zsel (zc0 (ms + 1)) (cl + 1) cl), (tm + tt), 0) ((zsel fin (upd yl co (nI lc)) yl), (zsel fin (upd yc co (nI (zsel (zc0 (ms + 1)) (cl + 1) cl))) yc), (zsel fin (upd yt co (nI (tm + tt))) yt), (zsel fin (co + 1) co), (zsel fin (zpc pa lc (zsel (zc0 (ms + 1)) (cl + 1) cl)) pa), (zsel fin (su + lc) su), (zsel fin (sc + (zsel (zc0 (ms + 1)) (cl + 1) cl)) sc)) (upd mc kk (mc kk + 1))) ++ [(oa, .inl (cJ, 1, .inr (.inl (vp_updL yo 0 (((nI kk)).toInt64)))))]) (Bw := (zWM cI cJ cZ (zh9 h2 q9) 0 (n, L) ((zcb (zkt kt x) (zou o x pt (zkt pt))), (zcb (zkm (zc0 (ms + 1)) km x) (zou o x pm (zkm (zc0 (ms + 1)) pm))), (zcb (zkl (zc0 (ms + 1)) kl x (nI tt)) (zou o x pl (fun p => zkl (zc0 (ms + 1)) pl p (nI tt))))) (upd mc kk (mc kk + 1)) ((zsel fin false true), wc, nu, lc, le, af, (tr + 1), 0, (zsel (zc0 (ms + 1)) (cl + 1) cl), (tm + tt)) ((zsel fin (co + 1) co), (zsel fin (zyn g yn) yn), (zsel fin (zh3 (zyh g yh yn) co lc (zsel (zc0 (ms + 1)) (cl + 1) cl) (tm + tt)) yh), (zsel fin (zpc pa lc (zsel (zc0 (ms + 1)) (cl + 1) cl)) pa)))) hD
  refine zci (zrV (As := []) (rest := []) ⟨hx, hb, hml, hown, hts⟩ (zV 0 hP9 hD9 hK hE hB hS rfl rfl) (c_X5_thrown  ) (cwV 0 hts gL_law_X5_thrown rfl rfl rfl hdv_X5_thrown ⟨Nat.le_of_ble_eq_true rfl, Nat.le_of_ble_eq_true rfl⟩) rfl rfl hl.1 rfl (lv_room (Nat.le_of_ble_eq_true rfl)) dL_law_782 ⟨(show cc + 0 + 1 + 0 ≤ 601024 by omega), (show ss + 0 + 1536 + 0 ≤ 7293034 by omega)⟩) hS (fun H locs hP hD hS => ?_)
  have hP : va_P D vwCl ((zWT cI cJ h (n, L) ((zkt kt x), (zkm (zc0 (ms + 1)) km x), (zkl (zc0 (ms + 1)) kl x (nI tt))) ((zou o x pt (zkt pt)), (zou o x pm (zkm (zc0 (ms + 1)) pm)), (zou o x pl (fun p => zkl (zc0 (ms + 1)) pl p (nI tt)))) (nu, le, ow, fo, (zsel fin false true), wc, lc, (tr + 1), (zsel (zc0 (ms + 1)) (cl + 1) cl), (tm + tt), 0) ((zsel fin (upd yl co (nI lc)) yl), (zsel fin (upd yc co (nI (zsel (zc0 (ms + 1)) (cl + 1) cl))) yc), (zsel fin (upd yt co (nI (tm + tt))) yt), (zsel fin (co + 1) co), (zsel fin (zpc pa lc (zsel (zc0 (ms + 1)) (cl + 1) cl)) pa), (zsel fin (su + lc) su), (zsel fin (sc + (zsel (zc0 (ms + 1)) (cl + 1) cl)) sc)) (upd mc kk (mc kk + 1))) ++ ((oa, .inl (cJ, 1, .inr (.inl (vp_updL yo 0 (((nI kk)).toInt64))))) :: (zWM cI cJ cZ (zh9 h2 q9) 0 (n, L) ((zcb (zkt kt x) (zou o x pt (zkt pt))), (zcb (zkm (zc0 (ms + 1)) km x) (zou o x pm (zkm (zc0 (ms + 1)) pm))), (zcb (zkl (zc0 (ms + 1)) kl x (nI tt)) (zou o x pl (fun p => zkl (zc0 (ms + 1)) pl p (nI tt))))) (upd mc kk (mc kk + 1)) ((zsel fin false true), wc, nu, lc, le, af, (tr + 1), 0, (zsel (zc0 (ms + 1)) (cl + 1) cl), (tm + tt)) ((zsel fin (co + 1) co), (zsel fin (zyn g yn) yn), (zsel fin (zh3 (zyh g yh yn) co lc (zsel (zc0 (ms + 1)) (cl + 1) cl) (tm + tt)) yh), (zsel fin (zpc pa lc (zsel (zc0 (ms + 1)) (cl + 1) cl)) pa))))) H := zswapP (A := (zWM cI cJ cZ (zh9 h2 q9) 0 (n, L) ((zcb (zkt kt x) (zou o x pt (zkt pt))), (zcb (zkm (zc0 (ms + 1)) km x) (zou o x pm (zkm (zc0 (ms + 1)) pm))), (zcb (zkl (zc0 (ms + 1)) kl x (nI tt)) (zou o x pl (fun p => zkl (zc0 (ms + 1)) pl p (nI tt))))) (upd mc kk (mc kk + 1)) ((zsel fin false true), wc, nu, lc, le, af, (tr + 1), 0, (zsel (zc0 (ms + 1)) (cl + 1) cl), (tm + tt)) ((zsel fin (co + 1) co), (zsel fin (zyn g yn) yn), (zsel fin (zh3 (zyh g yh yn) co lc (zsel (zc0 (ms + 1)) (cl + 1) cl) (tm + tt)) yh), (zsel fin (zpc pa lc (zsel (zc0 (ms + 1)) (cl + 1) cl)) pa)))) (Bw := (zWT cI cJ h (n, L) ((zkt kt x), (zkm (zc0 (ms + 1)) km x), (zkl (zc0 (ms + 1)) kl x (nI tt))) ((zou o x pt (zkt pt)), (zou o x pm (zkm (zc0 (ms + 1)) pm)), (zou o x pl (fun p => zkl (zc0 (ms + 1)) pl p (nI tt)))) (nu, le, ow, fo, (zsel fin false true), wc, lc, (tr + 1), (zsel (zc0 (ms + 1)) (cl + 1) cl), (tm + tt), 0) ((zsel fin (upd yl co (nI lc)) yl), (zsel fin (upd yc co (nI (zsel (zc0 (ms + 1)) (cl + 1) cl))) yc), (zsel fin (upd yt co (nI (tm + tt))) yt), (zsel fin (co + 1) co), (zsel fin (zpc pa lc (zsel (zc0 (ms + 1)) (cl + 1) cl)) pa), (zsel fin (su + lc) su), (zsel fin (sc + (zsel (zc0 (ms + 1)) (cl + 1) cl)) sc)) (upd mc kk (mc kk + 1))) ++ [(oa, .inl (cJ, 1, .inr (.inl (vp_updL yo 0 (((nI kk)).toInt64)))))]) hP
  have hD : va_D (zAb s.heap.size) ((zWT cI cJ h (n, L) ((zkt kt x), (zkm (zc0 (ms + 1)) km x), (zkl (zc0 (ms + 1)) kl x (nI tt))) ((zou o x pt (zkt pt)), (zou o x pm (zkm (zc0 (ms + 1)) pm)), (zou o x pl (fun p => zkl (zc0 (ms + 1)) pl p (nI tt)))) (nu, le, ow, fo, (zsel fin false true), wc, lc, (tr + 1), (zsel (zc0 (ms + 1)) (cl + 1) cl), (tm + tt), 0) ((zsel fin (upd yl co (nI lc)) yl), (zsel fin (upd yc co (nI (zsel (zc0 (ms + 1)) (cl + 1) cl))) yc), (zsel fin (upd yt co (nI (tm + tt))) yt), (zsel fin (co + 1) co), (zsel fin (zpc pa lc (zsel (zc0 (ms + 1)) (cl + 1) cl)) pa), (zsel fin (su + lc) su), (zsel fin (sc + (zsel (zc0 (ms + 1)) (cl + 1) cl)) sc)) (upd mc kk (mc kk + 1))) ++ ((oa, .inl (cJ, 1, .inr (.inl (vp_updL yo 0 (((nI kk)).toInt64))))) :: (zWM cI cJ cZ (zh9 h2 q9) 0 (n, L) ((zcb (zkt kt x) (zou o x pt (zkt pt))), (zcb (zkm (zc0 (ms + 1)) km x) (zou o x pm (zkm (zc0 (ms + 1)) pm))), (zcb (zkl (zc0 (ms + 1)) kl x (nI tt)) (zou o x pl (fun p => zkl (zc0 (ms + 1)) pl p (nI tt))))) (upd mc kk (mc kk + 1)) ((zsel fin false true), wc, nu, lc, le, af, (tr + 1), 0, (zsel (zc0 (ms + 1)) (cl + 1) cl), (tm + tt)) ((zsel fin (co + 1) co), (zsel fin (zyn g yn) yn), (zsel fin (zh3 (zyh g yh yn) co lc (zsel (zc0 (ms + 1)) (cl + 1) cl) (tm + tt)) yh), (zsel fin (zpc pa lc (zsel (zc0 (ms + 1)) (cl + 1) cl)) pa))))) := zswapD (A := (zWM cI cJ cZ (zh9 h2 q9) 0 (n, L) ((zcb (zkt kt x) (zou o x pt (zkt pt))), (zcb (zkm (zc0 (ms + 1)) km x) (zou o x pm (zkm (zc0 (ms + 1)) pm))), (zcb (zkl (zc0 (ms + 1)) kl x (nI tt)) (zou o x pl (fun p => zkl (zc0 (ms + 1)) pl p (nI tt))))) (upd mc kk (mc kk + 1)) ((zsel fin false true), wc, nu, lc, le, af, (tr + 1), 0, (zsel (zc0 (ms + 1)) (cl + 1) cl), (tm + tt)) ((zsel fin (co + 1) co), (zsel fin (zyn g yn) yn), (zsel fin (zh3 (zyh g yh yn) co lc (zsel (zc0 (ms + 1)) (cl + 1) cl) (tm + tt)) yh), (zsel fin (zpc pa lc (zsel (zc0 (ms + 1)) (cl + 1) cl)) pa)))) (Bw := (zWT cI cJ h (n, L) ((zkt kt x), (zkm (zc0 (ms + 1)) km x), (zkl (zc0 (ms + 1)) kl x (nI tt))) ((zou o x pt (zkt pt)), (zou o x pm (zkm (zc0 (ms + 1)) pm)), (zou o x pl (fun p => zkl (zc0 (ms + 1)) pl p (nI tt)))) (nu, le, ow, fo, (zsel fin false true), wc, lc, (tr + 1), (zsel (zc0 (ms + 1)) (cl + 1) cl), (tm + tt), 0) ((zsel fin (upd yl co (nI lc)) yl), (zsel fin (upd yc co (nI (zsel (zc0 (ms + 1)) (cl + 1) cl))) yc), (zsel fin (upd yt co (nI (tm + tt))) yt), (zsel fin (co + 1) co), (zsel fin (zpc pa lc (zsel (zc0 (ms + 1)) (cl + 1) cl)) pa), (zsel fin (su + lc) su), (zsel fin (sc + (zsel (zc0 (ms + 1)) (cl + 1) cl)) sc)) (upd mc kk (mc kk + 1))) ++ [(oa, .inl (cJ, 1, .inr (.inl (vp_updL yo 0 (((nI kk)).toInt64)))))]) hD
  refine lv_iload hx hb dL_law_785 (lv_at hl 1 rfl) ?_
  refine lv_icmp_eq (tgt := 792) hx hb dL_law_787 (by decide) (fun c_9 => ?_) (fun c_9 => ?_)
  · skip
    refine lv_iload hx hb dL_law_792 (lv_at hl 1 rfl) ?_
    refine lv_if_ne (tgt := 809) hx hb dL_law_794 (by decide) (fun c_10 => ?_) (fun c_10 => ?_)
    · skip
      exfalso; first | omega | (revert c_10; decide) | (exact absurd rfl c_10) | simp_all
    · skip
      refine lv_aload_n hx hb dL_law_797 rfl (lv_at hl 5 rfl) ?_
      refine lv_iconst (v := 0) hx hb dL_law_798 (by decide) ?_
      refine va_lald hx hb hK hP 21 1 rfl rfl (vp_in_nI (n := 0) (N := 1) (by omega) (by omega)) dL_law_799 ?_
      refine lv_topl (fun v_11 ev_11 => ?_)
      obtain rfl : (((nI kk)).toInt64) = v_11 := (ev_11.trans (pk_uLs (f := yo) (k := 0) (x := (((nI kk)).toInt64)))).symm
      refine lv_iload hx hb dL_law_800 (lv_at hl 0 rfl) ?_
      refine lv_i2l (v := ((nI kk)).toInt64) hx hb dL_law_802 rfl ?_
      refine W.lcmp hx hb dL_law_803 ?_
      refine lv_if_eq (tgt := 809) hx hb dL_law_804 (by decide) (fun c_12 => ?_) (fun c_12 => ?_)
      · skip
        have c_12 : (((nI kk)).toInt64) = (((nI kk)).toInt64) := (lg_cmp_eq _ _).mp c_12
        refine lv_goto (tgt := 1191) hx hb dL_law_809 (by decide) ?_
        refine W.widen (k := cc + 2) (n := ss + 1542) (show cc + 0 + 1 + 0 ≤ cc + 2 by omega) (show ss + 0 + 1536 + 0 ≤ ss + 1542 by omega) ?_
        exact kont h (zh9 h2 q9) oa (vp_updL yo 0 (((nI kk)).toInt64)) 0 n L (zkt kt x) (zkm (zc0 (ms + 1)) km x) (zkl (zc0 (ms + 1)) kl x (nI tt)) (zou o x pt (zkt pt)) (zou o x pm (zkm (zc0 (ms + 1)) pm)) (zou o x pl (fun p => zkl (zc0 (ms + 1)) pl p (nI tt))) nu le ow fo (zsel fin false true) wc lc (tr + 1) (zsel (zc0 (ms + 1)) (cl + 1) cl) (tm + tt) 0 (zsel fin (upd yl co (nI lc)) yl) (zsel fin (upd yc co (nI (zsel (zc0 (ms + 1)) (cl + 1) cl))) yc) (zsel fin (upd yt co (nI (tm + tt))) yt) (zsel fin (co + 1) co) (zsel fin (zpc pa lc (zsel (zc0 (ms + 1)) (cl + 1) cl)) pa) (zsel fin (su + lc) su) (zsel fin (sc + (zsel (zc0 (ms + 1)) (cl + 1) cl)) sc) (upd mc kk (mc kk + 1)) af (zsel fin (zyn g yn) yn) (zsel fin (zh3 (zyh g yh yn) co lc (zsel (zc0 (ms + 1)) (cl + 1) cl) (tm + tt)) yh) (hI.tried (ms' := ms + 1) (o := o) ht1 ht2 hj5 hf hg) _ _ _ hP hD hS (lv_sub hl [2, 3, 4, 5, 6] rfl)
      · skip
        have c_12 : ¬ (((nI kk)).toInt64) = (((nI kk)).toInt64) := fun hh => c_12 ((lg_cmp_eq _ _).mpr hh)
        exact absurd rfl c_12
  · skip
    exfalso; first | omega | (revert c_9; decide) | (exact absurd rfl c_9) | simp_all

set_option maxHeartbeats 1000000 in
set_option maxRecDepth 100000 in
theorem law_strike_x1 {p : Program} {l : Launch} {e : Env} {s : State} {m : MethodId} {below : List Frame} {meth : Method} {c : Code} {b L9 : Nat} {xs : Nat → Int32} {D : va_G} {cI cJ cZ : ClassId} {kr kp j cc ss : Nat} {h h2 : Nat → Nat} {oa : Nat} {yo : Nat → Int64} {th : Int32} {n : Nat} {L : Nat → Int64} {kt : Nat → Int32} {km : Nat → Int32} {kl : Nat → Int32} {pt : Nat → Int32} {pm : Nat → Int32} {pl : Nat → Int32} {nu : Nat → Int32} {le : Nat → Int32} {ow : Nat → Int32} {fo : Nat → Int32} {run : Bool} {wc : Nat} {lc : Nat} {tr : Nat} {cl : Nat} {tm : Nat} {ms : Nat} {yl : Nat → Int32} {yc : Nat → Int32} {yt : Nat → Int32} {co : Nat} {pa : Int32} {su : Nat} {sc : Nat} {mc : Nat → Int32} {af : Nat → Int32} {yn : Nat} {yh : Nat → Int32} {i : Int32} {i2 : Int32} (C : zLw p l s m meth c b L9 xs D cI cJ cZ kr kp) (hj : 4 * j + 4 ≤ L9) (hcc : cc + 2 ≤ 601024) (hss : ss + 1542 ≤ 7293034) (kont : zKt p l e s m below meth c b D cI cJ cZ j cc ss) (hI : zInv j n L pt le ow af run wc lc tr cl tm ms yl yc yt co yn su sc yh) (ea1 : xs (4 * j + 1) = i) (ea2 : xs (4 * j + 2) = i2) (h1 : ¬ (¬ i < 0 ∧ ¬ 26 ≤ i)) {H : Heap} {locs : List Loc} {ls : Array Slot} (hP : va_P D vwCl ((zWT cI cJ h (n, L) (kt, km, kl) (pt, pm, pl) (nu, le, ow, fo, run, wc, lc, tr, cl, tm, ms) (yl, yc, yt, co, pa, su, sc) mc) ++ ((oa, .inl (cJ, 1, .inr (.inl yo))) :: (zWM cI cJ cZ h2 th (n, L) ((zcb kt pt), (zcb km pm), (zcb kl pl)) mc (run, wc, nu, lc, le, af, tr, ms, cl, tm) (co, yn, yh, pa)))) H) (hD : va_D (zAb s.heap.size) ((zWT cI cJ h (n, L) (kt, km, kl) (pt, pm, pl) (nu, le, ow, fo, run, wc, lc, tr, cl, tm, ms) (yl, yc, yt, co, pa, su, sc) mc) ++ ((oa, .inl (cJ, 1, .inr (.inl yo))) :: (zWM cI cJ cZ h2 th (n, L) ((zcb kt pt), (zcb km pm), (zcb kl pl)) mc (run, wc, nu, lc, le, af, tr, ms, cl, tm) (co, yn, yh, pa))))) (hS : va_S (zAb s.heap.size) s.heap H locs) (hl : lv_has ls 9 [(0, .ref b), (1, .ref (h 0)), (2, .ref (h2 0)), (3, .ref oa), (4, .int (nI (4 * j)))]) : W p l e room_1 s m #[Value.ref b] below meth c H locs cc ss (lw_Z below #[Value.ref b] s) (F0 m 744 ls []) := by
  obtain ⟨C0, hls, hK, hE, hL9⟩ := C
  obtain ⟨hx, hb, hr, hml, hown, hts0, hX, hbl, hlocks, hgv⟩ := C0
  have hts : ∀ w ∈ wsL_law, w.before #[Value.ref b] s = true := fun w h => hts0 w (wsL_law_in w h)
  have hbA : ¬ zAb s.heap.size b := Nat.not_le.mpr hbl
  have hB : s.heap.size ≤ s.heap.size := Nat.le_refl _
  have hn40 := hI.1.1
  have hzk := hI.1.2
  obtain ⟨hwc6, hlc48, htrl, hclt, hms1⟩ := hI.2.1
  have hrt := hI.2.2.1
  have hle := hI.2.2.2.1
  have hMk := hI.2.2.2.2.1
  have hct := hI.2.2.2.2.2.1
  have hHi := hI.2.2.2.2.2.2.1
  have hsu := hI.2.2.2.2.2.2.2.2.1
  have hj5 : j ≤ 511 := by omega
  have hco : co < 256 := by have := hct.1; omega
  have hco6 : co ≤ 256 := Nat.le_of_lt hco
  have hsl : su < 2147483648 := by have := hsu.2.2; omega
  have hpt := hI.hpt (Nat.le_succ_of_le hj5)
  refine lv_aload_n hx hb dL_law_744 rfl (lv_at hl 1 rfl) ?_
  refine lv_aload_n hx hb dL_law_745 rfl (lv_at hl 0 rfl) ?_
  refine lv_iload hx hb dL_law_746 (lv_at hl 4 rfl) ?_
  refine lv_iconst (v := 1) hx hb dL_law_748 (by decide) ?_
  refine lv_iadd hx hb dL_law_749 ?_
  refine lv_topi (fun v_1 ev_1 => ?_)
  obtain rfl : v_1 = (nI ((4 * j) + 1)) := ev_1.trans (nI_add (4 * j) 1)
  refine va_sld hx hb hX hbl hbA hS (vp_in_nI (n := ((4 * j) + 1)) (N := L9) (by omega) (by omega)) dL_law_750 ?_
  refine lv_topi (fun v_2 ev_2 => ?_)
  obtain rfl : i = v_2 := (ev_2.trans ((congrArg xs (nI_clamp (by omega))).trans ea1)).symm
  refine lv_aload_n hx hb dL_law_751 rfl (lv_at hl 0 rfl) ?_
  refine lv_iload hx hb dL_law_752 (lv_at hl 4 rfl) ?_
  refine lv_iconst (v := 2) hx hb dL_law_754 (by decide) ?_
  refine lv_iadd hx hb dL_law_755 ?_
  refine lv_topi (fun v_3 ev_3 => ?_)
  obtain rfl : v_3 = (nI ((4 * j) + 2)) := ev_3.trans (nI_add (4 * j) 2)
  refine va_sld hx hb hX hbl hbA hS (vp_in_nI (n := ((4 * j) + 2)) (N := L9) (by omega) (by omega)) dL_law_756 ?_
  refine lv_topi (fun v_4 ev_4 => ?_)
  obtain rfl : i2 = v_4 := (ev_4.trans ((congrArg xs (nI_clamp (by omega))).trans ea2)).symm
  refine lv_aload_n hx hb dL_law_757 rfl (lv_at hl 3 rfl) ?_
  refine zci (vx_runSW (As := [.ref (h 0), .int i, .int i2, .ref oa]) (rest := []) ⟨hx, hb, hml, hown, hts⟩ (c_L_strike_x1  hls (h1)) (vx_cwSW 4 hts gL_law_L_strike rfl rfl rfl hds_L_strike ⟨Nat.le_of_ble_eq_true rfl, Nat.le_of_ble_eq_true rfl⟩) (zS hP hD hK hE hB hS) rfl rfl hl.1 rfl (lv_room (Nat.le_of_ble_eq_true rfl)) dL_law_758 ⟨(show cc + 1 ≤ 601024 by omega), (show ss + 6 ≤ 7293034 by omega)⟩) hS (fun H locs hP hD hS => ?_)
  have hP : va_P D vwCl ((zWT cI cJ h (n, L) (kt, km, kl) (pt, pm, pl) (nu, le, ow, fo, run, wc, lc, tr, cl, tm, ms) (yl, yc, yt, co, pa, su, sc) mc) ++ ((oa, .inl (cJ, 1, .inr (.inl yo))) :: (zWM cI cJ cZ h2 th (n, L) ((zcb kt pt), (zcb km pm), (zcb kl pl)) mc (run, wc, nu, lc, le, af, tr, ms, cl, tm) (co, yn, yh, pa)))) H := hP
  have hD : va_D (zAb s.heap.size) ((zWT cI cJ h (n, L) (kt, km, kl) (pt, pm, pl) (nu, le, ow, fo, run, wc, lc, tr, cl, tm, ms) (yl, yc, yt, co, pa, su, sc) mc) ++ ((oa, .inl (cJ, 1, .inr (.inl yo))) :: (zWM cI cJ cZ h2 th (n, L) ((zcb kt pt), (zcb km pm), (zcb kl pl)) mc (run, wc, nu, lc, le, af, tr, ms, cl, tm) (co, yn, yh, pa)))) := hD
  refine lv_istore (lv' := [(5, .int 1), (0, .ref b), (1, .ref (h 0)), (2, .ref (h2 0)), (3, .ref oa), (4, .int (nI (4 * j)))]) hx hb dL_law_761 hl (by decide) rfl (fun ls hl => ?_)
  refine lv_aload_n hx hb dL_law_763 rfl (lv_at hl 3 rfl) ?_
  refine lv_aload_n hx hb dL_law_764 rfl (lv_at hl 1 rfl) ?_
  refine lv_iload hx hb dL_law_765 (lv_at hl 5 rfl) ?_
  refine lv_iconst (v := 1) hx hb dL_law_767 (by decide) ?_
  refine lv_iadd hx hb dL_law_768 ?_
  refine lv_topi (fun v_5 ev_5 => ?_)
  obtain rfl : v_5 = (nI ((4 * j) + 1)) := ev_5.trans (nI_add (4 * j) 1)
  refine va_sld hx hb hX hbl hbA hS (vp_in_nI (n := ((4 * j) + 1)) (N := L9) (by omega) (by omega)) dL_law_769 ?_
  refine lv_topi (fun v_6 ev_6 => ?_)
  obtain rfl : i = v_6 := (ev_6.trans ((congrArg xs (nI_clamp (by omega))).trans ea1)).symm
  refine lv_aload_n hx hb dL_law_770 rfl (lv_at hl 1 rfl) ?_
  refine lv_iload hx hb dL_law_771 (lv_at hl 5 rfl) ?_
  refine lv_iconst (v := 2) hx hb dL_law_773 (by decide) ?_
  refine lv_iadd hx hb dL_law_774 ?_
  refine lv_topi (fun v_7 ev_7 => ?_)
  obtain rfl : v_7 = (nI ((4 * j) + 2)) := ev_7.trans (nI_add (4 * j) 2)
  refine va_sld hx hb hX hbl hbA hS (vp_in_nI (n := ((4 * j) + 2)) (N := L9) (by omega) (by omega)) dL_law_775 ?_
  refine lv_topi (fun v_8 ev_8 => ?_)
  obtain rfl : i2 = v_8 := (ev_8.trans ((congrArg xs (nI_clamp (by omega))).trans ea2)).symm
  have hP9 : va_P D vwCl ((zWM cI cJ cZ h2 th (n, L) ((zcb kt pt), (zcb km pm), (zcb kl pl)) mc (run, wc, nu, lc, le, af, tr, ms, cl, tm) (co, yn, yh, pa)) ++ ((zWT cI cJ h (n, L) (kt, km, kl) (pt, pm, pl) (nu, le, ow, fo, run, wc, lc, tr, cl, tm, ms) (yl, yc, yt, co, pa, su, sc) mc) ++ [(oa, .inl (cJ, 1, .inr (.inl yo)))])) H := zswapP (A := (zWT cI cJ h (n, L) (kt, km, kl) (pt, pm, pl) (nu, le, ow, fo, run, wc, lc, tr, cl, tm, ms) (yl, yc, yt, co, pa, su, sc) mc) ++ [(oa, .inl (cJ, 1, .inr (.inl yo)))]) (Bw := (zWM cI cJ cZ h2 th (n, L) ((zcb kt pt), (zcb km pm), (zcb kl pl)) mc (run, wc, nu, lc, le, af, tr, ms, cl, tm) (co, yn, yh, pa))) hP
  have hD9 : va_D (zAb s.heap.size) ((zWM cI cJ cZ h2 th (n, L) ((zcb kt pt), (zcb km pm), (zcb kl pl)) mc (run, wc, nu, lc, le, af, tr, ms, cl, tm) (co, yn, yh, pa)) ++ ((zWT cI cJ h (n, L) (kt, km, kl) (pt, pm, pl) (nu, le, ow, fo, run, wc, lc, tr, cl, tm, ms) (yl, yc, yt, co, pa, su, sc) mc) ++ [(oa, .inl (cJ, 1, .inr (.inl yo)))])) := zswapD (A := (zWT cI cJ h (n, L) (kt, km, kl) (pt, pm, pl) (nu, le, ow, fo, run, wc, lc, tr, cl, tm, ms) (yl, yc, yt, co, pa, su, sc) mc) ++ [(oa, .inl (cJ, 1, .inr (.inl yo)))]) (Bw := (zWM cI cJ cZ h2 th (n, L) ((zcb kt pt), (zcb km pm), (zcb kl pl)) mc (run, wc, nu, lc, le, af, tr, ms, cl, tm) (co, yn, yh, pa))) hD
  refine zci (zrV (As := [.int i, .int i2]) (rest := []) ⟨hx, hb, hml, hown, hts⟩ (zV 0 hP9 hD9 hK hE hB hS rfl rfl) (c_X5_strike_x1  (h1)) (cwV 2 hts gL_law_X5_strike rfl rfl rfl hdv_X5_strike ⟨Nat.le_of_ble_eq_true rfl, Nat.le_of_ble_eq_true rfl⟩) rfl rfl hl.1 rfl (lv_room (Nat.le_of_ble_eq_true rfl)) dL_law_776 ⟨(show cc + 1 + 0 ≤ 601024 by omega), (show ss + 6 + 0 ≤ 7293034 by omega)⟩) hS (fun H locs hP hD hS => ?_)
  have hP : va_P D vwCl ((zWT cI cJ h (n, L) (kt, km, kl) (pt, pm, pl) (nu, le, ow, fo, run, wc, lc, tr, cl, tm, ms) (yl, yc, yt, co, pa, su, sc) mc) ++ ((oa, .inl (cJ, 1, .inr (.inl yo))) :: (zWM cI cJ cZ h2 1 (n, L) ((zcb kt pt), (zcb km pm), (zcb kl pl)) mc (run, wc, nu, lc, le, af, tr, ms, cl, tm) (co, yn, yh, pa)))) H := zswapP (A := (zWM cI cJ cZ h2 1 (n, L) ((zcb kt pt), (zcb km pm), (zcb kl pl)) mc (run, wc, nu, lc, le, af, tr, ms, cl, tm) (co, yn, yh, pa))) (Bw := (zWT cI cJ h (n, L) (kt, km, kl) (pt, pm, pl) (nu, le, ow, fo, run, wc, lc, tr, cl, tm, ms) (yl, yc, yt, co, pa, su, sc) mc) ++ [(oa, .inl (cJ, 1, .inr (.inl yo)))]) hP
  have hD : va_D (zAb s.heap.size) ((zWT cI cJ h (n, L) (kt, km, kl) (pt, pm, pl) (nu, le, ow, fo, run, wc, lc, tr, cl, tm, ms) (yl, yc, yt, co, pa, su, sc) mc) ++ ((oa, .inl (cJ, 1, .inr (.inl yo))) :: (zWM cI cJ cZ h2 1 (n, L) ((zcb kt pt), (zcb km pm), (zcb kl pl)) mc (run, wc, nu, lc, le, af, tr, ms, cl, tm) (co, yn, yh, pa)))) := zswapD (A := (zWM cI cJ cZ h2 1 (n, L) ((zcb kt pt), (zcb km pm), (zcb kl pl)) mc (run, wc, nu, lc, le, af, tr, ms, cl, tm) (co, yn, yh, pa))) (Bw := (zWT cI cJ h (n, L) (kt, km, kl) (pt, pm, pl) (nu, le, ow, fo, run, wc, lc, tr, cl, tm, ms) (yl, yc, yt, co, pa, su, sc) mc) ++ [(oa, .inl (cJ, 1, .inr (.inl yo)))]) hD
  refine lv_istore (lv' := [(6, .int 0), (5, .int 1), (0, .ref b), (1, .ref (h 0)), (2, .ref (h2 0)), (3, .ref oa), (4, .int (nI (4 * j)))]) hx hb dL_law_779 hl (by decide) rfl (fun ls hl => ?_)
  refine lv_aload_n hx hb dL_law_781 rfl (lv_at hl 4 rfl) ?_
  have hP9 : va_P D vwCl ((zWM cI cJ cZ h2 1 (n, L) ((zcb kt pt), (zcb km pm), (zcb kl pl)) mc (run, wc, nu, lc, le, af, tr, ms, cl, tm) (co, yn, yh, pa)) ++ ((zWT cI cJ h (n, L) (kt, km, kl) (pt, pm, pl) (nu, le, ow, fo, run, wc, lc, tr, cl, tm, ms) (yl, yc, yt, co, pa, su, sc) mc) ++ [(oa, .inl (cJ, 1, .inr (.inl yo)))])) H := zswapP (A := (zWT cI cJ h (n, L) (kt, km, kl) (pt, pm, pl) (nu, le, ow, fo, run, wc, lc, tr, cl, tm, ms) (yl, yc, yt, co, pa, su, sc) mc) ++ [(oa, .inl (cJ, 1, .inr (.inl yo)))]) (Bw := (zWM cI cJ cZ h2 1 (n, L) ((zcb kt pt), (zcb km pm), (zcb kl pl)) mc (run, wc, nu, lc, le, af, tr, ms, cl, tm) (co, yn, yh, pa))) hP
  have hD9 : va_D (zAb s.heap.size) ((zWM cI cJ cZ h2 1 (n, L) ((zcb kt pt), (zcb km pm), (zcb kl pl)) mc (run, wc, nu, lc, le, af, tr, ms, cl, tm) (co, yn, yh, pa)) ++ ((zWT cI cJ h (n, L) (kt, km, kl) (pt, pm, pl) (nu, le, ow, fo, run, wc, lc, tr, cl, tm, ms) (yl, yc, yt, co, pa, su, sc) mc) ++ [(oa, .inl (cJ, 1, .inr (.inl yo)))])) := zswapD (A := (zWT cI cJ h (n, L) (kt, km, kl) (pt, pm, pl) (nu, le, ow, fo, run, wc, lc, tr, cl, tm, ms) (yl, yc, yt, co, pa, su, sc) mc) ++ [(oa, .inl (cJ, 1, .inr (.inl yo)))]) (Bw := (zWM cI cJ cZ h2 1 (n, L) ((zcb kt pt), (zcb km pm), (zcb kl pl)) mc (run, wc, nu, lc, le, af, tr, ms, cl, tm) (co, yn, yh, pa))) hD
  refine zci (zrV (As := []) (rest := []) ⟨hx, hb, hml, hown, hts⟩ (zV 0 hP9 hD9 hK hE hB hS rfl rfl) (c_X5_thrown  ) (cwV 0 hts gL_law_X5_thrown rfl rfl rfl hdv_X5_thrown ⟨Nat.le_of_ble_eq_true rfl, Nat.le_of_ble_eq_true rfl⟩) rfl rfl hl.1 rfl (lv_room (Nat.le_of_ble_eq_true rfl)) dL_law_782 ⟨(show cc + 1 + 0 + 0 ≤ 601024 by omega), (show ss + 6 + 0 + 0 ≤ 7293034 by omega)⟩) hS (fun H locs hP hD hS => ?_)
  have hP : va_P D vwCl ((zWT cI cJ h (n, L) (kt, km, kl) (pt, pm, pl) (nu, le, ow, fo, run, wc, lc, tr, cl, tm, ms) (yl, yc, yt, co, pa, su, sc) mc) ++ ((oa, .inl (cJ, 1, .inr (.inl yo))) :: (zWM cI cJ cZ h2 1 (n, L) ((zcb kt pt), (zcb km pm), (zcb kl pl)) mc (run, wc, nu, lc, le, af, tr, ms, cl, tm) (co, yn, yh, pa)))) H := zswapP (A := (zWM cI cJ cZ h2 1 (n, L) ((zcb kt pt), (zcb km pm), (zcb kl pl)) mc (run, wc, nu, lc, le, af, tr, ms, cl, tm) (co, yn, yh, pa))) (Bw := (zWT cI cJ h (n, L) (kt, km, kl) (pt, pm, pl) (nu, le, ow, fo, run, wc, lc, tr, cl, tm, ms) (yl, yc, yt, co, pa, su, sc) mc) ++ [(oa, .inl (cJ, 1, .inr (.inl yo)))]) hP
  have hD : va_D (zAb s.heap.size) ((zWT cI cJ h (n, L) (kt, km, kl) (pt, pm, pl) (nu, le, ow, fo, run, wc, lc, tr, cl, tm, ms) (yl, yc, yt, co, pa, su, sc) mc) ++ ((oa, .inl (cJ, 1, .inr (.inl yo))) :: (zWM cI cJ cZ h2 1 (n, L) ((zcb kt pt), (zcb km pm), (zcb kl pl)) mc (run, wc, nu, lc, le, af, tr, ms, cl, tm) (co, yn, yh, pa)))) := zswapD (A := (zWM cI cJ cZ h2 1 (n, L) ((zcb kt pt), (zcb km pm), (zcb kl pl)) mc (run, wc, nu, lc, le, af, tr, ms, cl, tm) (co, yn, yh, pa))) (Bw := (zWT cI cJ h (n, L) (kt, km, kl) (pt, pm, pl) (nu, le, ow, fo, run, wc, lc, tr, cl, tm, ms) (yl, yc, yt, co, pa, su, sc) mc) ++ [(oa, .inl (cJ, 1, .inr (.inl yo)))]) hD
  refine lv_iload hx hb dL_law_785 (lv_at hl 1 rfl) ?_
  refine lv_icmp_eq (tgt := 792) hx hb dL_law_787 (by decide) (fun c_9 => ?_) (fun c_9 => ?_)
  · skip
    refine lv_iload hx hb dL_law_792 (lv_at hl 1 rfl) ?_
    refine lv_if_ne (tgt := 809) hx hb dL_law_794 (by decide) (fun c_10 => ?_) (fun c_10 => ?_)
    · skip
      refine lv_goto (tgt := 1191) hx hb dL_law_809 (by decide) ?_
      refine W.widen (k := cc + 2) (n := ss + 1542) (show cc + 1 + 0 + 0 ≤ cc + 2 by omega) (show ss + 6 + 0 + 0 ≤ ss + 1542 by omega) ?_
      exact kont h h2 oa yo 1 n L kt km kl pt pm pl nu le ow fo run wc lc tr cl tm ms yl yc yt co pa su sc mc af yn yh (hI.mono) _ _ _ hP hD hS (lv_sub hl [2, 3, 4, 5, 6] rfl)
    · skip
      exfalso; first | omega | (revert c_10; decide) | (exact absurd rfl c_10) | simp_all
  · skip
    exfalso; first | omega | (revert c_9; decide) | (exact absurd rfl c_9) | simp_all

set_option maxHeartbeats 1000000 in
set_option maxRecDepth 100000 in
theorem law_strike_x2 {p : Program} {l : Launch} {e : Env} {s : State} {m : MethodId} {below : List Frame} {meth : Method} {c : Code} {b L9 : Nat} {xs : Nat → Int32} {D : va_G} {cI cJ cZ : ClassId} {kr kp j cc ss : Nat} {h h2 : Nat → Nat} {oa : Nat} {yo : Nat → Int64} {th : Int32} {n : Nat} {L : Nat → Int64} {kt : Nat → Int32} {km : Nat → Int32} {kl : Nat → Int32} {pt : Nat → Int32} {pm : Nat → Int32} {pl : Nat → Int32} {nu : Nat → Int32} {le : Nat → Int32} {ow : Nat → Int32} {fo : Nat → Int32} {run : Bool} {wc : Nat} {lc : Nat} {tr : Nat} {cl : Nat} {tm : Nat} {ms : Nat} {yl : Nat → Int32} {yc : Nat → Int32} {yt : Nat → Int32} {co : Nat} {pa : Int32} {su : Nat} {sc : Nat} {mc : Nat → Int32} {af : Nat → Int32} {yn : Nat} {yh : Nat → Int32} {i : Int32} {i2 : Int32} (C : zLw p l s m meth c b L9 xs D cI cJ cZ kr kp) (hj : 4 * j + 4 ≤ L9) (hcc : cc + 2 ≤ 601024) (hss : ss + 1542 ≤ 7293034) (kont : zKt p l e s m below meth c b D cI cJ cZ j cc ss) (hI : zInv j n L pt le ow af run wc lc tr cl tm ms yl yc yt co yn su sc yh) (ea1 : xs (4 * j + 1) = i) (ea2 : xs (4 * j + 2) = i2) (h1 : ¬ i < 0 ∧ ¬ 26 ≤ i) (ht9x : i2 < 1 ∨ ¬ i2 ≤ 5000) {H : Heap} {locs : List Loc} {ls : Array Slot} (hP : va_P D vwCl ((zWT cI cJ h (n, L) (kt, km, kl) (pt, pm, pl) (nu, le, ow, fo, run, wc, lc, tr, cl, tm, ms) (yl, yc, yt, co, pa, su, sc) mc) ++ ((oa, .inl (cJ, 1, .inr (.inl yo))) :: (zWM cI cJ cZ h2 th (n, L) ((zcb kt pt), (zcb km pm), (zcb kl pl)) mc (run, wc, nu, lc, le, af, tr, ms, cl, tm) (co, yn, yh, pa)))) H) (hD : va_D (zAb s.heap.size) ((zWT cI cJ h (n, L) (kt, km, kl) (pt, pm, pl) (nu, le, ow, fo, run, wc, lc, tr, cl, tm, ms) (yl, yc, yt, co, pa, su, sc) mc) ++ ((oa, .inl (cJ, 1, .inr (.inl yo))) :: (zWM cI cJ cZ h2 th (n, L) ((zcb kt pt), (zcb km pm), (zcb kl pl)) mc (run, wc, nu, lc, le, af, tr, ms, cl, tm) (co, yn, yh, pa))))) (hS : va_S (zAb s.heap.size) s.heap H locs) (hl : lv_has ls 9 [(0, .ref b), (1, .ref (h 0)), (2, .ref (h2 0)), (3, .ref oa), (4, .int (nI (4 * j)))]) : W p l e room_1 s m #[Value.ref b] below meth c H locs cc ss (lw_Z below #[Value.ref b] s) (F0 m 744 ls []) := by
  obtain ⟨C0, hls, hK, hE, hL9⟩ := C
  obtain ⟨hx, hb, hr, hml, hown, hts0, hX, hbl, hlocks, hgv⟩ := C0
  have hts : ∀ w ∈ wsL_law, w.before #[Value.ref b] s = true := fun w h => hts0 w (wsL_law_in w h)
  have hbA : ¬ zAb s.heap.size b := Nat.not_le.mpr hbl
  have hB : s.heap.size ≤ s.heap.size := Nat.le_refl _
  have hn40 := hI.1.1
  have hzk := hI.1.2
  obtain ⟨hwc6, hlc48, htrl, hclt, hms1⟩ := hI.2.1
  have hrt := hI.2.2.1
  have hle := hI.2.2.2.1
  have hMk := hI.2.2.2.2.1
  have hct := hI.2.2.2.2.2.1
  have hHi := hI.2.2.2.2.2.2.1
  have hsu := hI.2.2.2.2.2.2.2.2.1
  have hj5 : j ≤ 511 := by omega
  have hco : co < 256 := by have := hct.1; omega
  have hco6 : co ≤ 256 := Nat.le_of_lt hco
  have hsl : su < 2147483648 := by have := hsu.2.2; omega
  have hpt := hI.hpt (Nat.le_succ_of_le hj5)
  refine lv_aload_n hx hb dL_law_744 rfl (lv_at hl 1 rfl) ?_
  refine lv_aload_n hx hb dL_law_745 rfl (lv_at hl 0 rfl) ?_
  refine lv_iload hx hb dL_law_746 (lv_at hl 4 rfl) ?_
  refine lv_iconst (v := 1) hx hb dL_law_748 (by decide) ?_
  refine lv_iadd hx hb dL_law_749 ?_
  refine lv_topi (fun v_1 ev_1 => ?_)
  obtain rfl : v_1 = (nI ((4 * j) + 1)) := ev_1.trans (nI_add (4 * j) 1)
  refine va_sld hx hb hX hbl hbA hS (vp_in_nI (n := ((4 * j) + 1)) (N := L9) (by omega) (by omega)) dL_law_750 ?_
  refine lv_topi (fun v_2 ev_2 => ?_)
  obtain rfl : i = v_2 := (ev_2.trans ((congrArg xs (nI_clamp (by omega))).trans ea1)).symm
  refine lv_aload_n hx hb dL_law_751 rfl (lv_at hl 0 rfl) ?_
  refine lv_iload hx hb dL_law_752 (lv_at hl 4 rfl) ?_
  refine lv_iconst (v := 2) hx hb dL_law_754 (by decide) ?_
  refine lv_iadd hx hb dL_law_755 ?_
  refine lv_topi (fun v_3 ev_3 => ?_)
  obtain rfl : v_3 = (nI ((4 * j) + 2)) := ev_3.trans (nI_add (4 * j) 2)
  refine va_sld hx hb hX hbl hbA hS (vp_in_nI (n := ((4 * j) + 2)) (N := L9) (by omega) (by omega)) dL_law_756 ?_
  refine lv_topi (fun v_4 ev_4 => ?_)
  obtain rfl : i2 = v_4 := (ev_4.trans ((congrArg xs (nI_clamp (by omega))).trans ea2)).symm
  refine lv_aload_n hx hb dL_law_757 rfl (lv_at hl 3 rfl) ?_
  refine zci (vx_runSW (As := [.ref (h 0), .int i, .int i2, .ref oa]) (rest := []) ⟨hx, hb, hml, hown, hts⟩ (c_L_strike_x2  hls (h1) (ht9x)) (vx_cwSW 4 hts gL_law_L_strike rfl rfl rfl hds_L_strike ⟨Nat.le_of_ble_eq_true rfl, Nat.le_of_ble_eq_true rfl⟩) (zS hP hD hK hE hB hS) rfl rfl hl.1 rfl (lv_room (Nat.le_of_ble_eq_true rfl)) dL_law_758 ⟨(show cc + 1 ≤ 601024 by omega), (show ss + 6 ≤ 7293034 by omega)⟩) hS (fun H locs hP hD hS => ?_)
  have hP : va_P D vwCl ((zWT cI cJ h (n, L) (kt, km, kl) (pt, pm, pl) (nu, le, ow, fo, run, wc, lc, tr, cl, tm, ms) (yl, yc, yt, co, pa, su, sc) mc) ++ ((oa, .inl (cJ, 1, .inr (.inl yo))) :: (zWM cI cJ cZ h2 th (n, L) ((zcb kt pt), (zcb km pm), (zcb kl pl)) mc (run, wc, nu, lc, le, af, tr, ms, cl, tm) (co, yn, yh, pa)))) H := hP
  have hD : va_D (zAb s.heap.size) ((zWT cI cJ h (n, L) (kt, km, kl) (pt, pm, pl) (nu, le, ow, fo, run, wc, lc, tr, cl, tm, ms) (yl, yc, yt, co, pa, su, sc) mc) ++ ((oa, .inl (cJ, 1, .inr (.inl yo))) :: (zWM cI cJ cZ h2 th (n, L) ((zcb kt pt), (zcb km pm), (zcb kl pl)) mc (run, wc, nu, lc, le, af, tr, ms, cl, tm) (co, yn, yh, pa)))) := hD
  refine lv_istore (lv' := [(5, .int 2), (0, .ref b), (1, .ref (h 0)), (2, .ref (h2 0)), (3, .ref oa), (4, .int (nI (4 * j)))]) hx hb dL_law_761 hl (by decide) rfl (fun ls hl => ?_)
  refine lv_aload_n hx hb dL_law_763 rfl (lv_at hl 3 rfl) ?_
  refine lv_aload_n hx hb dL_law_764 rfl (lv_at hl 1 rfl) ?_
  refine lv_iload hx hb dL_law_765 (lv_at hl 5 rfl) ?_
  refine lv_iconst (v := 1) hx hb dL_law_767 (by decide) ?_
  refine lv_iadd hx hb dL_law_768 ?_
  refine lv_topi (fun v_5 ev_5 => ?_)
  obtain rfl : v_5 = (nI ((4 * j) + 1)) := ev_5.trans (nI_add (4 * j) 1)
  refine va_sld hx hb hX hbl hbA hS (vp_in_nI (n := ((4 * j) + 1)) (N := L9) (by omega) (by omega)) dL_law_769 ?_
  refine lv_topi (fun v_6 ev_6 => ?_)
  obtain rfl : i = v_6 := (ev_6.trans ((congrArg xs (nI_clamp (by omega))).trans ea1)).symm
  refine lv_aload_n hx hb dL_law_770 rfl (lv_at hl 1 rfl) ?_
  refine lv_iload hx hb dL_law_771 (lv_at hl 5 rfl) ?_
  refine lv_iconst (v := 2) hx hb dL_law_773 (by decide) ?_
  refine lv_iadd hx hb dL_law_774 ?_
  refine lv_topi (fun v_7 ev_7 => ?_)
  obtain rfl : v_7 = (nI ((4 * j) + 2)) := ev_7.trans (nI_add (4 * j) 2)
  refine va_sld hx hb hX hbl hbA hS (vp_in_nI (n := ((4 * j) + 2)) (N := L9) (by omega) (by omega)) dL_law_775 ?_
  refine lv_topi (fun v_8 ev_8 => ?_)
  obtain rfl : i2 = v_8 := (ev_8.trans ((congrArg xs (nI_clamp (by omega))).trans ea2)).symm
  have hP9 : va_P D vwCl ((zWM cI cJ cZ h2 th (n, L) ((zcb kt pt), (zcb km pm), (zcb kl pl)) mc (run, wc, nu, lc, le, af, tr, ms, cl, tm) (co, yn, yh, pa)) ++ ((zWT cI cJ h (n, L) (kt, km, kl) (pt, pm, pl) (nu, le, ow, fo, run, wc, lc, tr, cl, tm, ms) (yl, yc, yt, co, pa, su, sc) mc) ++ [(oa, .inl (cJ, 1, .inr (.inl yo)))])) H := zswapP (A := (zWT cI cJ h (n, L) (kt, km, kl) (pt, pm, pl) (nu, le, ow, fo, run, wc, lc, tr, cl, tm, ms) (yl, yc, yt, co, pa, su, sc) mc) ++ [(oa, .inl (cJ, 1, .inr (.inl yo)))]) (Bw := (zWM cI cJ cZ h2 th (n, L) ((zcb kt pt), (zcb km pm), (zcb kl pl)) mc (run, wc, nu, lc, le, af, tr, ms, cl, tm) (co, yn, yh, pa))) hP
  have hD9 : va_D (zAb s.heap.size) ((zWM cI cJ cZ h2 th (n, L) ((zcb kt pt), (zcb km pm), (zcb kl pl)) mc (run, wc, nu, lc, le, af, tr, ms, cl, tm) (co, yn, yh, pa)) ++ ((zWT cI cJ h (n, L) (kt, km, kl) (pt, pm, pl) (nu, le, ow, fo, run, wc, lc, tr, cl, tm, ms) (yl, yc, yt, co, pa, su, sc) mc) ++ [(oa, .inl (cJ, 1, .inr (.inl yo)))])) := zswapD (A := (zWT cI cJ h (n, L) (kt, km, kl) (pt, pm, pl) (nu, le, ow, fo, run, wc, lc, tr, cl, tm, ms) (yl, yc, yt, co, pa, su, sc) mc) ++ [(oa, .inl (cJ, 1, .inr (.inl yo)))]) (Bw := (zWM cI cJ cZ h2 th (n, L) ((zcb kt pt), (zcb km pm), (zcb kl pl)) mc (run, wc, nu, lc, le, af, tr, ms, cl, tm) (co, yn, yh, pa))) hD
  refine zci (zrV (As := [.int i, .int i2]) (rest := []) ⟨hx, hb, hml, hown, hts⟩ (zV 0 hP9 hD9 hK hE hB hS rfl rfl) (c_X5_strike_x2  (h1) (ht9x)) (cwV 2 hts gL_law_X5_strike rfl rfl rfl hdv_X5_strike ⟨Nat.le_of_ble_eq_true rfl, Nat.le_of_ble_eq_true rfl⟩) rfl rfl hl.1 rfl (lv_room (Nat.le_of_ble_eq_true rfl)) dL_law_776 ⟨(show cc + 1 + 0 ≤ 601024 by omega), (show ss + 6 + 0 ≤ 7293034 by omega)⟩) hS (fun H locs hP hD hS => ?_)
  have hP : va_P D vwCl ((zWT cI cJ h (n, L) (kt, km, kl) (pt, pm, pl) (nu, le, ow, fo, run, wc, lc, tr, cl, tm, ms) (yl, yc, yt, co, pa, su, sc) mc) ++ ((oa, .inl (cJ, 1, .inr (.inl yo))) :: (zWM cI cJ cZ h2 2 (n, L) ((zcb kt pt), (zcb km pm), (zcb kl pl)) mc (run, wc, nu, lc, le, af, tr, ms, cl, tm) (co, yn, yh, pa)))) H := zswapP (A := (zWM cI cJ cZ h2 2 (n, L) ((zcb kt pt), (zcb km pm), (zcb kl pl)) mc (run, wc, nu, lc, le, af, tr, ms, cl, tm) (co, yn, yh, pa))) (Bw := (zWT cI cJ h (n, L) (kt, km, kl) (pt, pm, pl) (nu, le, ow, fo, run, wc, lc, tr, cl, tm, ms) (yl, yc, yt, co, pa, su, sc) mc) ++ [(oa, .inl (cJ, 1, .inr (.inl yo)))]) hP
  have hD : va_D (zAb s.heap.size) ((zWT cI cJ h (n, L) (kt, km, kl) (pt, pm, pl) (nu, le, ow, fo, run, wc, lc, tr, cl, tm, ms) (yl, yc, yt, co, pa, su, sc) mc) ++ ((oa, .inl (cJ, 1, .inr (.inl yo))) :: (zWM cI cJ cZ h2 2 (n, L) ((zcb kt pt), (zcb km pm), (zcb kl pl)) mc (run, wc, nu, lc, le, af, tr, ms, cl, tm) (co, yn, yh, pa)))) := zswapD (A := (zWM cI cJ cZ h2 2 (n, L) ((zcb kt pt), (zcb km pm), (zcb kl pl)) mc (run, wc, nu, lc, le, af, tr, ms, cl, tm) (co, yn, yh, pa))) (Bw := (zWT cI cJ h (n, L) (kt, km, kl) (pt, pm, pl) (nu, le, ow, fo, run, wc, lc, tr, cl, tm, ms) (yl, yc, yt, co, pa, su, sc) mc) ++ [(oa, .inl (cJ, 1, .inr (.inl yo)))]) hD
  refine lv_istore (lv' := [(6, .int 0), (5, .int 2), (0, .ref b), (1, .ref (h 0)), (2, .ref (h2 0)), (3, .ref oa), (4, .int (nI (4 * j)))]) hx hb dL_law_779 hl (by decide) rfl (fun ls hl => ?_)
  refine lv_aload_n hx hb dL_law_781 rfl (lv_at hl 4 rfl) ?_
  have hP9 : va_P D vwCl ((zWM cI cJ cZ h2 2 (n, L) ((zcb kt pt), (zcb km pm), (zcb kl pl)) mc (run, wc, nu, lc, le, af, tr, ms, cl, tm) (co, yn, yh, pa)) ++ ((zWT cI cJ h (n, L) (kt, km, kl) (pt, pm, pl) (nu, le, ow, fo, run, wc, lc, tr, cl, tm, ms) (yl, yc, yt, co, pa, su, sc) mc) ++ [(oa, .inl (cJ, 1, .inr (.inl yo)))])) H := zswapP (A := (zWT cI cJ h (n, L) (kt, km, kl) (pt, pm, pl) (nu, le, ow, fo, run, wc, lc, tr, cl, tm, ms) (yl, yc, yt, co, pa, su, sc) mc) ++ [(oa, .inl (cJ, 1, .inr (.inl yo)))]) (Bw := (zWM cI cJ cZ h2 2 (n, L) ((zcb kt pt), (zcb km pm), (zcb kl pl)) mc (run, wc, nu, lc, le, af, tr, ms, cl, tm) (co, yn, yh, pa))) hP
  have hD9 : va_D (zAb s.heap.size) ((zWM cI cJ cZ h2 2 (n, L) ((zcb kt pt), (zcb km pm), (zcb kl pl)) mc (run, wc, nu, lc, le, af, tr, ms, cl, tm) (co, yn, yh, pa)) ++ ((zWT cI cJ h (n, L) (kt, km, kl) (pt, pm, pl) (nu, le, ow, fo, run, wc, lc, tr, cl, tm, ms) (yl, yc, yt, co, pa, su, sc) mc) ++ [(oa, .inl (cJ, 1, .inr (.inl yo)))])) := zswapD (A := (zWT cI cJ h (n, L) (kt, km, kl) (pt, pm, pl) (nu, le, ow, fo, run, wc, lc, tr, cl, tm, ms) (yl, yc, yt, co, pa, su, sc) mc) ++ [(oa, .inl (cJ, 1, .inr (.inl yo)))]) (Bw := (zWM cI cJ cZ h2 2 (n, L) ((zcb kt pt), (zcb km pm), (zcb kl pl)) mc (run, wc, nu, lc, le, af, tr, ms, cl, tm) (co, yn, yh, pa))) hD
  refine zci (zrV (As := []) (rest := []) ⟨hx, hb, hml, hown, hts⟩ (zV 0 hP9 hD9 hK hE hB hS rfl rfl) (c_X5_thrown  ) (cwV 0 hts gL_law_X5_thrown rfl rfl rfl hdv_X5_thrown ⟨Nat.le_of_ble_eq_true rfl, Nat.le_of_ble_eq_true rfl⟩) rfl rfl hl.1 rfl (lv_room (Nat.le_of_ble_eq_true rfl)) dL_law_782 ⟨(show cc + 1 + 0 + 0 ≤ 601024 by omega), (show ss + 6 + 0 + 0 ≤ 7293034 by omega)⟩) hS (fun H locs hP hD hS => ?_)
  have hP : va_P D vwCl ((zWT cI cJ h (n, L) (kt, km, kl) (pt, pm, pl) (nu, le, ow, fo, run, wc, lc, tr, cl, tm, ms) (yl, yc, yt, co, pa, su, sc) mc) ++ ((oa, .inl (cJ, 1, .inr (.inl yo))) :: (zWM cI cJ cZ h2 2 (n, L) ((zcb kt pt), (zcb km pm), (zcb kl pl)) mc (run, wc, nu, lc, le, af, tr, ms, cl, tm) (co, yn, yh, pa)))) H := zswapP (A := (zWM cI cJ cZ h2 2 (n, L) ((zcb kt pt), (zcb km pm), (zcb kl pl)) mc (run, wc, nu, lc, le, af, tr, ms, cl, tm) (co, yn, yh, pa))) (Bw := (zWT cI cJ h (n, L) (kt, km, kl) (pt, pm, pl) (nu, le, ow, fo, run, wc, lc, tr, cl, tm, ms) (yl, yc, yt, co, pa, su, sc) mc) ++ [(oa, .inl (cJ, 1, .inr (.inl yo)))]) hP
  have hD : va_D (zAb s.heap.size) ((zWT cI cJ h (n, L) (kt, km, kl) (pt, pm, pl) (nu, le, ow, fo, run, wc, lc, tr, cl, tm, ms) (yl, yc, yt, co, pa, su, sc) mc) ++ ((oa, .inl (cJ, 1, .inr (.inl yo))) :: (zWM cI cJ cZ h2 2 (n, L) ((zcb kt pt), (zcb km pm), (zcb kl pl)) mc (run, wc, nu, lc, le, af, tr, ms, cl, tm) (co, yn, yh, pa)))) := zswapD (A := (zWM cI cJ cZ h2 2 (n, L) ((zcb kt pt), (zcb km pm), (zcb kl pl)) mc (run, wc, nu, lc, le, af, tr, ms, cl, tm) (co, yn, yh, pa))) (Bw := (zWT cI cJ h (n, L) (kt, km, kl) (pt, pm, pl) (nu, le, ow, fo, run, wc, lc, tr, cl, tm, ms) (yl, yc, yt, co, pa, su, sc) mc) ++ [(oa, .inl (cJ, 1, .inr (.inl yo)))]) hD
  refine lv_iload hx hb dL_law_785 (lv_at hl 1 rfl) ?_
  refine lv_icmp_eq (tgt := 792) hx hb dL_law_787 (by decide) (fun c_9 => ?_) (fun c_9 => ?_)
  · skip
    refine lv_iload hx hb dL_law_792 (lv_at hl 1 rfl) ?_
    refine lv_if_ne (tgt := 809) hx hb dL_law_794 (by decide) (fun c_10 => ?_) (fun c_10 => ?_)
    · skip
      refine lv_goto (tgt := 1191) hx hb dL_law_809 (by decide) ?_
      refine W.widen (k := cc + 2) (n := ss + 1542) (show cc + 1 + 0 + 0 ≤ cc + 2 by omega) (show ss + 6 + 0 + 0 ≤ ss + 1542 by omega) ?_
      exact kont h h2 oa yo 2 n L kt km kl pt pm pl nu le ow fo run wc lc tr cl tm ms yl yc yt co pa su sc mc af yn yh (hI.mono) _ _ _ hP hD hS (lv_sub hl [2, 3, 4, 5, 6] rfl)
    · skip
      exfalso; first | omega | (revert c_10; decide) | (exact absurd rfl c_10) | simp_all
  · skip
    exfalso; first | omega | (revert c_9; decide) | (exact absurd rfl c_9) | simp_all

set_option maxHeartbeats 1000000 in
set_option maxRecDepth 100000 in
theorem law_strike_x3 {p : Program} {l : Launch} {e : Env} {s : State} {m : MethodId} {below : List Frame} {meth : Method} {c : Code} {b L9 : Nat} {xs : Nat → Int32} {D : va_G} {cI cJ cZ : ClassId} {kr kp j cc ss : Nat} {h h2 : Nat → Nat} {oa : Nat} {yo : Nat → Int64} {th : Int32} {n : Nat} {L : Nat → Int64} {kt : Nat → Int32} {km : Nat → Int32} {kl : Nat → Int32} {pt : Nat → Int32} {pm : Nat → Int32} {pl : Nat → Int32} {nu : Nat → Int32} {le : Nat → Int32} {ow : Nat → Int32} {fo : Nat → Int32} {run : Bool} {wc : Nat} {lc : Nat} {tr : Nat} {cl : Nat} {tm : Nat} {ms : Nat} {yl : Nat → Int32} {yc : Nat → Int32} {yt : Nat → Int32} {co : Nat} {pa : Int32} {su : Nat} {sc : Nat} {mc : Nat → Int32} {af : Nat → Int32} {yn : Nat} {yh : Nat → Int32} {i : Int32} {i2 : Int32} (C : zLw p l s m meth c b L9 xs D cI cJ cZ kr kp) (hj : 4 * j + 4 ≤ L9) (hcc : cc + 2 ≤ 601024) (hss : ss + 1542 ≤ 7293034) (kont : zKt p l e s m below meth c b D cI cJ cZ j cc ss) (hI : zInv j n L pt le ow af false wc lc tr cl tm ms yl yc yt co yn su sc yh) (ea1 : xs (4 * j + 1) = i) (ea2 : xs (4 * j + 2) = i2) (h1 : ¬ i < 0 ∧ ¬ 26 ≤ i) (ht1 : ¬ i2 < 1) (ht2 : i2 ≤ 5000) {H : Heap} {locs : List Loc} {ls : Array Slot} (hP : va_P D vwCl ((zWT cI cJ h (n, L) (kt, km, kl) (pt, pm, pl) (nu, le, ow, fo, false, wc, lc, tr, cl, tm, ms) (yl, yc, yt, co, pa, su, sc) mc) ++ ((oa, .inl (cJ, 1, .inr (.inl yo))) :: (zWM cI cJ cZ h2 th (n, L) ((zcb kt pt), (zcb km pm), (zcb kl pl)) mc (false, wc, nu, lc, le, af, tr, ms, cl, tm) (co, yn, yh, pa)))) H) (hD : va_D (zAb s.heap.size) ((zWT cI cJ h (n, L) (kt, km, kl) (pt, pm, pl) (nu, le, ow, fo, false, wc, lc, tr, cl, tm, ms) (yl, yc, yt, co, pa, su, sc) mc) ++ ((oa, .inl (cJ, 1, .inr (.inl yo))) :: (zWM cI cJ cZ h2 th (n, L) ((zcb kt pt), (zcb km pm), (zcb kl pl)) mc (false, wc, nu, lc, le, af, tr, ms, cl, tm) (co, yn, yh, pa))))) (hS : va_S (zAb s.heap.size) s.heap H locs) (hl : lv_has ls 9 [(0, .ref b), (1, .ref (h 0)), (2, .ref (h2 0)), (3, .ref oa), (4, .int (nI (4 * j)))]) : W p l e room_1 s m #[Value.ref b] below meth c H locs cc ss (lw_Z below #[Value.ref b] s) (F0 m 744 ls []) := by
  obtain ⟨C0, hls, hK, hE, hL9⟩ := C
  obtain ⟨hx, hb, hr, hml, hown, hts0, hX, hbl, hlocks, hgv⟩ := C0
  have hts : ∀ w ∈ wsL_law, w.before #[Value.ref b] s = true := fun w h => hts0 w (wsL_law_in w h)
  have hbA : ¬ zAb s.heap.size b := Nat.not_le.mpr hbl
  have hB : s.heap.size ≤ s.heap.size := Nat.le_refl _
  have hn40 := hI.1.1
  have hzk := hI.1.2
  obtain ⟨hwc6, hlc48, htrl, hclt, hms1⟩ := hI.2.1
  have hrt := hI.2.2.1
  have hle := hI.2.2.2.1
  have hMk := hI.2.2.2.2.1
  have hct := hI.2.2.2.2.2.1
  have hHi := hI.2.2.2.2.2.2.1
  have hsu := hI.2.2.2.2.2.2.2.2.1
  have hj5 : j ≤ 511 := by omega
  have hco : co < 256 := by have := hct.1; omega
  have hco6 : co ≤ 256 := Nat.le_of_lt hco
  have hsl : su < 2147483648 := by have := hsu.2.2; omega
  have hpt := hI.hpt (Nat.le_succ_of_le hj5)
  refine lv_aload_n hx hb dL_law_744 rfl (lv_at hl 1 rfl) ?_
  refine lv_aload_n hx hb dL_law_745 rfl (lv_at hl 0 rfl) ?_
  refine lv_iload hx hb dL_law_746 (lv_at hl 4 rfl) ?_
  refine lv_iconst (v := 1) hx hb dL_law_748 (by decide) ?_
  refine lv_iadd hx hb dL_law_749 ?_
  refine lv_topi (fun v_1 ev_1 => ?_)
  obtain rfl : v_1 = (nI ((4 * j) + 1)) := ev_1.trans (nI_add (4 * j) 1)
  refine va_sld hx hb hX hbl hbA hS (vp_in_nI (n := ((4 * j) + 1)) (N := L9) (by omega) (by omega)) dL_law_750 ?_
  refine lv_topi (fun v_2 ev_2 => ?_)
  obtain rfl : i = v_2 := (ev_2.trans ((congrArg xs (nI_clamp (by omega))).trans ea1)).symm
  refine lv_aload_n hx hb dL_law_751 rfl (lv_at hl 0 rfl) ?_
  refine lv_iload hx hb dL_law_752 (lv_at hl 4 rfl) ?_
  refine lv_iconst (v := 2) hx hb dL_law_754 (by decide) ?_
  refine lv_iadd hx hb dL_law_755 ?_
  refine lv_topi (fun v_3 ev_3 => ?_)
  obtain rfl : v_3 = (nI ((4 * j) + 2)) := ev_3.trans (nI_add (4 * j) 2)
  refine va_sld hx hb hX hbl hbA hS (vp_in_nI (n := ((4 * j) + 2)) (N := L9) (by omega) (by omega)) dL_law_756 ?_
  refine lv_topi (fun v_4 ev_4 => ?_)
  obtain rfl : i2 = v_4 := (ev_4.trans ((congrArg xs (nI_clamp (by omega))).trans ea2)).symm
  refine lv_aload_n hx hb dL_law_757 rfl (lv_at hl 3 rfl) ?_
  refine zci (vx_runSW (As := [.ref (h 0), .int i, .int i2, .ref oa]) (rest := []) ⟨hx, hb, hml, hown, hts⟩ (c_L_strike_x3  hls (h1) (ht1) (ht2) (rfl)) (vx_cwSW 4 hts gL_law_L_strike rfl rfl rfl hds_L_strike ⟨Nat.le_of_ble_eq_true rfl, Nat.le_of_ble_eq_true rfl⟩) (zS hP hD hK hE hB hS) rfl rfl hl.1 rfl (lv_room (Nat.le_of_ble_eq_true rfl)) dL_law_758 ⟨(show cc + 1 ≤ 601024 by omega), (show ss + 6 ≤ 7293034 by omega)⟩) hS (fun H locs hP hD hS => ?_)
  have hP : va_P D vwCl ((zWT cI cJ h (n, L) (kt, km, kl) (pt, pm, pl) (nu, le, ow, fo, false, wc, lc, tr, cl, tm, ms) (yl, yc, yt, co, pa, su, sc) mc) ++ ((oa, .inl (cJ, 1, .inr (.inl yo))) :: (zWM cI cJ cZ h2 th (n, L) ((zcb kt pt), (zcb km pm), (zcb kl pl)) mc (false, wc, nu, lc, le, af, tr, ms, cl, tm) (co, yn, yh, pa)))) H := hP
  have hD : va_D (zAb s.heap.size) ((zWT cI cJ h (n, L) (kt, km, kl) (pt, pm, pl) (nu, le, ow, fo, false, wc, lc, tr, cl, tm, ms) (yl, yc, yt, co, pa, su, sc) mc) ++ ((oa, .inl (cJ, 1, .inr (.inl yo))) :: (zWM cI cJ cZ h2 th (n, L) ((zcb kt pt), (zcb km pm), (zcb kl pl)) mc (false, wc, nu, lc, le, af, tr, ms, cl, tm) (co, yn, yh, pa)))) := hD
  refine lv_istore (lv' := [(5, .int 3), (0, .ref b), (1, .ref (h 0)), (2, .ref (h2 0)), (3, .ref oa), (4, .int (nI (4 * j)))]) hx hb dL_law_761 hl (by decide) rfl (fun ls hl => ?_)
  refine lv_aload_n hx hb dL_law_763 rfl (lv_at hl 3 rfl) ?_
  refine lv_aload_n hx hb dL_law_764 rfl (lv_at hl 1 rfl) ?_
  refine lv_iload hx hb dL_law_765 (lv_at hl 5 rfl) ?_
  refine lv_iconst (v := 1) hx hb dL_law_767 (by decide) ?_
  refine lv_iadd hx hb dL_law_768 ?_
  refine lv_topi (fun v_5 ev_5 => ?_)
  obtain rfl : v_5 = (nI ((4 * j) + 1)) := ev_5.trans (nI_add (4 * j) 1)
  refine va_sld hx hb hX hbl hbA hS (vp_in_nI (n := ((4 * j) + 1)) (N := L9) (by omega) (by omega)) dL_law_769 ?_
  refine lv_topi (fun v_6 ev_6 => ?_)
  obtain rfl : i = v_6 := (ev_6.trans ((congrArg xs (nI_clamp (by omega))).trans ea1)).symm
  refine lv_aload_n hx hb dL_law_770 rfl (lv_at hl 1 rfl) ?_
  refine lv_iload hx hb dL_law_771 (lv_at hl 5 rfl) ?_
  refine lv_iconst (v := 2) hx hb dL_law_773 (by decide) ?_
  refine lv_iadd hx hb dL_law_774 ?_
  refine lv_topi (fun v_7 ev_7 => ?_)
  obtain rfl : v_7 = (nI ((4 * j) + 2)) := ev_7.trans (nI_add (4 * j) 2)
  refine va_sld hx hb hX hbl hbA hS (vp_in_nI (n := ((4 * j) + 2)) (N := L9) (by omega) (by omega)) dL_law_775 ?_
  refine lv_topi (fun v_8 ev_8 => ?_)
  obtain rfl : i2 = v_8 := (ev_8.trans ((congrArg xs (nI_clamp (by omega))).trans ea2)).symm
  have hP9 : va_P D vwCl ((zWM cI cJ cZ h2 th (n, L) ((zcb kt pt), (zcb km pm), (zcb kl pl)) mc (false, wc, nu, lc, le, af, tr, ms, cl, tm) (co, yn, yh, pa)) ++ ((zWT cI cJ h (n, L) (kt, km, kl) (pt, pm, pl) (nu, le, ow, fo, false, wc, lc, tr, cl, tm, ms) (yl, yc, yt, co, pa, su, sc) mc) ++ [(oa, .inl (cJ, 1, .inr (.inl yo)))])) H := zswapP (A := (zWT cI cJ h (n, L) (kt, km, kl) (pt, pm, pl) (nu, le, ow, fo, false, wc, lc, tr, cl, tm, ms) (yl, yc, yt, co, pa, su, sc) mc) ++ [(oa, .inl (cJ, 1, .inr (.inl yo)))]) (Bw := (zWM cI cJ cZ h2 th (n, L) ((zcb kt pt), (zcb km pm), (zcb kl pl)) mc (false, wc, nu, lc, le, af, tr, ms, cl, tm) (co, yn, yh, pa))) hP
  have hD9 : va_D (zAb s.heap.size) ((zWM cI cJ cZ h2 th (n, L) ((zcb kt pt), (zcb km pm), (zcb kl pl)) mc (false, wc, nu, lc, le, af, tr, ms, cl, tm) (co, yn, yh, pa)) ++ ((zWT cI cJ h (n, L) (kt, km, kl) (pt, pm, pl) (nu, le, ow, fo, false, wc, lc, tr, cl, tm, ms) (yl, yc, yt, co, pa, su, sc) mc) ++ [(oa, .inl (cJ, 1, .inr (.inl yo)))])) := zswapD (A := (zWT cI cJ h (n, L) (kt, km, kl) (pt, pm, pl) (nu, le, ow, fo, false, wc, lc, tr, cl, tm, ms) (yl, yc, yt, co, pa, su, sc) mc) ++ [(oa, .inl (cJ, 1, .inr (.inl yo)))]) (Bw := (zWM cI cJ cZ h2 th (n, L) ((zcb kt pt), (zcb km pm), (zcb kl pl)) mc (false, wc, nu, lc, le, af, tr, ms, cl, tm) (co, yn, yh, pa))) hD
  refine zci (zrV (As := [.int i, .int i2]) (rest := []) ⟨hx, hb, hml, hown, hts⟩ (zV 0 hP9 hD9 hK hE hB hS rfl rfl) (c_X5_strike_x3  (h1) (ht1) (ht2) (rfl)) (cwV 2 hts gL_law_X5_strike rfl rfl rfl hdv_X5_strike ⟨Nat.le_of_ble_eq_true rfl, Nat.le_of_ble_eq_true rfl⟩) rfl rfl hl.1 rfl (lv_room (Nat.le_of_ble_eq_true rfl)) dL_law_776 ⟨(show cc + 1 + 0 ≤ 601024 by omega), (show ss + 6 + 0 ≤ 7293034 by omega)⟩) hS (fun H locs hP hD hS => ?_)
  have hP : va_P D vwCl ((zWT cI cJ h (n, L) (kt, km, kl) (pt, pm, pl) (nu, le, ow, fo, false, wc, lc, tr, cl, tm, ms) (yl, yc, yt, co, pa, su, sc) mc) ++ ((oa, .inl (cJ, 1, .inr (.inl yo))) :: (zWM cI cJ cZ h2 3 (n, L) ((zcb kt pt), (zcb km pm), (zcb kl pl)) mc (false, wc, nu, lc, le, af, tr, ms, cl, tm) (co, yn, yh, pa)))) H := zswapP (A := (zWM cI cJ cZ h2 3 (n, L) ((zcb kt pt), (zcb km pm), (zcb kl pl)) mc (false, wc, nu, lc, le, af, tr, ms, cl, tm) (co, yn, yh, pa))) (Bw := (zWT cI cJ h (n, L) (kt, km, kl) (pt, pm, pl) (nu, le, ow, fo, false, wc, lc, tr, cl, tm, ms) (yl, yc, yt, co, pa, su, sc) mc) ++ [(oa, .inl (cJ, 1, .inr (.inl yo)))]) hP
  have hD : va_D (zAb s.heap.size) ((zWT cI cJ h (n, L) (kt, km, kl) (pt, pm, pl) (nu, le, ow, fo, false, wc, lc, tr, cl, tm, ms) (yl, yc, yt, co, pa, su, sc) mc) ++ ((oa, .inl (cJ, 1, .inr (.inl yo))) :: (zWM cI cJ cZ h2 3 (n, L) ((zcb kt pt), (zcb km pm), (zcb kl pl)) mc (false, wc, nu, lc, le, af, tr, ms, cl, tm) (co, yn, yh, pa)))) := zswapD (A := (zWM cI cJ cZ h2 3 (n, L) ((zcb kt pt), (zcb km pm), (zcb kl pl)) mc (false, wc, nu, lc, le, af, tr, ms, cl, tm) (co, yn, yh, pa))) (Bw := (zWT cI cJ h (n, L) (kt, km, kl) (pt, pm, pl) (nu, le, ow, fo, false, wc, lc, tr, cl, tm, ms) (yl, yc, yt, co, pa, su, sc) mc) ++ [(oa, .inl (cJ, 1, .inr (.inl yo)))]) hD
  refine lv_istore (lv' := [(6, .int 0), (5, .int 3), (0, .ref b), (1, .ref (h 0)), (2, .ref (h2 0)), (3, .ref oa), (4, .int (nI (4 * j)))]) hx hb dL_law_779 hl (by decide) rfl (fun ls hl => ?_)
  refine lv_aload_n hx hb dL_law_781 rfl (lv_at hl 4 rfl) ?_
  have hP9 : va_P D vwCl ((zWM cI cJ cZ h2 3 (n, L) ((zcb kt pt), (zcb km pm), (zcb kl pl)) mc (false, wc, nu, lc, le, af, tr, ms, cl, tm) (co, yn, yh, pa)) ++ ((zWT cI cJ h (n, L) (kt, km, kl) (pt, pm, pl) (nu, le, ow, fo, false, wc, lc, tr, cl, tm, ms) (yl, yc, yt, co, pa, su, sc) mc) ++ [(oa, .inl (cJ, 1, .inr (.inl yo)))])) H := zswapP (A := (zWT cI cJ h (n, L) (kt, km, kl) (pt, pm, pl) (nu, le, ow, fo, false, wc, lc, tr, cl, tm, ms) (yl, yc, yt, co, pa, su, sc) mc) ++ [(oa, .inl (cJ, 1, .inr (.inl yo)))]) (Bw := (zWM cI cJ cZ h2 3 (n, L) ((zcb kt pt), (zcb km pm), (zcb kl pl)) mc (false, wc, nu, lc, le, af, tr, ms, cl, tm) (co, yn, yh, pa))) hP
  have hD9 : va_D (zAb s.heap.size) ((zWM cI cJ cZ h2 3 (n, L) ((zcb kt pt), (zcb km pm), (zcb kl pl)) mc (false, wc, nu, lc, le, af, tr, ms, cl, tm) (co, yn, yh, pa)) ++ ((zWT cI cJ h (n, L) (kt, km, kl) (pt, pm, pl) (nu, le, ow, fo, false, wc, lc, tr, cl, tm, ms) (yl, yc, yt, co, pa, su, sc) mc) ++ [(oa, .inl (cJ, 1, .inr (.inl yo)))])) := zswapD (A := (zWT cI cJ h (n, L) (kt, km, kl) (pt, pm, pl) (nu, le, ow, fo, false, wc, lc, tr, cl, tm, ms) (yl, yc, yt, co, pa, su, sc) mc) ++ [(oa, .inl (cJ, 1, .inr (.inl yo)))]) (Bw := (zWM cI cJ cZ h2 3 (n, L) ((zcb kt pt), (zcb km pm), (zcb kl pl)) mc (false, wc, nu, lc, le, af, tr, ms, cl, tm) (co, yn, yh, pa))) hD
  refine zci (zrV (As := []) (rest := []) ⟨hx, hb, hml, hown, hts⟩ (zV 0 hP9 hD9 hK hE hB hS rfl rfl) (c_X5_thrown  ) (cwV 0 hts gL_law_X5_thrown rfl rfl rfl hdv_X5_thrown ⟨Nat.le_of_ble_eq_true rfl, Nat.le_of_ble_eq_true rfl⟩) rfl rfl hl.1 rfl (lv_room (Nat.le_of_ble_eq_true rfl)) dL_law_782 ⟨(show cc + 1 + 0 + 0 ≤ 601024 by omega), (show ss + 6 + 0 + 0 ≤ 7293034 by omega)⟩) hS (fun H locs hP hD hS => ?_)
  have hP : va_P D vwCl ((zWT cI cJ h (n, L) (kt, km, kl) (pt, pm, pl) (nu, le, ow, fo, false, wc, lc, tr, cl, tm, ms) (yl, yc, yt, co, pa, su, sc) mc) ++ ((oa, .inl (cJ, 1, .inr (.inl yo))) :: (zWM cI cJ cZ h2 3 (n, L) ((zcb kt pt), (zcb km pm), (zcb kl pl)) mc (false, wc, nu, lc, le, af, tr, ms, cl, tm) (co, yn, yh, pa)))) H := zswapP (A := (zWM cI cJ cZ h2 3 (n, L) ((zcb kt pt), (zcb km pm), (zcb kl pl)) mc (false, wc, nu, lc, le, af, tr, ms, cl, tm) (co, yn, yh, pa))) (Bw := (zWT cI cJ h (n, L) (kt, km, kl) (pt, pm, pl) (nu, le, ow, fo, false, wc, lc, tr, cl, tm, ms) (yl, yc, yt, co, pa, su, sc) mc) ++ [(oa, .inl (cJ, 1, .inr (.inl yo)))]) hP
  have hD : va_D (zAb s.heap.size) ((zWT cI cJ h (n, L) (kt, km, kl) (pt, pm, pl) (nu, le, ow, fo, false, wc, lc, tr, cl, tm, ms) (yl, yc, yt, co, pa, su, sc) mc) ++ ((oa, .inl (cJ, 1, .inr (.inl yo))) :: (zWM cI cJ cZ h2 3 (n, L) ((zcb kt pt), (zcb km pm), (zcb kl pl)) mc (false, wc, nu, lc, le, af, tr, ms, cl, tm) (co, yn, yh, pa)))) := zswapD (A := (zWM cI cJ cZ h2 3 (n, L) ((zcb kt pt), (zcb km pm), (zcb kl pl)) mc (false, wc, nu, lc, le, af, tr, ms, cl, tm) (co, yn, yh, pa))) (Bw := (zWT cI cJ h (n, L) (kt, km, kl) (pt, pm, pl) (nu, le, ow, fo, false, wc, lc, tr, cl, tm, ms) (yl, yc, yt, co, pa, su, sc) mc) ++ [(oa, .inl (cJ, 1, .inr (.inl yo)))]) hD
  refine lv_iload hx hb dL_law_785 (lv_at hl 1 rfl) ?_
  refine lv_icmp_eq (tgt := 792) hx hb dL_law_787 (by decide) (fun c_9 => ?_) (fun c_9 => ?_)
  · skip
    refine lv_iload hx hb dL_law_792 (lv_at hl 1 rfl) ?_
    refine lv_if_ne (tgt := 809) hx hb dL_law_794 (by decide) (fun c_10 => ?_) (fun c_10 => ?_)
    · skip
      refine lv_goto (tgt := 1191) hx hb dL_law_809 (by decide) ?_
      refine W.widen (k := cc + 2) (n := ss + 1542) (show cc + 1 + 0 + 0 ≤ cc + 2 by omega) (show ss + 6 + 0 + 0 ≤ ss + 1542 by omega) ?_
      exact kont h h2 oa yo 3 n L kt km kl pt pm pl nu le ow fo false wc lc tr cl tm ms yl yc yt co pa su sc mc af yn yh (hI.mono) _ _ _ hP hD hS (lv_sub hl [2, 3, 4, 5, 6] rfl)
    · skip
      exfalso; first | omega | (revert c_10; decide) | (exact absurd rfl c_10) | simp_all
  · skip
    exfalso; first | omega | (revert c_9; decide) | (exact absurd rfl c_9) | simp_all

set_option maxHeartbeats 1000000 in
set_option maxRecDepth 100000 in
theorem law_key_0 {p : Program} {l : Launch} {e : Env} {s : State} {m : MethodId} {below : List Frame} {meth : Method} {c : Code} {b L9 : Nat} {xs : Nat → Int32} {D : va_G} {cI cJ cZ : ClassId} {kr kp j cc ss : Nat} {h h2 : Nat → Nat} {oa : Nat} {yo : Nat → Int64} {th : Int32} {n : Nat} {L : Nat → Int64} {kt : Nat → Int32} {km : Nat → Int32} {kl : Nat → Int32} {pt : Nat → Int32} {pm : Nat → Int32} {pl : Nat → Int32} {nu : Nat → Int32} {le : Nat → Int32} {ow : Nat → Int32} {fo : Nat → Int32} {run : Bool} {wc : Nat} {lc : Nat} {tr : Nat} {cl : Nat} {tm : Nat} {ms : Nat} {yl : Nat → Int32} {yc : Nat → Int32} {yt : Nat → Int32} {co : Nat} {pa : Int32} {su : Nat} {sc : Nat} {mc : Nat → Int32} {af : Nat → Int32} {yn : Nat} {yh : Nat → Int32} {k : Nat} (C : zLw p l s m meth c b L9 xs D cI cJ cZ kr kp) (hj : 4 * j + 4 ≤ L9) (hcc : cc + 2 ≤ 601024) (hss : ss + 1542 ≤ 7293034) (kont : zKt p l e s m below meth c b D cI cJ cZ j cc ss) (hI : zInv j n L pt le ow af run wc lc tr cl tm ms yl yc yt co yn su sc yh) (ea1 : xs (4 * j + 1) = nI k) (ea2 : xs (4 * j + 2) = 0) (hk : k < 26) {H : Heap} {locs : List Loc} {ls : Array Slot} (hP : va_P D vwCl ((zWT cI cJ h (n, L) (kt, km, kl) (pt, pm, pl) (nu, le, ow, fo, run, wc, lc, tr, cl, tm, ms) (yl, yc, yt, co, pa, su, sc) mc) ++ ((oa, .inl (cJ, 1, .inr (.inl yo))) :: (zWM cI cJ cZ h2 th (n, L) ((zcb kt pt), (zcb km pm), (zcb kl pl)) mc (run, wc, nu, lc, le, af, tr, ms, cl, tm) (co, yn, yh, pa)))) H) (hD : va_D (zAb s.heap.size) ((zWT cI cJ h (n, L) (kt, km, kl) (pt, pm, pl) (nu, le, ow, fo, run, wc, lc, tr, cl, tm, ms) (yl, yc, yt, co, pa, su, sc) mc) ++ ((oa, .inl (cJ, 1, .inr (.inl yo))) :: (zWM cI cJ cZ h2 th (n, L) ((zcb kt pt), (zcb km pm), (zcb kl pl)) mc (run, wc, nu, lc, le, af, tr, ms, cl, tm) (co, yn, yh, pa))))) (hS : va_S (zAb s.heap.size) s.heap H locs) (hl : lv_has ls 9 [(0, .ref b), (1, .ref (h 0)), (2, .ref (h2 0)), (3, .ref oa), (4, .int (nI (4 * j)))]) : W p l e room_1 s m #[Value.ref b] below meth c H locs cc ss (lw_Z below #[Value.ref b] s) (F0 m 812 ls []) := by
  obtain ⟨C0, hls, hK, hE, hL9⟩ := C
  obtain ⟨hx, hb, hr, hml, hown, hts0, hX, hbl, hlocks, hgv⟩ := C0
  have hts : ∀ w ∈ wsL_law, w.before #[Value.ref b] s = true := fun w h => hts0 w (wsL_law_in w h)
  have hbA : ¬ zAb s.heap.size b := Nat.not_le.mpr hbl
  have hB : s.heap.size ≤ s.heap.size := Nat.le_refl _
  have hn40 := hI.1.1
  have hzk := hI.1.2
  obtain ⟨hwc6, hlc48, htrl, hclt, hms1⟩ := hI.2.1
  have hrt := hI.2.2.1
  have hle := hI.2.2.2.1
  have hMk := hI.2.2.2.2.1
  have hct := hI.2.2.2.2.2.1
  have hHi := hI.2.2.2.2.2.2.1
  have hsu := hI.2.2.2.2.2.2.2.2.1
  have hj5 : j ≤ 511 := by omega
  have hco : co < 256 := by have := hct.1; omega
  have hco6 : co ≤ 256 := Nat.le_of_lt hco
  have hsl : su < 2147483648 := by have := hsu.2.2; omega
  have hpt := hI.hpt (Nat.le_succ_of_le hj5)
  refine lv_aload_n hx hb dL_law_812 rfl (lv_at hl 1 rfl) ?_
  refine lv_aload_n hx hb dL_law_813 rfl (lv_at hl 0 rfl) ?_
  refine lv_iload hx hb dL_law_814 (lv_at hl 4 rfl) ?_
  refine lv_iconst (v := 1) hx hb dL_law_816 (by decide) ?_
  refine lv_iadd hx hb dL_law_817 ?_
  refine lv_topi (fun v_1 ev_1 => ?_)
  obtain rfl : v_1 = (nI ((4 * j) + 1)) := ev_1.trans (nI_add (4 * j) 1)
  refine va_sld hx hb hX hbl hbA hS (vp_in_nI (n := ((4 * j) + 1)) (N := L9) (by omega) (by omega)) dL_law_818 ?_
  refine lv_topi (fun v_2 ev_2 => ?_)
  obtain rfl : (nI k) = v_2 := (ev_2.trans ((congrArg xs (nI_clamp (by omega))).trans ea1)).symm
  refine lv_aload_n hx hb dL_law_819 rfl (lv_at hl 0 rfl) ?_
  refine lv_iload hx hb dL_law_820 (lv_at hl 4 rfl) ?_
  refine lv_iconst (v := 2) hx hb dL_law_822 (by decide) ?_
  refine lv_iadd hx hb dL_law_823 ?_
  refine lv_topi (fun v_3 ev_3 => ?_)
  obtain rfl : v_3 = (nI ((4 * j) + 2)) := ev_3.trans (nI_add (4 * j) 2)
  refine va_sld hx hb hX hbl hbA hS (vp_in_nI (n := ((4 * j) + 2)) (N := L9) (by omega) (by omega)) dL_law_824 ?_
  refine lv_topi (fun v_4 ev_4 => ?_)
  obtain rfl : 0 = v_4 := (ev_4.trans ((congrArg xs (nI_clamp (by omega))).trans ea2)).symm
  refine lv_aload_n hx hb dL_law_825 rfl (lv_at hl 3 rfl) ?_
  refine zci (vx_runSW (As := [.ref (h 0), .int (nI k), .int 0, .ref oa]) (rest := []) ⟨hx, hb, hml, hown, hts⟩ (c_L_key_0 (k := k) (hk)) (vx_cwSW 4 hts gL_law_L_key rfl rfl rfl hds_L_key ⟨Nat.le_of_ble_eq_true rfl, Nat.le_of_ble_eq_true rfl⟩) (zS hP hD hK hE hB hS) rfl rfl hl.1 rfl (lv_room (Nat.le_of_ble_eq_true rfl)) dL_law_826 ⟨(show cc + 0 ≤ 601024 by omega), (show ss + 0 ≤ 7293034 by omega)⟩) hS (fun H locs hP hD hS => ?_)
  have hP : va_P D vwCl ((zWT cI cJ h (n, L) (kt, km, kl) (pt, pm, pl) (nu, le, ow, fo, run, wc, lc, tr, cl, tm, ms) (yl, yc, yt, co, pa, su, sc) mc) ++ ((oa, .inl (cJ, 1, .inr (.inl (vp_updL yo 0 (((kt k)).toInt64))))) :: (zWM cI cJ cZ h2 th (n, L) ((zcb kt pt), (zcb km pm), (zcb kl pl)) mc (run, wc, nu, lc, le, af, tr, ms, cl, tm) (co, yn, yh, pa)))) H := hP
  have hD : va_D (zAb s.heap.size) ((zWT cI cJ h (n, L) (kt, km, kl) (pt, pm, pl) (nu, le, ow, fo, run, wc, lc, tr, cl, tm, ms) (yl, yc, yt, co, pa, su, sc) mc) ++ ((oa, .inl (cJ, 1, .inr (.inl (vp_updL yo 0 (((kt k)).toInt64))))) :: (zWM cI cJ cZ h2 th (n, L) ((zcb kt pt), (zcb km pm), (zcb kl pl)) mc (run, wc, nu, lc, le, af, tr, ms, cl, tm) (co, yn, yh, pa)))) := hD
  refine lv_istore (lv' := [(5, .int 0), (0, .ref b), (1, .ref (h 0)), (2, .ref (h2 0)), (3, .ref oa), (4, .int (nI (4 * j)))]) hx hb dL_law_829 hl (by decide) rfl (fun ls hl => ?_)
  refine lv_aload_n hx hb dL_law_831 rfl (lv_at hl 3 rfl) ?_
  refine lv_aload_n hx hb dL_law_832 rfl (lv_at hl 1 rfl) ?_
  refine lv_iload hx hb dL_law_833 (lv_at hl 5 rfl) ?_
  refine lv_iconst (v := 1) hx hb dL_law_835 (by decide) ?_
  refine lv_iadd hx hb dL_law_836 ?_
  refine lv_topi (fun v_5 ev_5 => ?_)
  obtain rfl : v_5 = (nI ((4 * j) + 1)) := ev_5.trans (nI_add (4 * j) 1)
  refine va_sld hx hb hX hbl hbA hS (vp_in_nI (n := ((4 * j) + 1)) (N := L9) (by omega) (by omega)) dL_law_837 ?_
  refine lv_topi (fun v_6 ev_6 => ?_)
  obtain rfl : (nI k) = v_6 := (ev_6.trans ((congrArg xs (nI_clamp (by omega))).trans ea1)).symm
  refine lv_aload_n hx hb dL_law_838 rfl (lv_at hl 1 rfl) ?_
  refine lv_iload hx hb dL_law_839 (lv_at hl 5 rfl) ?_
  refine lv_iconst (v := 2) hx hb dL_law_841 (by decide) ?_
  refine lv_iadd hx hb dL_law_842 ?_
  refine lv_topi (fun v_7 ev_7 => ?_)
  obtain rfl : v_7 = (nI ((4 * j) + 2)) := ev_7.trans (nI_add (4 * j) 2)
  refine va_sld hx hb hX hbl hbA hS (vp_in_nI (n := ((4 * j) + 2)) (N := L9) (by omega) (by omega)) dL_law_843 ?_
  refine lv_topi (fun v_8 ev_8 => ?_)
  obtain rfl : 0 = v_8 := (ev_8.trans ((congrArg xs (nI_clamp (by omega))).trans ea2)).symm
  have hP9 : va_P D vwCl ((zWM cI cJ cZ h2 th (n, L) ((zcb kt pt), (zcb km pm), (zcb kl pl)) mc (run, wc, nu, lc, le, af, tr, ms, cl, tm) (co, yn, yh, pa)) ++ ((zWT cI cJ h (n, L) (kt, km, kl) (pt, pm, pl) (nu, le, ow, fo, run, wc, lc, tr, cl, tm, ms) (yl, yc, yt, co, pa, su, sc) mc) ++ [(oa, .inl (cJ, 1, .inr (.inl (vp_updL yo 0 (((kt k)).toInt64)))))])) H := zswapP (A := (zWT cI cJ h (n, L) (kt, km, kl) (pt, pm, pl) (nu, le, ow, fo, run, wc, lc, tr, cl, tm, ms) (yl, yc, yt, co, pa, su, sc) mc) ++ [(oa, .inl (cJ, 1, .inr (.inl (vp_updL yo 0 (((kt k)).toInt64)))))]) (Bw := (zWM cI cJ cZ h2 th (n, L) ((zcb kt pt), (zcb km pm), (zcb kl pl)) mc (run, wc, nu, lc, le, af, tr, ms, cl, tm) (co, yn, yh, pa))) hP
  have hD9 : va_D (zAb s.heap.size) ((zWM cI cJ cZ h2 th (n, L) ((zcb kt pt), (zcb km pm), (zcb kl pl)) mc (run, wc, nu, lc, le, af, tr, ms, cl, tm) (co, yn, yh, pa)) ++ ((zWT cI cJ h (n, L) (kt, km, kl) (pt, pm, pl) (nu, le, ow, fo, run, wc, lc, tr, cl, tm, ms) (yl, yc, yt, co, pa, su, sc) mc) ++ [(oa, .inl (cJ, 1, .inr (.inl (vp_updL yo 0 (((kt k)).toInt64)))))])) := zswapD (A := (zWT cI cJ h (n, L) (kt, km, kl) (pt, pm, pl) (nu, le, ow, fo, run, wc, lc, tr, cl, tm, ms) (yl, yc, yt, co, pa, su, sc) mc) ++ [(oa, .inl (cJ, 1, .inr (.inl (vp_updL yo 0 (((kt k)).toInt64)))))]) (Bw := (zWM cI cJ cZ h2 th (n, L) ((zcb kt pt), (zcb km pm), (zcb kl pl)) mc (run, wc, nu, lc, le, af, tr, ms, cl, tm) (co, yn, yh, pa))) hD
  refine zci (zrV (As := [.int (nI k), .int 0]) (rest := []) ⟨hx, hb, hml, hown, hts⟩ (zV 0 hP9 hD9 hK hE hB hS rfl rfl) (c_X5_key_0 (k := k) (hk)) (cwV 2 hts gL_law_X5_key rfl rfl rfl hdv_X5_key ⟨Nat.le_of_ble_eq_true rfl, Nat.le_of_ble_eq_true rfl⟩) rfl rfl hl.1 rfl (lv_room (Nat.le_of_ble_eq_true rfl)) dL_law_844 ⟨(show cc + 0 + 0 ≤ 601024 by omega), (show ss + 0 + 0 ≤ 7293034 by omega)⟩) hS (fun H locs hP hD hS => ?_)
  have hP : va_P D vwCl ((zWT cI cJ h (n, L) (kt, km, kl) (pt, pm, pl) (nu, le, ow, fo, run, wc, lc, tr, cl, tm, ms) (yl, yc, yt, co, pa, su, sc) mc) ++ ((oa, .inl (cJ, 1, .inr (.inl (vp_updL yo 0 (((kt k)).toInt64))))) :: (zWM cI cJ cZ h2 0 (n, L) ((zcb kt pt), (zcb km pm), (zcb kl pl)) mc (run, wc, nu, lc, le, af, tr, ms, cl, tm) (co, yn, yh, pa)))) H := zswapP (A := (zWM cI cJ cZ h2 0 (n, L) ((zcb kt pt), (zcb km pm), (zcb kl pl)) mc (run, wc, nu, lc, le, af, tr, ms, cl, tm) (co, yn, yh, pa))) (Bw := (zWT cI cJ h (n, L) (kt, km, kl) (pt, pm, pl) (nu, le, ow, fo, run, wc, lc, tr, cl, tm, ms) (yl, yc, yt, co, pa, su, sc) mc) ++ [(oa, .inl (cJ, 1, .inr (.inl (vp_updL yo 0 (((kt k)).toInt64)))))]) hP
  have hD : va_D (zAb s.heap.size) ((zWT cI cJ h (n, L) (kt, km, kl) (pt, pm, pl) (nu, le, ow, fo, run, wc, lc, tr, cl, tm, ms) (yl, yc, yt, co, pa, su, sc) mc) ++ ((oa, .inl (cJ, 1, .inr (.inl (vp_updL yo 0 (((kt k)).toInt64))))) :: (zWM cI cJ cZ h2 0 (n, L) ((zcb kt pt), (zcb km pm), (zcb kl pl)) mc (run, wc, nu, lc, le, af, tr, ms, cl, tm) (co, yn, yh, pa)))) := zswapD (A := (zWM cI cJ cZ h2 0 (n, L) ((zcb kt pt), (zcb km pm), (zcb kl pl)) mc (run, wc, nu, lc, le, af, tr, ms, cl, tm) (co, yn, yh, pa))) (Bw := (zWT cI cJ h (n, L) (kt, km, kl) (pt, pm, pl) (nu, le, ow, fo, run, wc, lc, tr, cl, tm, ms) (yl, yc, yt, co, pa, su, sc) mc) ++ [(oa, .inl (cJ, 1, .inr (.inl (vp_updL yo 0 (((kt k)).toInt64)))))]) hD
  refine lv_istore (lv' := [(6, .int (kt k)), (5, .int 0), (0, .ref b), (1, .ref (h 0)), (2, .ref (h2 0)), (3, .ref oa), (4, .int (nI (4 * j)))]) hx hb dL_law_847 hl (by decide) rfl (fun ls hl => ?_)
  refine lv_aload_n hx hb dL_law_849 rfl (lv_at hl 4 rfl) ?_
  have hP9 : va_P D vwCl ((zWM cI cJ cZ h2 0 (n, L) ((zcb kt pt), (zcb km pm), (zcb kl pl)) mc (run, wc, nu, lc, le, af, tr, ms, cl, tm) (co, yn, yh, pa)) ++ ((zWT cI cJ h (n, L) (kt, km, kl) (pt, pm, pl) (nu, le, ow, fo, run, wc, lc, tr, cl, tm, ms) (yl, yc, yt, co, pa, su, sc) mc) ++ [(oa, .inl (cJ, 1, .inr (.inl (vp_updL yo 0 (((kt k)).toInt64)))))])) H := zswapP (A := (zWT cI cJ h (n, L) (kt, km, kl) (pt, pm, pl) (nu, le, ow, fo, run, wc, lc, tr, cl, tm, ms) (yl, yc, yt, co, pa, su, sc) mc) ++ [(oa, .inl (cJ, 1, .inr (.inl (vp_updL yo 0 (((kt k)).toInt64)))))]) (Bw := (zWM cI cJ cZ h2 0 (n, L) ((zcb kt pt), (zcb km pm), (zcb kl pl)) mc (run, wc, nu, lc, le, af, tr, ms, cl, tm) (co, yn, yh, pa))) hP
  have hD9 : va_D (zAb s.heap.size) ((zWM cI cJ cZ h2 0 (n, L) ((zcb kt pt), (zcb km pm), (zcb kl pl)) mc (run, wc, nu, lc, le, af, tr, ms, cl, tm) (co, yn, yh, pa)) ++ ((zWT cI cJ h (n, L) (kt, km, kl) (pt, pm, pl) (nu, le, ow, fo, run, wc, lc, tr, cl, tm, ms) (yl, yc, yt, co, pa, su, sc) mc) ++ [(oa, .inl (cJ, 1, .inr (.inl (vp_updL yo 0 (((kt k)).toInt64)))))])) := zswapD (A := (zWT cI cJ h (n, L) (kt, km, kl) (pt, pm, pl) (nu, le, ow, fo, run, wc, lc, tr, cl, tm, ms) (yl, yc, yt, co, pa, su, sc) mc) ++ [(oa, .inl (cJ, 1, .inr (.inl (vp_updL yo 0 (((kt k)).toInt64)))))]) (Bw := (zWM cI cJ cZ h2 0 (n, L) ((zcb kt pt), (zcb km pm), (zcb kl pl)) mc (run, wc, nu, lc, le, af, tr, ms, cl, tm) (co, yn, yh, pa))) hD
  refine zci (zrV (As := []) (rest := []) ⟨hx, hb, hml, hown, hts⟩ (zV 0 hP9 hD9 hK hE hB hS rfl rfl) (c_X5_thrown  ) (cwV 0 hts gL_law_X5_thrown rfl rfl rfl hdv_X5_thrown ⟨Nat.le_of_ble_eq_true rfl, Nat.le_of_ble_eq_true rfl⟩) rfl rfl hl.1 rfl (lv_room (Nat.le_of_ble_eq_true rfl)) dL_law_850 ⟨(show cc + 0 + 0 + 0 ≤ 601024 by omega), (show ss + 0 + 0 + 0 ≤ 7293034 by omega)⟩) hS (fun H locs hP hD hS => ?_)
  have hP : va_P D vwCl ((zWT cI cJ h (n, L) (kt, km, kl) (pt, pm, pl) (nu, le, ow, fo, run, wc, lc, tr, cl, tm, ms) (yl, yc, yt, co, pa, su, sc) mc) ++ ((oa, .inl (cJ, 1, .inr (.inl (vp_updL yo 0 (((kt k)).toInt64))))) :: (zWM cI cJ cZ h2 0 (n, L) ((zcb kt pt), (zcb km pm), (zcb kl pl)) mc (run, wc, nu, lc, le, af, tr, ms, cl, tm) (co, yn, yh, pa)))) H := zswapP (A := (zWM cI cJ cZ h2 0 (n, L) ((zcb kt pt), (zcb km pm), (zcb kl pl)) mc (run, wc, nu, lc, le, af, tr, ms, cl, tm) (co, yn, yh, pa))) (Bw := (zWT cI cJ h (n, L) (kt, km, kl) (pt, pm, pl) (nu, le, ow, fo, run, wc, lc, tr, cl, tm, ms) (yl, yc, yt, co, pa, su, sc) mc) ++ [(oa, .inl (cJ, 1, .inr (.inl (vp_updL yo 0 (((kt k)).toInt64)))))]) hP
  have hD : va_D (zAb s.heap.size) ((zWT cI cJ h (n, L) (kt, km, kl) (pt, pm, pl) (nu, le, ow, fo, run, wc, lc, tr, cl, tm, ms) (yl, yc, yt, co, pa, su, sc) mc) ++ ((oa, .inl (cJ, 1, .inr (.inl (vp_updL yo 0 (((kt k)).toInt64))))) :: (zWM cI cJ cZ h2 0 (n, L) ((zcb kt pt), (zcb km pm), (zcb kl pl)) mc (run, wc, nu, lc, le, af, tr, ms, cl, tm) (co, yn, yh, pa)))) := zswapD (A := (zWM cI cJ cZ h2 0 (n, L) ((zcb kt pt), (zcb km pm), (zcb kl pl)) mc (run, wc, nu, lc, le, af, tr, ms, cl, tm) (co, yn, yh, pa))) (Bw := (zWT cI cJ h (n, L) (kt, km, kl) (pt, pm, pl) (nu, le, ow, fo, run, wc, lc, tr, cl, tm, ms) (yl, yc, yt, co, pa, su, sc) mc) ++ [(oa, .inl (cJ, 1, .inr (.inl (vp_updL yo 0 (((kt k)).toInt64)))))]) hD
  refine lv_iload hx hb dL_law_853 (lv_at hl 1 rfl) ?_
  refine lv_icmp_eq (tgt := 860) hx hb dL_law_855 (by decide) (fun c_9 => ?_) (fun c_9 => ?_)
  · skip
    refine lv_iload hx hb dL_law_860 (lv_at hl 1 rfl) ?_
    refine lv_if_ne (tgt := 877) hx hb dL_law_862 (by decide) (fun c_10 => ?_) (fun c_10 => ?_)
    · skip
      exfalso; first | omega | (revert c_10; decide) | (exact absurd rfl c_10) | simp_all
    · skip
      refine lv_aload_n hx hb dL_law_865 rfl (lv_at hl 5 rfl) ?_
      refine lv_iconst (v := 0) hx hb dL_law_866 (by decide) ?_
      refine va_lald hx hb hK hP 21 1 rfl rfl (vp_in_nI (n := 0) (N := 1) (by omega) (by omega)) dL_law_867 ?_
      refine lv_topl (fun v_11 ev_11 => ?_)
      obtain rfl : (((kt k)).toInt64) = v_11 := (ev_11.trans (pk_uLs (f := yo) (k := 0) (x := (((kt k)).toInt64)))).symm
      refine lv_iload hx hb dL_law_868 (lv_at hl 0 rfl) ?_
      refine lv_i2l (v := ((kt k)).toInt64) hx hb dL_law_870 rfl ?_
      refine W.lcmp hx hb dL_law_871 ?_
      refine lv_if_eq (tgt := 877) hx hb dL_law_872 (by decide) (fun c_12 => ?_) (fun c_12 => ?_)
      · skip
        have c_12 : (((kt k)).toInt64) = (((kt k)).toInt64) := (lg_cmp_eq _ _).mp c_12
        refine lv_goto (tgt := 1191) hx hb dL_law_877 (by decide) ?_
        refine W.widen (k := cc + 2) (n := ss + 1542) (show cc + 0 + 0 + 0 ≤ cc + 2 by omega) (show ss + 0 + 0 + 0 ≤ ss + 1542 by omega) ?_
        exact kont h h2 oa (vp_updL yo 0 (((kt k)).toInt64)) 0 n L kt km kl pt pm pl nu le ow fo run wc lc tr cl tm ms yl yc yt co pa su sc mc af yn yh (hI.mono) _ _ _ hP hD hS (lv_sub hl [2, 3, 4, 5, 6] rfl)
      · skip
        have c_12 : ¬ (((kt k)).toInt64) = (((kt k)).toInt64) := fun hh => c_12 ((lg_cmp_eq _ _).mpr hh)
        exact absurd rfl c_12
  · skip
    exfalso; first | omega | (revert c_9; decide) | (exact absurd rfl c_9) | simp_all

set_option maxHeartbeats 1000000 in
set_option maxRecDepth 100000 in
theorem law_key_1 {p : Program} {l : Launch} {e : Env} {s : State} {m : MethodId} {below : List Frame} {meth : Method} {c : Code} {b L9 : Nat} {xs : Nat → Int32} {D : va_G} {cI cJ cZ : ClassId} {kr kp j cc ss : Nat} {h h2 : Nat → Nat} {oa : Nat} {yo : Nat → Int64} {th : Int32} {n : Nat} {L : Nat → Int64} {kt : Nat → Int32} {km : Nat → Int32} {kl : Nat → Int32} {pt : Nat → Int32} {pm : Nat → Int32} {pl : Nat → Int32} {nu : Nat → Int32} {le : Nat → Int32} {ow : Nat → Int32} {fo : Nat → Int32} {run : Bool} {wc : Nat} {lc : Nat} {tr : Nat} {cl : Nat} {tm : Nat} {ms : Nat} {yl : Nat → Int32} {yc : Nat → Int32} {yt : Nat → Int32} {co : Nat} {pa : Int32} {su : Nat} {sc : Nat} {mc : Nat → Int32} {af : Nat → Int32} {yn : Nat} {yh : Nat → Int32} {k : Nat} (C : zLw p l s m meth c b L9 xs D cI cJ cZ kr kp) (hj : 4 * j + 4 ≤ L9) (hcc : cc + 2 ≤ 601024) (hss : ss + 1542 ≤ 7293034) (kont : zKt p l e s m below meth c b D cI cJ cZ j cc ss) (hI : zInv j n L pt le ow af run wc lc tr cl tm ms yl yc yt co yn su sc yh) (ea1 : xs (4 * j + 1) = nI k) (ea2 : xs (4 * j + 2) = 1) (hk : k < 26) {H : Heap} {locs : List Loc} {ls : Array Slot} (hP : va_P D vwCl ((zWT cI cJ h (n, L) (kt, km, kl) (pt, pm, pl) (nu, le, ow, fo, run, wc, lc, tr, cl, tm, ms) (yl, yc, yt, co, pa, su, sc) mc) ++ ((oa, .inl (cJ, 1, .inr (.inl yo))) :: (zWM cI cJ cZ h2 th (n, L) ((zcb kt pt), (zcb km pm), (zcb kl pl)) mc (run, wc, nu, lc, le, af, tr, ms, cl, tm) (co, yn, yh, pa)))) H) (hD : va_D (zAb s.heap.size) ((zWT cI cJ h (n, L) (kt, km, kl) (pt, pm, pl) (nu, le, ow, fo, run, wc, lc, tr, cl, tm, ms) (yl, yc, yt, co, pa, su, sc) mc) ++ ((oa, .inl (cJ, 1, .inr (.inl yo))) :: (zWM cI cJ cZ h2 th (n, L) ((zcb kt pt), (zcb km pm), (zcb kl pl)) mc (run, wc, nu, lc, le, af, tr, ms, cl, tm) (co, yn, yh, pa))))) (hS : va_S (zAb s.heap.size) s.heap H locs) (hl : lv_has ls 9 [(0, .ref b), (1, .ref (h 0)), (2, .ref (h2 0)), (3, .ref oa), (4, .int (nI (4 * j)))]) : W p l e room_1 s m #[Value.ref b] below meth c H locs cc ss (lw_Z below #[Value.ref b] s) (F0 m 812 ls []) := by
  obtain ⟨C0, hls, hK, hE, hL9⟩ := C
  obtain ⟨hx, hb, hr, hml, hown, hts0, hX, hbl, hlocks, hgv⟩ := C0
  have hts : ∀ w ∈ wsL_law, w.before #[Value.ref b] s = true := fun w h => hts0 w (wsL_law_in w h)
  have hbA : ¬ zAb s.heap.size b := Nat.not_le.mpr hbl
  have hB : s.heap.size ≤ s.heap.size := Nat.le_refl _
  have hn40 := hI.1.1
  have hzk := hI.1.2
  obtain ⟨hwc6, hlc48, htrl, hclt, hms1⟩ := hI.2.1
  have hrt := hI.2.2.1
  have hle := hI.2.2.2.1
  have hMk := hI.2.2.2.2.1
  have hct := hI.2.2.2.2.2.1
  have hHi := hI.2.2.2.2.2.2.1
  have hsu := hI.2.2.2.2.2.2.2.2.1
  have hj5 : j ≤ 511 := by omega
  have hco : co < 256 := by have := hct.1; omega
  have hco6 : co ≤ 256 := Nat.le_of_lt hco
  have hsl : su < 2147483648 := by have := hsu.2.2; omega
  have hpt := hI.hpt (Nat.le_succ_of_le hj5)
  refine lv_aload_n hx hb dL_law_812 rfl (lv_at hl 1 rfl) ?_
  refine lv_aload_n hx hb dL_law_813 rfl (lv_at hl 0 rfl) ?_
  refine lv_iload hx hb dL_law_814 (lv_at hl 4 rfl) ?_
  refine lv_iconst (v := 1) hx hb dL_law_816 (by decide) ?_
  refine lv_iadd hx hb dL_law_817 ?_
  refine lv_topi (fun v_1 ev_1 => ?_)
  obtain rfl : v_1 = (nI ((4 * j) + 1)) := ev_1.trans (nI_add (4 * j) 1)
  refine va_sld hx hb hX hbl hbA hS (vp_in_nI (n := ((4 * j) + 1)) (N := L9) (by omega) (by omega)) dL_law_818 ?_
  refine lv_topi (fun v_2 ev_2 => ?_)
  obtain rfl : (nI k) = v_2 := (ev_2.trans ((congrArg xs (nI_clamp (by omega))).trans ea1)).symm
  refine lv_aload_n hx hb dL_law_819 rfl (lv_at hl 0 rfl) ?_
  refine lv_iload hx hb dL_law_820 (lv_at hl 4 rfl) ?_
  refine lv_iconst (v := 2) hx hb dL_law_822 (by decide) ?_
  refine lv_iadd hx hb dL_law_823 ?_
  refine lv_topi (fun v_3 ev_3 => ?_)
  obtain rfl : v_3 = (nI ((4 * j) + 2)) := ev_3.trans (nI_add (4 * j) 2)
  refine va_sld hx hb hX hbl hbA hS (vp_in_nI (n := ((4 * j) + 2)) (N := L9) (by omega) (by omega)) dL_law_824 ?_
  refine lv_topi (fun v_4 ev_4 => ?_)
  obtain rfl : 1 = v_4 := (ev_4.trans ((congrArg xs (nI_clamp (by omega))).trans ea2)).symm
  refine lv_aload_n hx hb dL_law_825 rfl (lv_at hl 3 rfl) ?_
  refine zci (vx_runSW (As := [.ref (h 0), .int (nI k), .int 1, .ref oa]) (rest := []) ⟨hx, hb, hml, hown, hts⟩ (c_L_key_1 (k := k) (hk)) (vx_cwSW 4 hts gL_law_L_key rfl rfl rfl hds_L_key ⟨Nat.le_of_ble_eq_true rfl, Nat.le_of_ble_eq_true rfl⟩) (zS hP hD hK hE hB hS) rfl rfl hl.1 rfl (lv_room (Nat.le_of_ble_eq_true rfl)) dL_law_826 ⟨(show cc + 0 ≤ 601024 by omega), (show ss + 0 ≤ 7293034 by omega)⟩) hS (fun H locs hP hD hS => ?_)
  have hP : va_P D vwCl ((zWT cI cJ h (n, L) (kt, km, kl) (pt, pm, pl) (nu, le, ow, fo, run, wc, lc, tr, cl, tm, ms) (yl, yc, yt, co, pa, su, sc) mc) ++ ((oa, .inl (cJ, 1, .inr (.inl (vp_updL yo 0 (((km k)).toInt64))))) :: (zWM cI cJ cZ h2 th (n, L) ((zcb kt pt), (zcb km pm), (zcb kl pl)) mc (run, wc, nu, lc, le, af, tr, ms, cl, tm) (co, yn, yh, pa)))) H := hP
  have hD : va_D (zAb s.heap.size) ((zWT cI cJ h (n, L) (kt, km, kl) (pt, pm, pl) (nu, le, ow, fo, run, wc, lc, tr, cl, tm, ms) (yl, yc, yt, co, pa, su, sc) mc) ++ ((oa, .inl (cJ, 1, .inr (.inl (vp_updL yo 0 (((km k)).toInt64))))) :: (zWM cI cJ cZ h2 th (n, L) ((zcb kt pt), (zcb km pm), (zcb kl pl)) mc (run, wc, nu, lc, le, af, tr, ms, cl, tm) (co, yn, yh, pa)))) := hD
  refine lv_istore (lv' := [(5, .int 0), (0, .ref b), (1, .ref (h 0)), (2, .ref (h2 0)), (3, .ref oa), (4, .int (nI (4 * j)))]) hx hb dL_law_829 hl (by decide) rfl (fun ls hl => ?_)
  refine lv_aload_n hx hb dL_law_831 rfl (lv_at hl 3 rfl) ?_
  refine lv_aload_n hx hb dL_law_832 rfl (lv_at hl 1 rfl) ?_
  refine lv_iload hx hb dL_law_833 (lv_at hl 5 rfl) ?_
  refine lv_iconst (v := 1) hx hb dL_law_835 (by decide) ?_
  refine lv_iadd hx hb dL_law_836 ?_
  refine lv_topi (fun v_5 ev_5 => ?_)
  obtain rfl : v_5 = (nI ((4 * j) + 1)) := ev_5.trans (nI_add (4 * j) 1)
  refine va_sld hx hb hX hbl hbA hS (vp_in_nI (n := ((4 * j) + 1)) (N := L9) (by omega) (by omega)) dL_law_837 ?_
  refine lv_topi (fun v_6 ev_6 => ?_)
  obtain rfl : (nI k) = v_6 := (ev_6.trans ((congrArg xs (nI_clamp (by omega))).trans ea1)).symm
  refine lv_aload_n hx hb dL_law_838 rfl (lv_at hl 1 rfl) ?_
  refine lv_iload hx hb dL_law_839 (lv_at hl 5 rfl) ?_
  refine lv_iconst (v := 2) hx hb dL_law_841 (by decide) ?_
  refine lv_iadd hx hb dL_law_842 ?_
  refine lv_topi (fun v_7 ev_7 => ?_)
  obtain rfl : v_7 = (nI ((4 * j) + 2)) := ev_7.trans (nI_add (4 * j) 2)
  refine va_sld hx hb hX hbl hbA hS (vp_in_nI (n := ((4 * j) + 2)) (N := L9) (by omega) (by omega)) dL_law_843 ?_
  refine lv_topi (fun v_8 ev_8 => ?_)
  obtain rfl : 1 = v_8 := (ev_8.trans ((congrArg xs (nI_clamp (by omega))).trans ea2)).symm
  have hP9 : va_P D vwCl ((zWM cI cJ cZ h2 th (n, L) ((zcb kt pt), (zcb km pm), (zcb kl pl)) mc (run, wc, nu, lc, le, af, tr, ms, cl, tm) (co, yn, yh, pa)) ++ ((zWT cI cJ h (n, L) (kt, km, kl) (pt, pm, pl) (nu, le, ow, fo, run, wc, lc, tr, cl, tm, ms) (yl, yc, yt, co, pa, su, sc) mc) ++ [(oa, .inl (cJ, 1, .inr (.inl (vp_updL yo 0 (((km k)).toInt64)))))])) H := zswapP (A := (zWT cI cJ h (n, L) (kt, km, kl) (pt, pm, pl) (nu, le, ow, fo, run, wc, lc, tr, cl, tm, ms) (yl, yc, yt, co, pa, su, sc) mc) ++ [(oa, .inl (cJ, 1, .inr (.inl (vp_updL yo 0 (((km k)).toInt64)))))]) (Bw := (zWM cI cJ cZ h2 th (n, L) ((zcb kt pt), (zcb km pm), (zcb kl pl)) mc (run, wc, nu, lc, le, af, tr, ms, cl, tm) (co, yn, yh, pa))) hP
  have hD9 : va_D (zAb s.heap.size) ((zWM cI cJ cZ h2 th (n, L) ((zcb kt pt), (zcb km pm), (zcb kl pl)) mc (run, wc, nu, lc, le, af, tr, ms, cl, tm) (co, yn, yh, pa)) ++ ((zWT cI cJ h (n, L) (kt, km, kl) (pt, pm, pl) (nu, le, ow, fo, run, wc, lc, tr, cl, tm, ms) (yl, yc, yt, co, pa, su, sc) mc) ++ [(oa, .inl (cJ, 1, .inr (.inl (vp_updL yo 0 (((km k)).toInt64)))))])) := zswapD (A := (zWT cI cJ h (n, L) (kt, km, kl) (pt, pm, pl) (nu, le, ow, fo, run, wc, lc, tr, cl, tm, ms) (yl, yc, yt, co, pa, su, sc) mc) ++ [(oa, .inl (cJ, 1, .inr (.inl (vp_updL yo 0 (((km k)).toInt64)))))]) (Bw := (zWM cI cJ cZ h2 th (n, L) ((zcb kt pt), (zcb km pm), (zcb kl pl)) mc (run, wc, nu, lc, le, af, tr, ms, cl, tm) (co, yn, yh, pa))) hD
  refine zci (zrV (As := [.int (nI k), .int 1]) (rest := []) ⟨hx, hb, hml, hown, hts⟩ (zV 0 hP9 hD9 hK hE hB hS rfl rfl) (c_X5_key_1 (k := k) (hk)) (cwV 2 hts gL_law_X5_key rfl rfl rfl hdv_X5_key ⟨Nat.le_of_ble_eq_true rfl, Nat.le_of_ble_eq_true rfl⟩) rfl rfl hl.1 rfl (lv_room (Nat.le_of_ble_eq_true rfl)) dL_law_844 ⟨(show cc + 0 + 0 ≤ 601024 by omega), (show ss + 0 + 0 ≤ 7293034 by omega)⟩) hS (fun H locs hP hD hS => ?_)
  have hP : va_P D vwCl ((zWT cI cJ h (n, L) (kt, km, kl) (pt, pm, pl) (nu, le, ow, fo, run, wc, lc, tr, cl, tm, ms) (yl, yc, yt, co, pa, su, sc) mc) ++ ((oa, .inl (cJ, 1, .inr (.inl (vp_updL yo 0 (((km k)).toInt64))))) :: (zWM cI cJ cZ h2 0 (n, L) ((zcb kt pt), (zcb km pm), (zcb kl pl)) mc (run, wc, nu, lc, le, af, tr, ms, cl, tm) (co, yn, yh, pa)))) H := zswapP (A := (zWM cI cJ cZ h2 0 (n, L) ((zcb kt pt), (zcb km pm), (zcb kl pl)) mc (run, wc, nu, lc, le, af, tr, ms, cl, tm) (co, yn, yh, pa))) (Bw := (zWT cI cJ h (n, L) (kt, km, kl) (pt, pm, pl) (nu, le, ow, fo, run, wc, lc, tr, cl, tm, ms) (yl, yc, yt, co, pa, su, sc) mc) ++ [(oa, .inl (cJ, 1, .inr (.inl (vp_updL yo 0 (((km k)).toInt64)))))]) hP
  have hD : va_D (zAb s.heap.size) ((zWT cI cJ h (n, L) (kt, km, kl) (pt, pm, pl) (nu, le, ow, fo, run, wc, lc, tr, cl, tm, ms) (yl, yc, yt, co, pa, su, sc) mc) ++ ((oa, .inl (cJ, 1, .inr (.inl (vp_updL yo 0 (((km k)).toInt64))))) :: (zWM cI cJ cZ h2 0 (n, L) ((zcb kt pt), (zcb km pm), (zcb kl pl)) mc (run, wc, nu, lc, le, af, tr, ms, cl, tm) (co, yn, yh, pa)))) := zswapD (A := (zWM cI cJ cZ h2 0 (n, L) ((zcb kt pt), (zcb km pm), (zcb kl pl)) mc (run, wc, nu, lc, le, af, tr, ms, cl, tm) (co, yn, yh, pa))) (Bw := (zWT cI cJ h (n, L) (kt, km, kl) (pt, pm, pl) (nu, le, ow, fo, run, wc, lc, tr, cl, tm, ms) (yl, yc, yt, co, pa, su, sc) mc) ++ [(oa, .inl (cJ, 1, .inr (.inl (vp_updL yo 0 (((km k)).toInt64)))))]) hD
  refine lv_istore (lv' := [(6, .int (km k)), (5, .int 0), (0, .ref b), (1, .ref (h 0)), (2, .ref (h2 0)), (3, .ref oa), (4, .int (nI (4 * j)))]) hx hb dL_law_847 hl (by decide) rfl (fun ls hl => ?_)
  refine lv_aload_n hx hb dL_law_849 rfl (lv_at hl 4 rfl) ?_
  have hP9 : va_P D vwCl ((zWM cI cJ cZ h2 0 (n, L) ((zcb kt pt), (zcb km pm), (zcb kl pl)) mc (run, wc, nu, lc, le, af, tr, ms, cl, tm) (co, yn, yh, pa)) ++ ((zWT cI cJ h (n, L) (kt, km, kl) (pt, pm, pl) (nu, le, ow, fo, run, wc, lc, tr, cl, tm, ms) (yl, yc, yt, co, pa, su, sc) mc) ++ [(oa, .inl (cJ, 1, .inr (.inl (vp_updL yo 0 (((km k)).toInt64)))))])) H := zswapP (A := (zWT cI cJ h (n, L) (kt, km, kl) (pt, pm, pl) (nu, le, ow, fo, run, wc, lc, tr, cl, tm, ms) (yl, yc, yt, co, pa, su, sc) mc) ++ [(oa, .inl (cJ, 1, .inr (.inl (vp_updL yo 0 (((km k)).toInt64)))))]) (Bw := (zWM cI cJ cZ h2 0 (n, L) ((zcb kt pt), (zcb km pm), (zcb kl pl)) mc (run, wc, nu, lc, le, af, tr, ms, cl, tm) (co, yn, yh, pa))) hP
  have hD9 : va_D (zAb s.heap.size) ((zWM cI cJ cZ h2 0 (n, L) ((zcb kt pt), (zcb km pm), (zcb kl pl)) mc (run, wc, nu, lc, le, af, tr, ms, cl, tm) (co, yn, yh, pa)) ++ ((zWT cI cJ h (n, L) (kt, km, kl) (pt, pm, pl) (nu, le, ow, fo, run, wc, lc, tr, cl, tm, ms) (yl, yc, yt, co, pa, su, sc) mc) ++ [(oa, .inl (cJ, 1, .inr (.inl (vp_updL yo 0 (((km k)).toInt64)))))])) := zswapD (A := (zWT cI cJ h (n, L) (kt, km, kl) (pt, pm, pl) (nu, le, ow, fo, run, wc, lc, tr, cl, tm, ms) (yl, yc, yt, co, pa, su, sc) mc) ++ [(oa, .inl (cJ, 1, .inr (.inl (vp_updL yo 0 (((km k)).toInt64)))))]) (Bw := (zWM cI cJ cZ h2 0 (n, L) ((zcb kt pt), (zcb km pm), (zcb kl pl)) mc (run, wc, nu, lc, le, af, tr, ms, cl, tm) (co, yn, yh, pa))) hD
  refine zci (zrV (As := []) (rest := []) ⟨hx, hb, hml, hown, hts⟩ (zV 0 hP9 hD9 hK hE hB hS rfl rfl) (c_X5_thrown  ) (cwV 0 hts gL_law_X5_thrown rfl rfl rfl hdv_X5_thrown ⟨Nat.le_of_ble_eq_true rfl, Nat.le_of_ble_eq_true rfl⟩) rfl rfl hl.1 rfl (lv_room (Nat.le_of_ble_eq_true rfl)) dL_law_850 ⟨(show cc + 0 + 0 + 0 ≤ 601024 by omega), (show ss + 0 + 0 + 0 ≤ 7293034 by omega)⟩) hS (fun H locs hP hD hS => ?_)
  have hP : va_P D vwCl ((zWT cI cJ h (n, L) (kt, km, kl) (pt, pm, pl) (nu, le, ow, fo, run, wc, lc, tr, cl, tm, ms) (yl, yc, yt, co, pa, su, sc) mc) ++ ((oa, .inl (cJ, 1, .inr (.inl (vp_updL yo 0 (((km k)).toInt64))))) :: (zWM cI cJ cZ h2 0 (n, L) ((zcb kt pt), (zcb km pm), (zcb kl pl)) mc (run, wc, nu, lc, le, af, tr, ms, cl, tm) (co, yn, yh, pa)))) H := zswapP (A := (zWM cI cJ cZ h2 0 (n, L) ((zcb kt pt), (zcb km pm), (zcb kl pl)) mc (run, wc, nu, lc, le, af, tr, ms, cl, tm) (co, yn, yh, pa))) (Bw := (zWT cI cJ h (n, L) (kt, km, kl) (pt, pm, pl) (nu, le, ow, fo, run, wc, lc, tr, cl, tm, ms) (yl, yc, yt, co, pa, su, sc) mc) ++ [(oa, .inl (cJ, 1, .inr (.inl (vp_updL yo 0 (((km k)).toInt64)))))]) hP
  have hD : va_D (zAb s.heap.size) ((zWT cI cJ h (n, L) (kt, km, kl) (pt, pm, pl) (nu, le, ow, fo, run, wc, lc, tr, cl, tm, ms) (yl, yc, yt, co, pa, su, sc) mc) ++ ((oa, .inl (cJ, 1, .inr (.inl (vp_updL yo 0 (((km k)).toInt64))))) :: (zWM cI cJ cZ h2 0 (n, L) ((zcb kt pt), (zcb km pm), (zcb kl pl)) mc (run, wc, nu, lc, le, af, tr, ms, cl, tm) (co, yn, yh, pa)))) := zswapD (A := (zWM cI cJ cZ h2 0 (n, L) ((zcb kt pt), (zcb km pm), (zcb kl pl)) mc (run, wc, nu, lc, le, af, tr, ms, cl, tm) (co, yn, yh, pa))) (Bw := (zWT cI cJ h (n, L) (kt, km, kl) (pt, pm, pl) (nu, le, ow, fo, run, wc, lc, tr, cl, tm, ms) (yl, yc, yt, co, pa, su, sc) mc) ++ [(oa, .inl (cJ, 1, .inr (.inl (vp_updL yo 0 (((km k)).toInt64)))))]) hD
  refine lv_iload hx hb dL_law_853 (lv_at hl 1 rfl) ?_
  refine lv_icmp_eq (tgt := 860) hx hb dL_law_855 (by decide) (fun c_9 => ?_) (fun c_9 => ?_)
  · skip
    refine lv_iload hx hb dL_law_860 (lv_at hl 1 rfl) ?_
    refine lv_if_ne (tgt := 877) hx hb dL_law_862 (by decide) (fun c_10 => ?_) (fun c_10 => ?_)
    · skip
      exfalso; first | omega | (revert c_10; decide) | (exact absurd rfl c_10) | simp_all
    · skip
      refine lv_aload_n hx hb dL_law_865 rfl (lv_at hl 5 rfl) ?_
      refine lv_iconst (v := 0) hx hb dL_law_866 (by decide) ?_
      refine va_lald hx hb hK hP 21 1 rfl rfl (vp_in_nI (n := 0) (N := 1) (by omega) (by omega)) dL_law_867 ?_
      refine lv_topl (fun v_11 ev_11 => ?_)
      obtain rfl : (((km k)).toInt64) = v_11 := (ev_11.trans (pk_uLs (f := yo) (k := 0) (x := (((km k)).toInt64)))).symm
      refine lv_iload hx hb dL_law_868 (lv_at hl 0 rfl) ?_
      refine lv_i2l (v := ((km k)).toInt64) hx hb dL_law_870 rfl ?_
      refine W.lcmp hx hb dL_law_871 ?_
      refine lv_if_eq (tgt := 877) hx hb dL_law_872 (by decide) (fun c_12 => ?_) (fun c_12 => ?_)
      · skip
        have c_12 : (((km k)).toInt64) = (((km k)).toInt64) := (lg_cmp_eq _ _).mp c_12
        refine lv_goto (tgt := 1191) hx hb dL_law_877 (by decide) ?_
        refine W.widen (k := cc + 2) (n := ss + 1542) (show cc + 0 + 0 + 0 ≤ cc + 2 by omega) (show ss + 0 + 0 + 0 ≤ ss + 1542 by omega) ?_
        exact kont h h2 oa (vp_updL yo 0 (((km k)).toInt64)) 0 n L kt km kl pt pm pl nu le ow fo run wc lc tr cl tm ms yl yc yt co pa su sc mc af yn yh (hI.mono) _ _ _ hP hD hS (lv_sub hl [2, 3, 4, 5, 6] rfl)
      · skip
        have c_12 : ¬ (((km k)).toInt64) = (((km k)).toInt64) := fun hh => c_12 ((lg_cmp_eq _ _).mpr hh)
        exact absurd rfl c_12
  · skip
    exfalso; first | omega | (revert c_9; decide) | (exact absurd rfl c_9) | simp_all

set_option maxHeartbeats 1000000 in
set_option maxRecDepth 100000 in
theorem law_key_2 {p : Program} {l : Launch} {e : Env} {s : State} {m : MethodId} {below : List Frame} {meth : Method} {c : Code} {b L9 : Nat} {xs : Nat → Int32} {D : va_G} {cI cJ cZ : ClassId} {kr kp j cc ss : Nat} {h h2 : Nat → Nat} {oa : Nat} {yo : Nat → Int64} {th : Int32} {n : Nat} {L : Nat → Int64} {kt : Nat → Int32} {km : Nat → Int32} {kl : Nat → Int32} {pt : Nat → Int32} {pm : Nat → Int32} {pl : Nat → Int32} {nu : Nat → Int32} {le : Nat → Int32} {ow : Nat → Int32} {fo : Nat → Int32} {run : Bool} {wc : Nat} {lc : Nat} {tr : Nat} {cl : Nat} {tm : Nat} {ms : Nat} {yl : Nat → Int32} {yc : Nat → Int32} {yt : Nat → Int32} {co : Nat} {pa : Int32} {su : Nat} {sc : Nat} {mc : Nat → Int32} {af : Nat → Int32} {yn : Nat} {yh : Nat → Int32} {k : Nat} (C : zLw p l s m meth c b L9 xs D cI cJ cZ kr kp) (hj : 4 * j + 4 ≤ L9) (hcc : cc + 2 ≤ 601024) (hss : ss + 1542 ≤ 7293034) (kont : zKt p l e s m below meth c b D cI cJ cZ j cc ss) (hI : zInv j n L pt le ow af run wc lc tr cl tm ms yl yc yt co yn su sc yh) (ea1 : xs (4 * j + 1) = nI k) (ea2 : xs (4 * j + 2) = 2) (hk : k < 26) {H : Heap} {locs : List Loc} {ls : Array Slot} (hP : va_P D vwCl ((zWT cI cJ h (n, L) (kt, km, kl) (pt, pm, pl) (nu, le, ow, fo, run, wc, lc, tr, cl, tm, ms) (yl, yc, yt, co, pa, su, sc) mc) ++ ((oa, .inl (cJ, 1, .inr (.inl yo))) :: (zWM cI cJ cZ h2 th (n, L) ((zcb kt pt), (zcb km pm), (zcb kl pl)) mc (run, wc, nu, lc, le, af, tr, ms, cl, tm) (co, yn, yh, pa)))) H) (hD : va_D (zAb s.heap.size) ((zWT cI cJ h (n, L) (kt, km, kl) (pt, pm, pl) (nu, le, ow, fo, run, wc, lc, tr, cl, tm, ms) (yl, yc, yt, co, pa, su, sc) mc) ++ ((oa, .inl (cJ, 1, .inr (.inl yo))) :: (zWM cI cJ cZ h2 th (n, L) ((zcb kt pt), (zcb km pm), (zcb kl pl)) mc (run, wc, nu, lc, le, af, tr, ms, cl, tm) (co, yn, yh, pa))))) (hS : va_S (zAb s.heap.size) s.heap H locs) (hl : lv_has ls 9 [(0, .ref b), (1, .ref (h 0)), (2, .ref (h2 0)), (3, .ref oa), (4, .int (nI (4 * j)))]) : W p l e room_1 s m #[Value.ref b] below meth c H locs cc ss (lw_Z below #[Value.ref b] s) (F0 m 812 ls []) := by
  obtain ⟨C0, hls, hK, hE, hL9⟩ := C
  obtain ⟨hx, hb, hr, hml, hown, hts0, hX, hbl, hlocks, hgv⟩ := C0
  have hts : ∀ w ∈ wsL_law, w.before #[Value.ref b] s = true := fun w h => hts0 w (wsL_law_in w h)
  have hbA : ¬ zAb s.heap.size b := Nat.not_le.mpr hbl
  have hB : s.heap.size ≤ s.heap.size := Nat.le_refl _
  have hn40 := hI.1.1
  have hzk := hI.1.2
  obtain ⟨hwc6, hlc48, htrl, hclt, hms1⟩ := hI.2.1
  have hrt := hI.2.2.1
  have hle := hI.2.2.2.1
  have hMk := hI.2.2.2.2.1
  have hct := hI.2.2.2.2.2.1
  have hHi := hI.2.2.2.2.2.2.1
  have hsu := hI.2.2.2.2.2.2.2.2.1
  have hj5 : j ≤ 511 := by omega
  have hco : co < 256 := by have := hct.1; omega
  have hco6 : co ≤ 256 := Nat.le_of_lt hco
  have hsl : su < 2147483648 := by have := hsu.2.2; omega
  have hpt := hI.hpt (Nat.le_succ_of_le hj5)
  refine lv_aload_n hx hb dL_law_812 rfl (lv_at hl 1 rfl) ?_
  refine lv_aload_n hx hb dL_law_813 rfl (lv_at hl 0 rfl) ?_
  refine lv_iload hx hb dL_law_814 (lv_at hl 4 rfl) ?_
  refine lv_iconst (v := 1) hx hb dL_law_816 (by decide) ?_
  refine lv_iadd hx hb dL_law_817 ?_
  refine lv_topi (fun v_1 ev_1 => ?_)
  obtain rfl : v_1 = (nI ((4 * j) + 1)) := ev_1.trans (nI_add (4 * j) 1)
  refine va_sld hx hb hX hbl hbA hS (vp_in_nI (n := ((4 * j) + 1)) (N := L9) (by omega) (by omega)) dL_law_818 ?_
  refine lv_topi (fun v_2 ev_2 => ?_)
  obtain rfl : (nI k) = v_2 := (ev_2.trans ((congrArg xs (nI_clamp (by omega))).trans ea1)).symm
  refine lv_aload_n hx hb dL_law_819 rfl (lv_at hl 0 rfl) ?_
  refine lv_iload hx hb dL_law_820 (lv_at hl 4 rfl) ?_
  refine lv_iconst (v := 2) hx hb dL_law_822 (by decide) ?_
  refine lv_iadd hx hb dL_law_823 ?_
  refine lv_topi (fun v_3 ev_3 => ?_)
  obtain rfl : v_3 = (nI ((4 * j) + 2)) := ev_3.trans (nI_add (4 * j) 2)
  refine va_sld hx hb hX hbl hbA hS (vp_in_nI (n := ((4 * j) + 2)) (N := L9) (by omega) (by omega)) dL_law_824 ?_
  refine lv_topi (fun v_4 ev_4 => ?_)
  obtain rfl : 2 = v_4 := (ev_4.trans ((congrArg xs (nI_clamp (by omega))).trans ea2)).symm
  refine lv_aload_n hx hb dL_law_825 rfl (lv_at hl 3 rfl) ?_
  refine zci (vx_runSW (As := [.ref (h 0), .int (nI k), .int 2, .ref oa]) (rest := []) ⟨hx, hb, hml, hown, hts⟩ (c_L_key_2 (k := k) (hk)) (vx_cwSW 4 hts gL_law_L_key rfl rfl rfl hds_L_key ⟨Nat.le_of_ble_eq_true rfl, Nat.le_of_ble_eq_true rfl⟩) (zS hP hD hK hE hB hS) rfl rfl hl.1 rfl (lv_room (Nat.le_of_ble_eq_true rfl)) dL_law_826 ⟨(show cc + 0 ≤ 601024 by omega), (show ss + 0 ≤ 7293034 by omega)⟩) hS (fun H locs hP hD hS => ?_)
  have hP : va_P D vwCl ((zWT cI cJ h (n, L) (kt, km, kl) (pt, pm, pl) (nu, le, ow, fo, run, wc, lc, tr, cl, tm, ms) (yl, yc, yt, co, pa, su, sc) mc) ++ ((oa, .inl (cJ, 1, .inr (.inl (vp_updL yo 0 (((kl k)).toInt64))))) :: (zWM cI cJ cZ h2 th (n, L) ((zcb kt pt), (zcb km pm), (zcb kl pl)) mc (run, wc, nu, lc, le, af, tr, ms, cl, tm) (co, yn, yh, pa)))) H := hP
  have hD : va_D (zAb s.heap.size) ((zWT cI cJ h (n, L) (kt, km, kl) (pt, pm, pl) (nu, le, ow, fo, run, wc, lc, tr, cl, tm, ms) (yl, yc, yt, co, pa, su, sc) mc) ++ ((oa, .inl (cJ, 1, .inr (.inl (vp_updL yo 0 (((kl k)).toInt64))))) :: (zWM cI cJ cZ h2 th (n, L) ((zcb kt pt), (zcb km pm), (zcb kl pl)) mc (run, wc, nu, lc, le, af, tr, ms, cl, tm) (co, yn, yh, pa)))) := hD
  refine lv_istore (lv' := [(5, .int 0), (0, .ref b), (1, .ref (h 0)), (2, .ref (h2 0)), (3, .ref oa), (4, .int (nI (4 * j)))]) hx hb dL_law_829 hl (by decide) rfl (fun ls hl => ?_)
  refine lv_aload_n hx hb dL_law_831 rfl (lv_at hl 3 rfl) ?_
  refine lv_aload_n hx hb dL_law_832 rfl (lv_at hl 1 rfl) ?_
  refine lv_iload hx hb dL_law_833 (lv_at hl 5 rfl) ?_
  refine lv_iconst (v := 1) hx hb dL_law_835 (by decide) ?_
  refine lv_iadd hx hb dL_law_836 ?_
  refine lv_topi (fun v_5 ev_5 => ?_)
  obtain rfl : v_5 = (nI ((4 * j) + 1)) := ev_5.trans (nI_add (4 * j) 1)
  refine va_sld hx hb hX hbl hbA hS (vp_in_nI (n := ((4 * j) + 1)) (N := L9) (by omega) (by omega)) dL_law_837 ?_
  refine lv_topi (fun v_6 ev_6 => ?_)
  obtain rfl : (nI k) = v_6 := (ev_6.trans ((congrArg xs (nI_clamp (by omega))).trans ea1)).symm
  refine lv_aload_n hx hb dL_law_838 rfl (lv_at hl 1 rfl) ?_
  refine lv_iload hx hb dL_law_839 (lv_at hl 5 rfl) ?_
  refine lv_iconst (v := 2) hx hb dL_law_841 (by decide) ?_
  refine lv_iadd hx hb dL_law_842 ?_
  refine lv_topi (fun v_7 ev_7 => ?_)
  obtain rfl : v_7 = (nI ((4 * j) + 2)) := ev_7.trans (nI_add (4 * j) 2)
  refine va_sld hx hb hX hbl hbA hS (vp_in_nI (n := ((4 * j) + 2)) (N := L9) (by omega) (by omega)) dL_law_843 ?_
  refine lv_topi (fun v_8 ev_8 => ?_)
  obtain rfl : 2 = v_8 := (ev_8.trans ((congrArg xs (nI_clamp (by omega))).trans ea2)).symm
  have hP9 : va_P D vwCl ((zWM cI cJ cZ h2 th (n, L) ((zcb kt pt), (zcb km pm), (zcb kl pl)) mc (run, wc, nu, lc, le, af, tr, ms, cl, tm) (co, yn, yh, pa)) ++ ((zWT cI cJ h (n, L) (kt, km, kl) (pt, pm, pl) (nu, le, ow, fo, run, wc, lc, tr, cl, tm, ms) (yl, yc, yt, co, pa, su, sc) mc) ++ [(oa, .inl (cJ, 1, .inr (.inl (vp_updL yo 0 (((kl k)).toInt64)))))])) H := zswapP (A := (zWT cI cJ h (n, L) (kt, km, kl) (pt, pm, pl) (nu, le, ow, fo, run, wc, lc, tr, cl, tm, ms) (yl, yc, yt, co, pa, su, sc) mc) ++ [(oa, .inl (cJ, 1, .inr (.inl (vp_updL yo 0 (((kl k)).toInt64)))))]) (Bw := (zWM cI cJ cZ h2 th (n, L) ((zcb kt pt), (zcb km pm), (zcb kl pl)) mc (run, wc, nu, lc, le, af, tr, ms, cl, tm) (co, yn, yh, pa))) hP
  have hD9 : va_D (zAb s.heap.size) ((zWM cI cJ cZ h2 th (n, L) ((zcb kt pt), (zcb km pm), (zcb kl pl)) mc (run, wc, nu, lc, le, af, tr, ms, cl, tm) (co, yn, yh, pa)) ++ ((zWT cI cJ h (n, L) (kt, km, kl) (pt, pm, pl) (nu, le, ow, fo, run, wc, lc, tr, cl, tm, ms) (yl, yc, yt, co, pa, su, sc) mc) ++ [(oa, .inl (cJ, 1, .inr (.inl (vp_updL yo 0 (((kl k)).toInt64)))))])) := zswapD (A := (zWT cI cJ h (n, L) (kt, km, kl) (pt, pm, pl) (nu, le, ow, fo, run, wc, lc, tr, cl, tm, ms) (yl, yc, yt, co, pa, su, sc) mc) ++ [(oa, .inl (cJ, 1, .inr (.inl (vp_updL yo 0 (((kl k)).toInt64)))))]) (Bw := (zWM cI cJ cZ h2 th (n, L) ((zcb kt pt), (zcb km pm), (zcb kl pl)) mc (run, wc, nu, lc, le, af, tr, ms, cl, tm) (co, yn, yh, pa))) hD
  refine zci (zrV (As := [.int (nI k), .int 2]) (rest := []) ⟨hx, hb, hml, hown, hts⟩ (zV 0 hP9 hD9 hK hE hB hS rfl rfl) (c_X5_key_2 (k := k) (hk)) (cwV 2 hts gL_law_X5_key rfl rfl rfl hdv_X5_key ⟨Nat.le_of_ble_eq_true rfl, Nat.le_of_ble_eq_true rfl⟩) rfl rfl hl.1 rfl (lv_room (Nat.le_of_ble_eq_true rfl)) dL_law_844 ⟨(show cc + 0 + 0 ≤ 601024 by omega), (show ss + 0 + 0 ≤ 7293034 by omega)⟩) hS (fun H locs hP hD hS => ?_)
  have hP : va_P D vwCl ((zWT cI cJ h (n, L) (kt, km, kl) (pt, pm, pl) (nu, le, ow, fo, run, wc, lc, tr, cl, tm, ms) (yl, yc, yt, co, pa, su, sc) mc) ++ ((oa, .inl (cJ, 1, .inr (.inl (vp_updL yo 0 (((kl k)).toInt64))))) :: (zWM cI cJ cZ h2 0 (n, L) ((zcb kt pt), (zcb km pm), (zcb kl pl)) mc (run, wc, nu, lc, le, af, tr, ms, cl, tm) (co, yn, yh, pa)))) H := zswapP (A := (zWM cI cJ cZ h2 0 (n, L) ((zcb kt pt), (zcb km pm), (zcb kl pl)) mc (run, wc, nu, lc, le, af, tr, ms, cl, tm) (co, yn, yh, pa))) (Bw := (zWT cI cJ h (n, L) (kt, km, kl) (pt, pm, pl) (nu, le, ow, fo, run, wc, lc, tr, cl, tm, ms) (yl, yc, yt, co, pa, su, sc) mc) ++ [(oa, .inl (cJ, 1, .inr (.inl (vp_updL yo 0 (((kl k)).toInt64)))))]) hP
  have hD : va_D (zAb s.heap.size) ((zWT cI cJ h (n, L) (kt, km, kl) (pt, pm, pl) (nu, le, ow, fo, run, wc, lc, tr, cl, tm, ms) (yl, yc, yt, co, pa, su, sc) mc) ++ ((oa, .inl (cJ, 1, .inr (.inl (vp_updL yo 0 (((kl k)).toInt64))))) :: (zWM cI cJ cZ h2 0 (n, L) ((zcb kt pt), (zcb km pm), (zcb kl pl)) mc (run, wc, nu, lc, le, af, tr, ms, cl, tm) (co, yn, yh, pa)))) := zswapD (A := (zWM cI cJ cZ h2 0 (n, L) ((zcb kt pt), (zcb km pm), (zcb kl pl)) mc (run, wc, nu, lc, le, af, tr, ms, cl, tm) (co, yn, yh, pa))) (Bw := (zWT cI cJ h (n, L) (kt, km, kl) (pt, pm, pl) (nu, le, ow, fo, run, wc, lc, tr, cl, tm, ms) (yl, yc, yt, co, pa, su, sc) mc) ++ [(oa, .inl (cJ, 1, .inr (.inl (vp_updL yo 0 (((kl k)).toInt64)))))]) hD
  refine lv_istore (lv' := [(6, .int (kl k)), (5, .int 0), (0, .ref b), (1, .ref (h 0)), (2, .ref (h2 0)), (3, .ref oa), (4, .int (nI (4 * j)))]) hx hb dL_law_847 hl (by decide) rfl (fun ls hl => ?_)
  refine lv_aload_n hx hb dL_law_849 rfl (lv_at hl 4 rfl) ?_
  have hP9 : va_P D vwCl ((zWM cI cJ cZ h2 0 (n, L) ((zcb kt pt), (zcb km pm), (zcb kl pl)) mc (run, wc, nu, lc, le, af, tr, ms, cl, tm) (co, yn, yh, pa)) ++ ((zWT cI cJ h (n, L) (kt, km, kl) (pt, pm, pl) (nu, le, ow, fo, run, wc, lc, tr, cl, tm, ms) (yl, yc, yt, co, pa, su, sc) mc) ++ [(oa, .inl (cJ, 1, .inr (.inl (vp_updL yo 0 (((kl k)).toInt64)))))])) H := zswapP (A := (zWT cI cJ h (n, L) (kt, km, kl) (pt, pm, pl) (nu, le, ow, fo, run, wc, lc, tr, cl, tm, ms) (yl, yc, yt, co, pa, su, sc) mc) ++ [(oa, .inl (cJ, 1, .inr (.inl (vp_updL yo 0 (((kl k)).toInt64)))))]) (Bw := (zWM cI cJ cZ h2 0 (n, L) ((zcb kt pt), (zcb km pm), (zcb kl pl)) mc (run, wc, nu, lc, le, af, tr, ms, cl, tm) (co, yn, yh, pa))) hP
  have hD9 : va_D (zAb s.heap.size) ((zWM cI cJ cZ h2 0 (n, L) ((zcb kt pt), (zcb km pm), (zcb kl pl)) mc (run, wc, nu, lc, le, af, tr, ms, cl, tm) (co, yn, yh, pa)) ++ ((zWT cI cJ h (n, L) (kt, km, kl) (pt, pm, pl) (nu, le, ow, fo, run, wc, lc, tr, cl, tm, ms) (yl, yc, yt, co, pa, su, sc) mc) ++ [(oa, .inl (cJ, 1, .inr (.inl (vp_updL yo 0 (((kl k)).toInt64)))))])) := zswapD (A := (zWT cI cJ h (n, L) (kt, km, kl) (pt, pm, pl) (nu, le, ow, fo, run, wc, lc, tr, cl, tm, ms) (yl, yc, yt, co, pa, su, sc) mc) ++ [(oa, .inl (cJ, 1, .inr (.inl (vp_updL yo 0 (((kl k)).toInt64)))))]) (Bw := (zWM cI cJ cZ h2 0 (n, L) ((zcb kt pt), (zcb km pm), (zcb kl pl)) mc (run, wc, nu, lc, le, af, tr, ms, cl, tm) (co, yn, yh, pa))) hD
  refine zci (zrV (As := []) (rest := []) ⟨hx, hb, hml, hown, hts⟩ (zV 0 hP9 hD9 hK hE hB hS rfl rfl) (c_X5_thrown  ) (cwV 0 hts gL_law_X5_thrown rfl rfl rfl hdv_X5_thrown ⟨Nat.le_of_ble_eq_true rfl, Nat.le_of_ble_eq_true rfl⟩) rfl rfl hl.1 rfl (lv_room (Nat.le_of_ble_eq_true rfl)) dL_law_850 ⟨(show cc + 0 + 0 + 0 ≤ 601024 by omega), (show ss + 0 + 0 + 0 ≤ 7293034 by omega)⟩) hS (fun H locs hP hD hS => ?_)
  have hP : va_P D vwCl ((zWT cI cJ h (n, L) (kt, km, kl) (pt, pm, pl) (nu, le, ow, fo, run, wc, lc, tr, cl, tm, ms) (yl, yc, yt, co, pa, su, sc) mc) ++ ((oa, .inl (cJ, 1, .inr (.inl (vp_updL yo 0 (((kl k)).toInt64))))) :: (zWM cI cJ cZ h2 0 (n, L) ((zcb kt pt), (zcb km pm), (zcb kl pl)) mc (run, wc, nu, lc, le, af, tr, ms, cl, tm) (co, yn, yh, pa)))) H := zswapP (A := (zWM cI cJ cZ h2 0 (n, L) ((zcb kt pt), (zcb km pm), (zcb kl pl)) mc (run, wc, nu, lc, le, af, tr, ms, cl, tm) (co, yn, yh, pa))) (Bw := (zWT cI cJ h (n, L) (kt, km, kl) (pt, pm, pl) (nu, le, ow, fo, run, wc, lc, tr, cl, tm, ms) (yl, yc, yt, co, pa, su, sc) mc) ++ [(oa, .inl (cJ, 1, .inr (.inl (vp_updL yo 0 (((kl k)).toInt64)))))]) hP
  have hD : va_D (zAb s.heap.size) ((zWT cI cJ h (n, L) (kt, km, kl) (pt, pm, pl) (nu, le, ow, fo, run, wc, lc, tr, cl, tm, ms) (yl, yc, yt, co, pa, su, sc) mc) ++ ((oa, .inl (cJ, 1, .inr (.inl (vp_updL yo 0 (((kl k)).toInt64))))) :: (zWM cI cJ cZ h2 0 (n, L) ((zcb kt pt), (zcb km pm), (zcb kl pl)) mc (run, wc, nu, lc, le, af, tr, ms, cl, tm) (co, yn, yh, pa)))) := zswapD (A := (zWM cI cJ cZ h2 0 (n, L) ((zcb kt pt), (zcb km pm), (zcb kl pl)) mc (run, wc, nu, lc, le, af, tr, ms, cl, tm) (co, yn, yh, pa))) (Bw := (zWT cI cJ h (n, L) (kt, km, kl) (pt, pm, pl) (nu, le, ow, fo, run, wc, lc, tr, cl, tm, ms) (yl, yc, yt, co, pa, su, sc) mc) ++ [(oa, .inl (cJ, 1, .inr (.inl (vp_updL yo 0 (((kl k)).toInt64)))))]) hD
  refine lv_iload hx hb dL_law_853 (lv_at hl 1 rfl) ?_
  refine lv_icmp_eq (tgt := 860) hx hb dL_law_855 (by decide) (fun c_9 => ?_) (fun c_9 => ?_)
  · skip
    refine lv_iload hx hb dL_law_860 (lv_at hl 1 rfl) ?_
    refine lv_if_ne (tgt := 877) hx hb dL_law_862 (by decide) (fun c_10 => ?_) (fun c_10 => ?_)
    · skip
      exfalso; first | omega | (revert c_10; decide) | (exact absurd rfl c_10) | simp_all
    · skip
      refine lv_aload_n hx hb dL_law_865 rfl (lv_at hl 5 rfl) ?_
      refine lv_iconst (v := 0) hx hb dL_law_866 (by decide) ?_
      refine va_lald hx hb hK hP 21 1 rfl rfl (vp_in_nI (n := 0) (N := 1) (by omega) (by omega)) dL_law_867 ?_
      refine lv_topl (fun v_11 ev_11 => ?_)
      obtain rfl : (((kl k)).toInt64) = v_11 := (ev_11.trans (pk_uLs (f := yo) (k := 0) (x := (((kl k)).toInt64)))).symm
      refine lv_iload hx hb dL_law_868 (lv_at hl 0 rfl) ?_
      refine lv_i2l (v := ((kl k)).toInt64) hx hb dL_law_870 rfl ?_
      refine W.lcmp hx hb dL_law_871 ?_
      refine lv_if_eq (tgt := 877) hx hb dL_law_872 (by decide) (fun c_12 => ?_) (fun c_12 => ?_)
      · skip
        have c_12 : (((kl k)).toInt64) = (((kl k)).toInt64) := (lg_cmp_eq _ _).mp c_12
        refine lv_goto (tgt := 1191) hx hb dL_law_877 (by decide) ?_
        refine W.widen (k := cc + 2) (n := ss + 1542) (show cc + 0 + 0 + 0 ≤ cc + 2 by omega) (show ss + 0 + 0 + 0 ≤ ss + 1542 by omega) ?_
        exact kont h h2 oa (vp_updL yo 0 (((kl k)).toInt64)) 0 n L kt km kl pt pm pl nu le ow fo run wc lc tr cl tm ms yl yc yt co pa su sc mc af yn yh (hI.mono) _ _ _ hP hD hS (lv_sub hl [2, 3, 4, 5, 6] rfl)
      · skip
        have c_12 : ¬ (((kl k)).toInt64) = (((kl k)).toInt64) := fun hh => c_12 ((lg_cmp_eq _ _).mpr hh)
        exact absurd rfl c_12
  · skip
    exfalso; first | omega | (revert c_9; decide) | (exact absurd rfl c_9) | simp_all

set_option maxHeartbeats 1000000 in
set_option maxRecDepth 100000 in
theorem law_key_x {p : Program} {l : Launch} {e : Env} {s : State} {m : MethodId} {below : List Frame} {meth : Method} {c : Code} {b L9 : Nat} {xs : Nat → Int32} {D : va_G} {cI cJ cZ : ClassId} {kr kp j cc ss : Nat} {h h2 : Nat → Nat} {oa : Nat} {yo : Nat → Int64} {th : Int32} {n : Nat} {L : Nat → Int64} {kt : Nat → Int32} {km : Nat → Int32} {kl : Nat → Int32} {pt : Nat → Int32} {pm : Nat → Int32} {pl : Nat → Int32} {nu : Nat → Int32} {le : Nat → Int32} {ow : Nat → Int32} {fo : Nat → Int32} {run : Bool} {wc : Nat} {lc : Nat} {tr : Nat} {cl : Nat} {tm : Nat} {ms : Nat} {yl : Nat → Int32} {yc : Nat → Int32} {yt : Nat → Int32} {co : Nat} {pa : Int32} {su : Nat} {sc : Nat} {mc : Nat → Int32} {af : Nat → Int32} {yn : Nat} {yh : Nat → Int32} {i : Int32} {i2 : Int32} (C : zLw p l s m meth c b L9 xs D cI cJ cZ kr kp) (hj : 4 * j + 4 ≤ L9) (hcc : cc + 2 ≤ 601024) (hss : ss + 1542 ≤ 7293034) (kont : zKt p l e s m below meth c b D cI cJ cZ j cc ss) (hI : zInv j n L pt le ow af run wc lc tr cl tm ms yl yc yt co yn su sc yh) (ea1 : xs (4 * j + 1) = i) (ea2 : xs (4 * j + 2) = i2) (h1 : ¬ ((¬ i < 0 ∧ ¬ 26 ≤ i) ∧ ¬ i2 < 0 ∧ i2 ≤ 2)) {H : Heap} {locs : List Loc} {ls : Array Slot} (hP : va_P D vwCl ((zWT cI cJ h (n, L) (kt, km, kl) (pt, pm, pl) (nu, le, ow, fo, run, wc, lc, tr, cl, tm, ms) (yl, yc, yt, co, pa, su, sc) mc) ++ ((oa, .inl (cJ, 1, .inr (.inl yo))) :: (zWM cI cJ cZ h2 th (n, L) ((zcb kt pt), (zcb km pm), (zcb kl pl)) mc (run, wc, nu, lc, le, af, tr, ms, cl, tm) (co, yn, yh, pa)))) H) (hD : va_D (zAb s.heap.size) ((zWT cI cJ h (n, L) (kt, km, kl) (pt, pm, pl) (nu, le, ow, fo, run, wc, lc, tr, cl, tm, ms) (yl, yc, yt, co, pa, su, sc) mc) ++ ((oa, .inl (cJ, 1, .inr (.inl yo))) :: (zWM cI cJ cZ h2 th (n, L) ((zcb kt pt), (zcb km pm), (zcb kl pl)) mc (run, wc, nu, lc, le, af, tr, ms, cl, tm) (co, yn, yh, pa))))) (hS : va_S (zAb s.heap.size) s.heap H locs) (hl : lv_has ls 9 [(0, .ref b), (1, .ref (h 0)), (2, .ref (h2 0)), (3, .ref oa), (4, .int (nI (4 * j)))]) : W p l e room_1 s m #[Value.ref b] below meth c H locs cc ss (lw_Z below #[Value.ref b] s) (F0 m 812 ls []) := by
  obtain ⟨C0, hls, hK, hE, hL9⟩ := C
  obtain ⟨hx, hb, hr, hml, hown, hts0, hX, hbl, hlocks, hgv⟩ := C0
  have hts : ∀ w ∈ wsL_law, w.before #[Value.ref b] s = true := fun w h => hts0 w (wsL_law_in w h)
  have hbA : ¬ zAb s.heap.size b := Nat.not_le.mpr hbl
  have hB : s.heap.size ≤ s.heap.size := Nat.le_refl _
  have hn40 := hI.1.1
  have hzk := hI.1.2
  obtain ⟨hwc6, hlc48, htrl, hclt, hms1⟩ := hI.2.1
  have hrt := hI.2.2.1
  have hle := hI.2.2.2.1
  have hMk := hI.2.2.2.2.1
  have hct := hI.2.2.2.2.2.1
  have hHi := hI.2.2.2.2.2.2.1
  have hsu := hI.2.2.2.2.2.2.2.2.1
  have hj5 : j ≤ 511 := by omega
  have hco : co < 256 := by have := hct.1; omega
  have hco6 : co ≤ 256 := Nat.le_of_lt hco
  have hsl : su < 2147483648 := by have := hsu.2.2; omega
  have hpt := hI.hpt (Nat.le_succ_of_le hj5)
  refine lv_aload_n hx hb dL_law_812 rfl (lv_at hl 1 rfl) ?_
  refine lv_aload_n hx hb dL_law_813 rfl (lv_at hl 0 rfl) ?_
  refine lv_iload hx hb dL_law_814 (lv_at hl 4 rfl) ?_
  refine lv_iconst (v := 1) hx hb dL_law_816 (by decide) ?_
  refine lv_iadd hx hb dL_law_817 ?_
  refine lv_topi (fun v_1 ev_1 => ?_)
  obtain rfl : v_1 = (nI ((4 * j) + 1)) := ev_1.trans (nI_add (4 * j) 1)
  refine va_sld hx hb hX hbl hbA hS (vp_in_nI (n := ((4 * j) + 1)) (N := L9) (by omega) (by omega)) dL_law_818 ?_
  refine lv_topi (fun v_2 ev_2 => ?_)
  obtain rfl : i = v_2 := (ev_2.trans ((congrArg xs (nI_clamp (by omega))).trans ea1)).symm
  refine lv_aload_n hx hb dL_law_819 rfl (lv_at hl 0 rfl) ?_
  refine lv_iload hx hb dL_law_820 (lv_at hl 4 rfl) ?_
  refine lv_iconst (v := 2) hx hb dL_law_822 (by decide) ?_
  refine lv_iadd hx hb dL_law_823 ?_
  refine lv_topi (fun v_3 ev_3 => ?_)
  obtain rfl : v_3 = (nI ((4 * j) + 2)) := ev_3.trans (nI_add (4 * j) 2)
  refine va_sld hx hb hX hbl hbA hS (vp_in_nI (n := ((4 * j) + 2)) (N := L9) (by omega) (by omega)) dL_law_824 ?_
  refine lv_topi (fun v_4 ev_4 => ?_)
  obtain rfl : i2 = v_4 := (ev_4.trans ((congrArg xs (nI_clamp (by omega))).trans ea2)).symm
  refine lv_aload_n hx hb dL_law_825 rfl (lv_at hl 3 rfl) ?_
  refine zci (vx_runSW (As := [.ref (h 0), .int i, .int i2, .ref oa]) (rest := []) ⟨hx, hb, hml, hown, hts⟩ (c_L_key_x  hls (h1)) (vx_cwSW 4 hts gL_law_L_key rfl rfl rfl hds_L_key ⟨Nat.le_of_ble_eq_true rfl, Nat.le_of_ble_eq_true rfl⟩) (zS hP hD hK hE hB hS) rfl rfl hl.1 rfl (lv_room (Nat.le_of_ble_eq_true rfl)) dL_law_826 ⟨(show cc + 1 ≤ 601024 by omega), (show ss + 6 ≤ 7293034 by omega)⟩) hS (fun H locs hP hD hS => ?_)
  have hP : va_P D vwCl ((zWT cI cJ h (n, L) (kt, km, kl) (pt, pm, pl) (nu, le, ow, fo, run, wc, lc, tr, cl, tm, ms) (yl, yc, yt, co, pa, su, sc) mc) ++ ((oa, .inl (cJ, 1, .inr (.inl yo))) :: (zWM cI cJ cZ h2 th (n, L) ((zcb kt pt), (zcb km pm), (zcb kl pl)) mc (run, wc, nu, lc, le, af, tr, ms, cl, tm) (co, yn, yh, pa)))) H := hP
  have hD : va_D (zAb s.heap.size) ((zWT cI cJ h (n, L) (kt, km, kl) (pt, pm, pl) (nu, le, ow, fo, run, wc, lc, tr, cl, tm, ms) (yl, yc, yt, co, pa, su, sc) mc) ++ ((oa, .inl (cJ, 1, .inr (.inl yo))) :: (zWM cI cJ cZ h2 th (n, L) ((zcb kt pt), (zcb km pm), (zcb kl pl)) mc (run, wc, nu, lc, le, af, tr, ms, cl, tm) (co, yn, yh, pa)))) := hD
  refine lv_istore (lv' := [(5, .int 1), (0, .ref b), (1, .ref (h 0)), (2, .ref (h2 0)), (3, .ref oa), (4, .int (nI (4 * j)))]) hx hb dL_law_829 hl (by decide) rfl (fun ls hl => ?_)
  refine lv_aload_n hx hb dL_law_831 rfl (lv_at hl 3 rfl) ?_
  refine lv_aload_n hx hb dL_law_832 rfl (lv_at hl 1 rfl) ?_
  refine lv_iload hx hb dL_law_833 (lv_at hl 5 rfl) ?_
  refine lv_iconst (v := 1) hx hb dL_law_835 (by decide) ?_
  refine lv_iadd hx hb dL_law_836 ?_
  refine lv_topi (fun v_5 ev_5 => ?_)
  obtain rfl : v_5 = (nI ((4 * j) + 1)) := ev_5.trans (nI_add (4 * j) 1)
  refine va_sld hx hb hX hbl hbA hS (vp_in_nI (n := ((4 * j) + 1)) (N := L9) (by omega) (by omega)) dL_law_837 ?_
  refine lv_topi (fun v_6 ev_6 => ?_)
  obtain rfl : i = v_6 := (ev_6.trans ((congrArg xs (nI_clamp (by omega))).trans ea1)).symm
  refine lv_aload_n hx hb dL_law_838 rfl (lv_at hl 1 rfl) ?_
  refine lv_iload hx hb dL_law_839 (lv_at hl 5 rfl) ?_
  refine lv_iconst (v := 2) hx hb dL_law_841 (by decide) ?_
  refine lv_iadd hx hb dL_law_842 ?_
  refine lv_topi (fun v_7 ev_7 => ?_)
  obtain rfl : v_7 = (nI ((4 * j) + 2)) := ev_7.trans (nI_add (4 * j) 2)
  refine va_sld hx hb hX hbl hbA hS (vp_in_nI (n := ((4 * j) + 2)) (N := L9) (by omega) (by omega)) dL_law_843 ?_
  refine lv_topi (fun v_8 ev_8 => ?_)
  obtain rfl : i2 = v_8 := (ev_8.trans ((congrArg xs (nI_clamp (by omega))).trans ea2)).symm
  have hP9 : va_P D vwCl ((zWM cI cJ cZ h2 th (n, L) ((zcb kt pt), (zcb km pm), (zcb kl pl)) mc (run, wc, nu, lc, le, af, tr, ms, cl, tm) (co, yn, yh, pa)) ++ ((zWT cI cJ h (n, L) (kt, km, kl) (pt, pm, pl) (nu, le, ow, fo, run, wc, lc, tr, cl, tm, ms) (yl, yc, yt, co, pa, su, sc) mc) ++ [(oa, .inl (cJ, 1, .inr (.inl yo)))])) H := zswapP (A := (zWT cI cJ h (n, L) (kt, km, kl) (pt, pm, pl) (nu, le, ow, fo, run, wc, lc, tr, cl, tm, ms) (yl, yc, yt, co, pa, su, sc) mc) ++ [(oa, .inl (cJ, 1, .inr (.inl yo)))]) (Bw := (zWM cI cJ cZ h2 th (n, L) ((zcb kt pt), (zcb km pm), (zcb kl pl)) mc (run, wc, nu, lc, le, af, tr, ms, cl, tm) (co, yn, yh, pa))) hP
  have hD9 : va_D (zAb s.heap.size) ((zWM cI cJ cZ h2 th (n, L) ((zcb kt pt), (zcb km pm), (zcb kl pl)) mc (run, wc, nu, lc, le, af, tr, ms, cl, tm) (co, yn, yh, pa)) ++ ((zWT cI cJ h (n, L) (kt, km, kl) (pt, pm, pl) (nu, le, ow, fo, run, wc, lc, tr, cl, tm, ms) (yl, yc, yt, co, pa, su, sc) mc) ++ [(oa, .inl (cJ, 1, .inr (.inl yo)))])) := zswapD (A := (zWT cI cJ h (n, L) (kt, km, kl) (pt, pm, pl) (nu, le, ow, fo, run, wc, lc, tr, cl, tm, ms) (yl, yc, yt, co, pa, su, sc) mc) ++ [(oa, .inl (cJ, 1, .inr (.inl yo)))]) (Bw := (zWM cI cJ cZ h2 th (n, L) ((zcb kt pt), (zcb km pm), (zcb kl pl)) mc (run, wc, nu, lc, le, af, tr, ms, cl, tm) (co, yn, yh, pa))) hD
  refine zci (zrV (As := [.int i, .int i2]) (rest := []) ⟨hx, hb, hml, hown, hts⟩ (zV 0 hP9 hD9 hK hE hB hS rfl rfl) (c_X5_key_x  (h1)) (cwV 2 hts gL_law_X5_key rfl rfl rfl hdv_X5_key ⟨Nat.le_of_ble_eq_true rfl, Nat.le_of_ble_eq_true rfl⟩) rfl rfl hl.1 rfl (lv_room (Nat.le_of_ble_eq_true rfl)) dL_law_844 ⟨(show cc + 1 + 0 ≤ 601024 by omega), (show ss + 6 + 0 ≤ 7293034 by omega)⟩) hS (fun H locs hP hD hS => ?_)
  have hP : va_P D vwCl ((zWT cI cJ h (n, L) (kt, km, kl) (pt, pm, pl) (nu, le, ow, fo, run, wc, lc, tr, cl, tm, ms) (yl, yc, yt, co, pa, su, sc) mc) ++ ((oa, .inl (cJ, 1, .inr (.inl yo))) :: (zWM cI cJ cZ h2 1 (n, L) ((zcb kt pt), (zcb km pm), (zcb kl pl)) mc (run, wc, nu, lc, le, af, tr, ms, cl, tm) (co, yn, yh, pa)))) H := zswapP (A := (zWM cI cJ cZ h2 1 (n, L) ((zcb kt pt), (zcb km pm), (zcb kl pl)) mc (run, wc, nu, lc, le, af, tr, ms, cl, tm) (co, yn, yh, pa))) (Bw := (zWT cI cJ h (n, L) (kt, km, kl) (pt, pm, pl) (nu, le, ow, fo, run, wc, lc, tr, cl, tm, ms) (yl, yc, yt, co, pa, su, sc) mc) ++ [(oa, .inl (cJ, 1, .inr (.inl yo)))]) hP
  have hD : va_D (zAb s.heap.size) ((zWT cI cJ h (n, L) (kt, km, kl) (pt, pm, pl) (nu, le, ow, fo, run, wc, lc, tr, cl, tm, ms) (yl, yc, yt, co, pa, su, sc) mc) ++ ((oa, .inl (cJ, 1, .inr (.inl yo))) :: (zWM cI cJ cZ h2 1 (n, L) ((zcb kt pt), (zcb km pm), (zcb kl pl)) mc (run, wc, nu, lc, le, af, tr, ms, cl, tm) (co, yn, yh, pa)))) := zswapD (A := (zWM cI cJ cZ h2 1 (n, L) ((zcb kt pt), (zcb km pm), (zcb kl pl)) mc (run, wc, nu, lc, le, af, tr, ms, cl, tm) (co, yn, yh, pa))) (Bw := (zWT cI cJ h (n, L) (kt, km, kl) (pt, pm, pl) (nu, le, ow, fo, run, wc, lc, tr, cl, tm, ms) (yl, yc, yt, co, pa, su, sc) mc) ++ [(oa, .inl (cJ, 1, .inr (.inl yo)))]) hD
  refine lv_istore (lv' := [(6, .int 0), (5, .int 1), (0, .ref b), (1, .ref (h 0)), (2, .ref (h2 0)), (3, .ref oa), (4, .int (nI (4 * j)))]) hx hb dL_law_847 hl (by decide) rfl (fun ls hl => ?_)
  refine lv_aload_n hx hb dL_law_849 rfl (lv_at hl 4 rfl) ?_
  have hP9 : va_P D vwCl ((zWM cI cJ cZ h2 1 (n, L) ((zcb kt pt), (zcb km pm), (zcb kl pl)) mc (run, wc, nu, lc, le, af, tr, ms, cl, tm) (co, yn, yh, pa)) ++ ((zWT cI cJ h (n, L) (kt, km, kl) (pt, pm, pl) (nu, le, ow, fo, run, wc, lc, tr, cl, tm, ms) (yl, yc, yt, co, pa, su, sc) mc) ++ [(oa, .inl (cJ, 1, .inr (.inl yo)))])) H := zswapP (A := (zWT cI cJ h (n, L) (kt, km, kl) (pt, pm, pl) (nu, le, ow, fo, run, wc, lc, tr, cl, tm, ms) (yl, yc, yt, co, pa, su, sc) mc) ++ [(oa, .inl (cJ, 1, .inr (.inl yo)))]) (Bw := (zWM cI cJ cZ h2 1 (n, L) ((zcb kt pt), (zcb km pm), (zcb kl pl)) mc (run, wc, nu, lc, le, af, tr, ms, cl, tm) (co, yn, yh, pa))) hP
  have hD9 : va_D (zAb s.heap.size) ((zWM cI cJ cZ h2 1 (n, L) ((zcb kt pt), (zcb km pm), (zcb kl pl)) mc (run, wc, nu, lc, le, af, tr, ms, cl, tm) (co, yn, yh, pa)) ++ ((zWT cI cJ h (n, L) (kt, km, kl) (pt, pm, pl) (nu, le, ow, fo, run, wc, lc, tr, cl, tm, ms) (yl, yc, yt, co, pa, su, sc) mc) ++ [(oa, .inl (cJ, 1, .inr (.inl yo)))])) := zswapD (A := (zWT cI cJ h (n, L) (kt, km, kl) (pt, pm, pl) (nu, le, ow, fo, run, wc, lc, tr, cl, tm, ms) (yl, yc, yt, co, pa, su, sc) mc) ++ [(oa, .inl (cJ, 1, .inr (.inl yo)))]) (Bw := (zWM cI cJ cZ h2 1 (n, L) ((zcb kt pt), (zcb km pm), (zcb kl pl)) mc (run, wc, nu, lc, le, af, tr, ms, cl, tm) (co, yn, yh, pa))) hD
  refine zci (zrV (As := []) (rest := []) ⟨hx, hb, hml, hown, hts⟩ (zV 0 hP9 hD9 hK hE hB hS rfl rfl) (c_X5_thrown  ) (cwV 0 hts gL_law_X5_thrown rfl rfl rfl hdv_X5_thrown ⟨Nat.le_of_ble_eq_true rfl, Nat.le_of_ble_eq_true rfl⟩) rfl rfl hl.1 rfl (lv_room (Nat.le_of_ble_eq_true rfl)) dL_law_850 ⟨(show cc + 1 + 0 + 0 ≤ 601024 by omega), (show ss + 6 + 0 + 0 ≤ 7293034 by omega)⟩) hS (fun H locs hP hD hS => ?_)
  have hP : va_P D vwCl ((zWT cI cJ h (n, L) (kt, km, kl) (pt, pm, pl) (nu, le, ow, fo, run, wc, lc, tr, cl, tm, ms) (yl, yc, yt, co, pa, su, sc) mc) ++ ((oa, .inl (cJ, 1, .inr (.inl yo))) :: (zWM cI cJ cZ h2 1 (n, L) ((zcb kt pt), (zcb km pm), (zcb kl pl)) mc (run, wc, nu, lc, le, af, tr, ms, cl, tm) (co, yn, yh, pa)))) H := zswapP (A := (zWM cI cJ cZ h2 1 (n, L) ((zcb kt pt), (zcb km pm), (zcb kl pl)) mc (run, wc, nu, lc, le, af, tr, ms, cl, tm) (co, yn, yh, pa))) (Bw := (zWT cI cJ h (n, L) (kt, km, kl) (pt, pm, pl) (nu, le, ow, fo, run, wc, lc, tr, cl, tm, ms) (yl, yc, yt, co, pa, su, sc) mc) ++ [(oa, .inl (cJ, 1, .inr (.inl yo)))]) hP
  have hD : va_D (zAb s.heap.size) ((zWT cI cJ h (n, L) (kt, km, kl) (pt, pm, pl) (nu, le, ow, fo, run, wc, lc, tr, cl, tm, ms) (yl, yc, yt, co, pa, su, sc) mc) ++ ((oa, .inl (cJ, 1, .inr (.inl yo))) :: (zWM cI cJ cZ h2 1 (n, L) ((zcb kt pt), (zcb km pm), (zcb kl pl)) mc (run, wc, nu, lc, le, af, tr, ms, cl, tm) (co, yn, yh, pa)))) := zswapD (A := (zWM cI cJ cZ h2 1 (n, L) ((zcb kt pt), (zcb km pm), (zcb kl pl)) mc (run, wc, nu, lc, le, af, tr, ms, cl, tm) (co, yn, yh, pa))) (Bw := (zWT cI cJ h (n, L) (kt, km, kl) (pt, pm, pl) (nu, le, ow, fo, run, wc, lc, tr, cl, tm, ms) (yl, yc, yt, co, pa, su, sc) mc) ++ [(oa, .inl (cJ, 1, .inr (.inl yo)))]) hD
  refine lv_iload hx hb dL_law_853 (lv_at hl 1 rfl) ?_
  refine lv_icmp_eq (tgt := 860) hx hb dL_law_855 (by decide) (fun c_9 => ?_) (fun c_9 => ?_)
  · skip
    refine lv_iload hx hb dL_law_860 (lv_at hl 1 rfl) ?_
    refine lv_if_ne (tgt := 877) hx hb dL_law_862 (by decide) (fun c_10 => ?_) (fun c_10 => ?_)
    · skip
      refine lv_goto (tgt := 1191) hx hb dL_law_877 (by decide) ?_
      refine W.widen (k := cc + 2) (n := ss + 1542) (show cc + 1 + 0 + 0 ≤ cc + 2 by omega) (show ss + 6 + 0 + 0 ≤ ss + 1542 by omega) ?_
      exact kont h h2 oa yo 1 n L kt km kl pt pm pl nu le ow fo run wc lc tr cl tm ms yl yc yt co pa su sc mc af yn yh (hI.mono) _ _ _ hP hD hS (lv_sub hl [2, 3, 4, 5, 6] rfl)
    · skip
      exfalso; first | omega | (revert c_10; decide) | (exact absurd rfl c_10) | simp_all
  · skip
    exfalso; first | omega | (revert c_9; decide) | (exact absurd rfl c_9) | simp_all

set_option maxHeartbeats 1000000 in
set_option maxRecDepth 100000 in
theorem law_pair_0 {p : Program} {l : Launch} {e : Env} {s : State} {m : MethodId} {below : List Frame} {meth : Method} {c : Code} {b L9 : Nat} {xs : Nat → Int32} {D : va_G} {cI cJ cZ : ClassId} {kr kp j cc ss : Nat} {h h2 : Nat → Nat} {oa : Nat} {yo : Nat → Int64} {th : Int32} {n : Nat} {L : Nat → Int64} {kt : Nat → Int32} {km : Nat → Int32} {kl : Nat → Int32} {pt : Nat → Int32} {pm : Nat → Int32} {pl : Nat → Int32} {nu : Nat → Int32} {le : Nat → Int32} {ow : Nat → Int32} {fo : Nat → Int32} {run : Bool} {wc : Nat} {lc : Nat} {tr : Nat} {cl : Nat} {tm : Nat} {ms : Nat} {yl : Nat → Int32} {yc : Nat → Int32} {yt : Nat → Int32} {co : Nat} {pa : Int32} {su : Nat} {sc : Nat} {mc : Nat → Int32} {af : Nat → Int32} {yn : Nat} {yh : Nat → Int32} {a1 : Nat} {a2 : Nat} (C : zLw p l s m meth c b L9 xs D cI cJ cZ kr kp) (hj : 4 * j + 4 ≤ L9) (hcc : cc + 2 ≤ 601024) (hss : ss + 1542 ≤ 7293034) (kont : zKt p l e s m below meth c b D cI cJ cZ j cc ss) (hI : zInv j n L pt le ow af run wc lc tr cl tm ms yl yc yt co yn su sc yh) (ea1 : xs (4 * j + 1) = nI a1) (ea2 : xs (4 * j + 2) = nI a2) (ea3 : xs (4 * j + 3) = 0) (h1 : a1 < 26) (h2x : a2 < 26) {H : Heap} {locs : List Loc} {ls : Array Slot} (hP : va_P D vwCl ((zWT cI cJ h (n, L) (kt, km, kl) (pt, pm, pl) (nu, le, ow, fo, run, wc, lc, tr, cl, tm, ms) (yl, yc, yt, co, pa, su, sc) mc) ++ ((oa, .inl (cJ, 1, .inr (.inl yo))) :: (zWM cI cJ cZ h2 th (n, L) ((zcb kt pt), (zcb km pm), (zcb kl pl)) mc (run, wc, nu, lc, le, af, tr, ms, cl, tm) (co, yn, yh, pa)))) H) (hD : va_D (zAb s.heap.size) ((zWT cI cJ h (n, L) (kt, km, kl) (pt, pm, pl) (nu, le, ow, fo, run, wc, lc, tr, cl, tm, ms) (yl, yc, yt, co, pa, su, sc) mc) ++ ((oa, .inl (cJ, 1, .inr (.inl yo))) :: (zWM cI cJ cZ h2 th (n, L) ((zcb kt pt), (zcb km pm), (zcb kl pl)) mc (run, wc, nu, lc, le, af, tr, ms, cl, tm) (co, yn, yh, pa))))) (hS : va_S (zAb s.heap.size) s.heap H locs) (hl : lv_has ls 9 [(0, .ref b), (1, .ref (h 0)), (2, .ref (h2 0)), (3, .ref oa), (4, .int (nI (4 * j)))]) : W p l e room_1 s m #[Value.ref b] below meth c H locs cc ss (lw_Z below #[Value.ref b] s) (F0 m 880 ls []) := by
  obtain ⟨C0, hls, hK, hE, hL9⟩ := C
  obtain ⟨hx, hb, hr, hml, hown, hts0, hX, hbl, hlocks, hgv⟩ := C0
  have hts : ∀ w ∈ wsL_law, w.before #[Value.ref b] s = true := fun w h => hts0 w (wsL_law_in w h)
  have hbA : ¬ zAb s.heap.size b := Nat.not_le.mpr hbl
  have hB : s.heap.size ≤ s.heap.size := Nat.le_refl _
  have hn40 := hI.1.1
  have hzk := hI.1.2
  obtain ⟨hwc6, hlc48, htrl, hclt, hms1⟩ := hI.2.1
  have hrt := hI.2.2.1
  have hle := hI.2.2.2.1
  have hMk := hI.2.2.2.2.1
  have hct := hI.2.2.2.2.2.1
  have hHi := hI.2.2.2.2.2.2.1
  have hsu := hI.2.2.2.2.2.2.2.2.1
  have hj5 : j ≤ 511 := by omega
  have hco : co < 256 := by have := hct.1; omega
  have hco6 : co ≤ 256 := Nat.le_of_lt hco
  have hsl : su < 2147483648 := by have := hsu.2.2; omega
  have hpt := hI.hpt (Nat.le_succ_of_le hj5)
  refine lv_aload_n hx hb dL_law_880 rfl (lv_at hl 1 rfl) ?_
  refine lv_aload_n hx hb dL_law_881 rfl (lv_at hl 0 rfl) ?_
  refine lv_iload hx hb dL_law_882 (lv_at hl 4 rfl) ?_
  refine lv_iconst (v := 1) hx hb dL_law_884 (by decide) ?_
  refine lv_iadd hx hb dL_law_885 ?_
  refine lv_topi (fun v_1 ev_1 => ?_)
  obtain rfl : v_1 = (nI ((4 * j) + 1)) := ev_1.trans (nI_add (4 * j) 1)
  refine va_sld hx hb hX hbl hbA hS (vp_in_nI (n := ((4 * j) + 1)) (N := L9) (by omega) (by omega)) dL_law_886 ?_
  refine lv_topi (fun v_2 ev_2 => ?_)
  obtain rfl : (nI a1) = v_2 := (ev_2.trans ((congrArg xs (nI_clamp (by omega))).trans ea1)).symm
  refine lv_aload_n hx hb dL_law_887 rfl (lv_at hl 0 rfl) ?_
  refine lv_iload hx hb dL_law_888 (lv_at hl 4 rfl) ?_
  refine lv_iconst (v := 2) hx hb dL_law_890 (by decide) ?_
  refine lv_iadd hx hb dL_law_891 ?_
  refine lv_topi (fun v_3 ev_3 => ?_)
  obtain rfl : v_3 = (nI ((4 * j) + 2)) := ev_3.trans (nI_add (4 * j) 2)
  refine va_sld hx hb hX hbl hbA hS (vp_in_nI (n := ((4 * j) + 2)) (N := L9) (by omega) (by omega)) dL_law_892 ?_
  refine lv_topi (fun v_4 ev_4 => ?_)
  obtain rfl : (nI a2) = v_4 := (ev_4.trans ((congrArg xs (nI_clamp (by omega))).trans ea2)).symm
  refine lv_aload_n hx hb dL_law_893 rfl (lv_at hl 0 rfl) ?_
  refine lv_iload hx hb dL_law_894 (lv_at hl 4 rfl) ?_
  refine lv_iconst (v := 3) hx hb dL_law_896 (by decide) ?_
  refine lv_iadd hx hb dL_law_897 ?_
  refine lv_topi (fun v_5 ev_5 => ?_)
  obtain rfl : v_5 = (nI ((4 * j) + 3)) := ev_5.trans (nI_add (4 * j) 3)
  refine va_sld hx hb hX hbl hbA hS (vp_in_nI (n := ((4 * j) + 3)) (N := L9) (by omega) (by omega)) dL_law_898 ?_
  refine lv_topi (fun v_6 ev_6 => ?_)
  obtain rfl : 0 = v_6 := (ev_6.trans ((congrArg xs (nI_clamp (by omega))).trans ea3)).symm
  refine lv_aload_n hx hb dL_law_899 rfl (lv_at hl 3 rfl) ?_
  refine zci (vx_runSW (As := [.ref (h 0), .int (nI a1), .int (nI a2), .int 0, .ref oa]) (rest := []) ⟨hx, hb, hml, hown, hts⟩ (c_L_pair_0 (a := a1) (b := a2) (h1) (h2x)) (vx_cwSW 5 hts gL_law_L_pair rfl rfl rfl hds_L_pair ⟨Nat.le_of_ble_eq_true rfl, Nat.le_of_ble_eq_true rfl⟩) (zS hP hD hK hE hB hS) rfl rfl hl.1 rfl (lv_room (Nat.le_of_ble_eq_true rfl)) dL_law_900 ⟨(show cc + 0 ≤ 601024 by omega), (show ss + 0 ≤ 7293034 by omega)⟩) hS (fun H locs hP hD hS => ?_)
  have hP : va_P D vwCl ((zWT cI cJ h (n, L) (kt, km, kl) (pt, pm, pl) (nu, le, ow, fo, run, wc, lc, tr, cl, tm, ms) (yl, yc, yt, co, pa, su, sc) mc) ++ ((oa, .inl (cJ, 1, .inr (.inl (vp_updL yo 0 (((pt (26 * a1 + a2))).toInt64))))) :: (zWM cI cJ cZ h2 th (n, L) ((zcb kt pt), (zcb km pm), (zcb kl pl)) mc (run, wc, nu, lc, le, af, tr, ms, cl, tm) (co, yn, yh, pa)))) H := hP
  have hD : va_D (zAb s.heap.size) ((zWT cI cJ h (n, L) (kt, km, kl) (pt, pm, pl) (nu, le, ow, fo, run, wc, lc, tr, cl, tm, ms) (yl, yc, yt, co, pa, su, sc) mc) ++ ((oa, .inl (cJ, 1, .inr (.inl (vp_updL yo 0 (((pt (26 * a1 + a2))).toInt64))))) :: (zWM cI cJ cZ h2 th (n, L) ((zcb kt pt), (zcb km pm), (zcb kl pl)) mc (run, wc, nu, lc, le, af, tr, ms, cl, tm) (co, yn, yh, pa)))) := hD
  refine lv_istore (lv' := [(5, .int 0), (0, .ref b), (1, .ref (h 0)), (2, .ref (h2 0)), (3, .ref oa), (4, .int (nI (4 * j)))]) hx hb dL_law_903 hl (by decide) rfl (fun ls hl => ?_)
  refine lv_aload_n hx hb dL_law_905 rfl (lv_at hl 3 rfl) ?_
  refine lv_aload_n hx hb dL_law_906 rfl (lv_at hl 1 rfl) ?_
  refine lv_iload hx hb dL_law_907 (lv_at hl 5 rfl) ?_
  refine lv_iconst (v := 1) hx hb dL_law_909 (by decide) ?_
  refine lv_iadd hx hb dL_law_910 ?_
  refine lv_topi (fun v_7 ev_7 => ?_)
  obtain rfl : v_7 = (nI ((4 * j) + 1)) := ev_7.trans (nI_add (4 * j) 1)
  refine va_sld hx hb hX hbl hbA hS (vp_in_nI (n := ((4 * j) + 1)) (N := L9) (by omega) (by omega)) dL_law_911 ?_
  refine lv_topi (fun v_8 ev_8 => ?_)
  obtain rfl : (nI a1) = v_8 := (ev_8.trans ((congrArg xs (nI_clamp (by omega))).trans ea1)).symm
  refine lv_aload_n hx hb dL_law_912 rfl (lv_at hl 1 rfl) ?_
  refine lv_iload hx hb dL_law_913 (lv_at hl 5 rfl) ?_
  refine lv_iconst (v := 2) hx hb dL_law_915 (by decide) ?_
  refine lv_iadd hx hb dL_law_916 ?_
  refine lv_topi (fun v_9 ev_9 => ?_)
  obtain rfl : v_9 = (nI ((4 * j) + 2)) := ev_9.trans (nI_add (4 * j) 2)
  refine va_sld hx hb hX hbl hbA hS (vp_in_nI (n := ((4 * j) + 2)) (N := L9) (by omega) (by omega)) dL_law_917 ?_
  refine lv_topi (fun v_10 ev_10 => ?_)
  obtain rfl : (nI a2) = v_10 := (ev_10.trans ((congrArg xs (nI_clamp (by omega))).trans ea2)).symm
  refine lv_aload_n hx hb dL_law_918 rfl (lv_at hl 1 rfl) ?_
  refine lv_iload hx hb dL_law_919 (lv_at hl 5 rfl) ?_
  refine lv_iconst (v := 3) hx hb dL_law_921 (by decide) ?_
  refine lv_iadd hx hb dL_law_922 ?_
  refine lv_topi (fun v_11 ev_11 => ?_)
  obtain rfl : v_11 = (nI ((4 * j) + 3)) := ev_11.trans (nI_add (4 * j) 3)
  refine va_sld hx hb hX hbl hbA hS (vp_in_nI (n := ((4 * j) + 3)) (N := L9) (by omega) (by omega)) dL_law_923 ?_
  refine lv_topi (fun v_12 ev_12 => ?_)
  obtain rfl : 0 = v_12 := (ev_12.trans ((congrArg xs (nI_clamp (by omega))).trans ea3)).symm
  have hP9 : va_P D vwCl ((zWM cI cJ cZ h2 th (n, L) ((zcb kt pt), (zcb km pm), (zcb kl pl)) mc (run, wc, nu, lc, le, af, tr, ms, cl, tm) (co, yn, yh, pa)) ++ ((zWT cI cJ h (n, L) (kt, km, kl) (pt, pm, pl) (nu, le, ow, fo, run, wc, lc, tr, cl, tm, ms) (yl, yc, yt, co, pa, su, sc) mc) ++ [(oa, .inl (cJ, 1, .inr (.inl (vp_updL yo 0 (((pt (26 * a1 + a2))).toInt64)))))])) H := zswapP (A := (zWT cI cJ h (n, L) (kt, km, kl) (pt, pm, pl) (nu, le, ow, fo, run, wc, lc, tr, cl, tm, ms) (yl, yc, yt, co, pa, su, sc) mc) ++ [(oa, .inl (cJ, 1, .inr (.inl (vp_updL yo 0 (((pt (26 * a1 + a2))).toInt64)))))]) (Bw := (zWM cI cJ cZ h2 th (n, L) ((zcb kt pt), (zcb km pm), (zcb kl pl)) mc (run, wc, nu, lc, le, af, tr, ms, cl, tm) (co, yn, yh, pa))) hP
  have hD9 : va_D (zAb s.heap.size) ((zWM cI cJ cZ h2 th (n, L) ((zcb kt pt), (zcb km pm), (zcb kl pl)) mc (run, wc, nu, lc, le, af, tr, ms, cl, tm) (co, yn, yh, pa)) ++ ((zWT cI cJ h (n, L) (kt, km, kl) (pt, pm, pl) (nu, le, ow, fo, run, wc, lc, tr, cl, tm, ms) (yl, yc, yt, co, pa, su, sc) mc) ++ [(oa, .inl (cJ, 1, .inr (.inl (vp_updL yo 0 (((pt (26 * a1 + a2))).toInt64)))))])) := zswapD (A := (zWT cI cJ h (n, L) (kt, km, kl) (pt, pm, pl) (nu, le, ow, fo, run, wc, lc, tr, cl, tm, ms) (yl, yc, yt, co, pa, su, sc) mc) ++ [(oa, .inl (cJ, 1, .inr (.inl (vp_updL yo 0 (((pt (26 * a1 + a2))).toInt64)))))]) (Bw := (zWM cI cJ cZ h2 th (n, L) ((zcb kt pt), (zcb km pm), (zcb kl pl)) mc (run, wc, nu, lc, le, af, tr, ms, cl, tm) (co, yn, yh, pa))) hD
  refine zci (zrV (As := [.int (nI a1), .int (nI a2), .int 0]) (rest := []) ⟨hx, hb, hml, hown, hts⟩ (zV 0 hP9 hD9 hK hE hB hS rfl rfl) (c_X5_pair_0 (a := a1) (b := a2) (h1) (h2x)) (cwV 3 hts gL_law_X5_pair rfl rfl rfl hdv_X5_pair ⟨Nat.le_of_ble_eq_true rfl, Nat.le_of_ble_eq_true rfl⟩) rfl rfl hl.1 rfl (lv_room (Nat.le_of_ble_eq_true rfl)) dL_law_924 ⟨(show cc + 0 + 0 ≤ 601024 by omega), (show ss + 0 + 0 ≤ 7293034 by omega)⟩) hS (fun H locs hP hD hS => ?_)
  have hP : va_P D vwCl ((zWT cI cJ h (n, L) (kt, km, kl) (pt, pm, pl) (nu, le, ow, fo, run, wc, lc, tr, cl, tm, ms) (yl, yc, yt, co, pa, su, sc) mc) ++ ((oa, .inl (cJ, 1, .inr (.inl (vp_updL yo 0 (((pt (26 * a1 + a2))).toInt64))))) :: (zWM cI cJ cZ h2 0 (n, L) ((zcb kt pt), (zcb km pm), (zcb kl pl)) mc (run, wc, nu, lc, le, af, tr, ms, cl, tm) (co, yn, yh, pa)))) H := zswapP (A := (zWM cI cJ cZ h2 0 (n, L) ((zcb kt pt), (zcb km pm), (zcb kl pl)) mc (run, wc, nu, lc, le, af, tr, ms, cl, tm) (co, yn, yh, pa))) (Bw := (zWT cI cJ h (n, L) (kt, km, kl) (pt, pm, pl) (nu, le, ow, fo, run, wc, lc, tr, cl, tm, ms) (yl, yc, yt, co, pa, su, sc) mc) ++ [(oa, .inl (cJ, 1, .inr (.inl (vp_updL yo 0 (((pt (26 * a1 + a2))).toInt64)))))]) hP
  have hD : va_D (zAb s.heap.size) ((zWT cI cJ h (n, L) (kt, km, kl) (pt, pm, pl) (nu, le, ow, fo, run, wc, lc, tr, cl, tm, ms) (yl, yc, yt, co, pa, su, sc) mc) ++ ((oa, .inl (cJ, 1, .inr (.inl (vp_updL yo 0 (((pt (26 * a1 + a2))).toInt64))))) :: (zWM cI cJ cZ h2 0 (n, L) ((zcb kt pt), (zcb km pm), (zcb kl pl)) mc (run, wc, nu, lc, le, af, tr, ms, cl, tm) (co, yn, yh, pa)))) := zswapD (A := (zWM cI cJ cZ h2 0 (n, L) ((zcb kt pt), (zcb km pm), (zcb kl pl)) mc (run, wc, nu, lc, le, af, tr, ms, cl, tm) (co, yn, yh, pa))) (Bw := (zWT cI cJ h (n, L) (kt, km, kl) (pt, pm, pl) (nu, le, ow, fo, run, wc, lc, tr, cl, tm, ms) (yl, yc, yt, co, pa, su, sc) mc) ++ [(oa, .inl (cJ, 1, .inr (.inl (vp_updL yo 0 (((pt (26 * a1 + a2))).toInt64)))))]) hD
  refine lv_istore (lv' := [(6, .int (pt (26 * a1 + a2))), (5, .int 0), (0, .ref b), (1, .ref (h 0)), (2, .ref (h2 0)), (3, .ref oa), (4, .int (nI (4 * j)))]) hx hb dL_law_927 hl (by decide) rfl (fun ls hl => ?_)
  refine lv_aload_n hx hb dL_law_929 rfl (lv_at hl 4 rfl) ?_
  have hP9 : va_P D vwCl ((zWM cI cJ cZ h2 0 (n, L) ((zcb kt pt), (zcb km pm), (zcb kl pl)) mc (run, wc, nu, lc, le, af, tr, ms, cl, tm) (co, yn, yh, pa)) ++ ((zWT cI cJ h (n, L) (kt, km, kl) (pt, pm, pl) (nu, le, ow, fo, run, wc, lc, tr, cl, tm, ms) (yl, yc, yt, co, pa, su, sc) mc) ++ [(oa, .inl (cJ, 1, .inr (.inl (vp_updL yo 0 (((pt (26 * a1 + a2))).toInt64)))))])) H := zswapP (A := (zWT cI cJ h (n, L) (kt, km, kl) (pt, pm, pl) (nu, le, ow, fo, run, wc, lc, tr, cl, tm, ms) (yl, yc, yt, co, pa, su, sc) mc) ++ [(oa, .inl (cJ, 1, .inr (.inl (vp_updL yo 0 (((pt (26 * a1 + a2))).toInt64)))))]) (Bw := (zWM cI cJ cZ h2 0 (n, L) ((zcb kt pt), (zcb km pm), (zcb kl pl)) mc (run, wc, nu, lc, le, af, tr, ms, cl, tm) (co, yn, yh, pa))) hP
  have hD9 : va_D (zAb s.heap.size) ((zWM cI cJ cZ h2 0 (n, L) ((zcb kt pt), (zcb km pm), (zcb kl pl)) mc (run, wc, nu, lc, le, af, tr, ms, cl, tm) (co, yn, yh, pa)) ++ ((zWT cI cJ h (n, L) (kt, km, kl) (pt, pm, pl) (nu, le, ow, fo, run, wc, lc, tr, cl, tm, ms) (yl, yc, yt, co, pa, su, sc) mc) ++ [(oa, .inl (cJ, 1, .inr (.inl (vp_updL yo 0 (((pt (26 * a1 + a2))).toInt64)))))])) := zswapD (A := (zWT cI cJ h (n, L) (kt, km, kl) (pt, pm, pl) (nu, le, ow, fo, run, wc, lc, tr, cl, tm, ms) (yl, yc, yt, co, pa, su, sc) mc) ++ [(oa, .inl (cJ, 1, .inr (.inl (vp_updL yo 0 (((pt (26 * a1 + a2))).toInt64)))))]) (Bw := (zWM cI cJ cZ h2 0 (n, L) ((zcb kt pt), (zcb km pm), (zcb kl pl)) mc (run, wc, nu, lc, le, af, tr, ms, cl, tm) (co, yn, yh, pa))) hD
  refine zci (zrV (As := []) (rest := []) ⟨hx, hb, hml, hown, hts⟩ (zV 0 hP9 hD9 hK hE hB hS rfl rfl) (c_X5_thrown  ) (cwV 0 hts gL_law_X5_thrown rfl rfl rfl hdv_X5_thrown ⟨Nat.le_of_ble_eq_true rfl, Nat.le_of_ble_eq_true rfl⟩) rfl rfl hl.1 rfl (lv_room (Nat.le_of_ble_eq_true rfl)) dL_law_930 ⟨(show cc + 0 + 0 + 0 ≤ 601024 by omega), (show ss + 0 + 0 + 0 ≤ 7293034 by omega)⟩) hS (fun H locs hP hD hS => ?_)
  have hP : va_P D vwCl ((zWT cI cJ h (n, L) (kt, km, kl) (pt, pm, pl) (nu, le, ow, fo, run, wc, lc, tr, cl, tm, ms) (yl, yc, yt, co, pa, su, sc) mc) ++ ((oa, .inl (cJ, 1, .inr (.inl (vp_updL yo 0 (((pt (26 * a1 + a2))).toInt64))))) :: (zWM cI cJ cZ h2 0 (n, L) ((zcb kt pt), (zcb km pm), (zcb kl pl)) mc (run, wc, nu, lc, le, af, tr, ms, cl, tm) (co, yn, yh, pa)))) H := zswapP (A := (zWM cI cJ cZ h2 0 (n, L) ((zcb kt pt), (zcb km pm), (zcb kl pl)) mc (run, wc, nu, lc, le, af, tr, ms, cl, tm) (co, yn, yh, pa))) (Bw := (zWT cI cJ h (n, L) (kt, km, kl) (pt, pm, pl) (nu, le, ow, fo, run, wc, lc, tr, cl, tm, ms) (yl, yc, yt, co, pa, su, sc) mc) ++ [(oa, .inl (cJ, 1, .inr (.inl (vp_updL yo 0 (((pt (26 * a1 + a2))).toInt64)))))]) hP
  have hD : va_D (zAb s.heap.size) ((zWT cI cJ h (n, L) (kt, km, kl) (pt, pm, pl) (nu, le, ow, fo, run, wc, lc, tr, cl, tm, ms) (yl, yc, yt, co, pa, su, sc) mc) ++ ((oa, .inl (cJ, 1, .inr (.inl (vp_updL yo 0 (((pt (26 * a1 + a2))).toInt64))))) :: (zWM cI cJ cZ h2 0 (n, L) ((zcb kt pt), (zcb km pm), (zcb kl pl)) mc (run, wc, nu, lc, le, af, tr, ms, cl, tm) (co, yn, yh, pa)))) := zswapD (A := (zWM cI cJ cZ h2 0 (n, L) ((zcb kt pt), (zcb km pm), (zcb kl pl)) mc (run, wc, nu, lc, le, af, tr, ms, cl, tm) (co, yn, yh, pa))) (Bw := (zWT cI cJ h (n, L) (kt, km, kl) (pt, pm, pl) (nu, le, ow, fo, run, wc, lc, tr, cl, tm, ms) (yl, yc, yt, co, pa, su, sc) mc) ++ [(oa, .inl (cJ, 1, .inr (.inl (vp_updL yo 0 (((pt (26 * a1 + a2))).toInt64)))))]) hD
  refine lv_iload hx hb dL_law_933 (lv_at hl 1 rfl) ?_
  refine lv_icmp_eq (tgt := 940) hx hb dL_law_935 (by decide) (fun c_13 => ?_) (fun c_13 => ?_)
  · skip
    refine lv_iload hx hb dL_law_940 (lv_at hl 1 rfl) ?_
    refine lv_if_ne (tgt := 957) hx hb dL_law_942 (by decide) (fun c_14 => ?_) (fun c_14 => ?_)
    · skip
      exfalso; first | omega | (revert c_14; decide) | (exact absurd rfl c_14) | simp_all
    · skip
      refine lv_aload_n hx hb dL_law_945 rfl (lv_at hl 5 rfl) ?_
      refine lv_iconst (v := 0) hx hb dL_law_946 (by decide) ?_
      refine va_lald hx hb hK hP 21 1 rfl rfl (vp_in_nI (n := 0) (N := 1) (by omega) (by omega)) dL_law_947 ?_
      refine lv_topl (fun v_15 ev_15 => ?_)
      obtain rfl : (((pt (26 * a1 + a2))).toInt64) = v_15 := (ev_15.trans (pk_uLs (f := yo) (k := 0) (x := (((pt (26 * a1 + a2))).toInt64)))).symm
      refine lv_iload hx hb dL_law_948 (lv_at hl 0 rfl) ?_
      refine lv_i2l (v := ((pt (26 * a1 + a2))).toInt64) hx hb dL_law_950 rfl ?_
      refine W.lcmp hx hb dL_law_951 ?_
      refine lv_if_eq (tgt := 957) hx hb dL_law_952 (by decide) (fun c_16 => ?_) (fun c_16 => ?_)
      · skip
        have c_16 : (((pt (26 * a1 + a2))).toInt64) = (((pt (26 * a1 + a2))).toInt64) := (lg_cmp_eq _ _).mp c_16
        refine lv_goto (tgt := 1191) hx hb dL_law_957 (by decide) ?_
        refine W.widen (k := cc + 2) (n := ss + 1542) (show cc + 0 + 0 + 0 ≤ cc + 2 by omega) (show ss + 0 + 0 + 0 ≤ ss + 1542 by omega) ?_
        exact kont h h2 oa (vp_updL yo 0 (((pt (26 * a1 + a2))).toInt64)) 0 n L kt km kl pt pm pl nu le ow fo run wc lc tr cl tm ms yl yc yt co pa su sc mc af yn yh (hI.mono) _ _ _ hP hD hS (lv_sub hl [2, 3, 4, 5, 6] rfl)
      · skip
        have c_16 : ¬ (((pt (26 * a1 + a2))).toInt64) = (((pt (26 * a1 + a2))).toInt64) := fun hh => c_16 ((lg_cmp_eq _ _).mpr hh)
        exact absurd rfl c_16
  · skip
    exfalso; first | omega | (revert c_13; decide) | (exact absurd rfl c_13) | simp_all

set_option maxHeartbeats 1000000 in
set_option maxRecDepth 100000 in
theorem law_pair_1 {p : Program} {l : Launch} {e : Env} {s : State} {m : MethodId} {below : List Frame} {meth : Method} {c : Code} {b L9 : Nat} {xs : Nat → Int32} {D : va_G} {cI cJ cZ : ClassId} {kr kp j cc ss : Nat} {h h2 : Nat → Nat} {oa : Nat} {yo : Nat → Int64} {th : Int32} {n : Nat} {L : Nat → Int64} {kt : Nat → Int32} {km : Nat → Int32} {kl : Nat → Int32} {pt : Nat → Int32} {pm : Nat → Int32} {pl : Nat → Int32} {nu : Nat → Int32} {le : Nat → Int32} {ow : Nat → Int32} {fo : Nat → Int32} {run : Bool} {wc : Nat} {lc : Nat} {tr : Nat} {cl : Nat} {tm : Nat} {ms : Nat} {yl : Nat → Int32} {yc : Nat → Int32} {yt : Nat → Int32} {co : Nat} {pa : Int32} {su : Nat} {sc : Nat} {mc : Nat → Int32} {af : Nat → Int32} {yn : Nat} {yh : Nat → Int32} {a1 : Nat} {a2 : Nat} (C : zLw p l s m meth c b L9 xs D cI cJ cZ kr kp) (hj : 4 * j + 4 ≤ L9) (hcc : cc + 2 ≤ 601024) (hss : ss + 1542 ≤ 7293034) (kont : zKt p l e s m below meth c b D cI cJ cZ j cc ss) (hI : zInv j n L pt le ow af run wc lc tr cl tm ms yl yc yt co yn su sc yh) (ea1 : xs (4 * j + 1) = nI a1) (ea2 : xs (4 * j + 2) = nI a2) (ea3 : xs (4 * j + 3) = 1) (h1 : a1 < 26) (h2x : a2 < 26) {H : Heap} {locs : List Loc} {ls : Array Slot} (hP : va_P D vwCl ((zWT cI cJ h (n, L) (kt, km, kl) (pt, pm, pl) (nu, le, ow, fo, run, wc, lc, tr, cl, tm, ms) (yl, yc, yt, co, pa, su, sc) mc) ++ ((oa, .inl (cJ, 1, .inr (.inl yo))) :: (zWM cI cJ cZ h2 th (n, L) ((zcb kt pt), (zcb km pm), (zcb kl pl)) mc (run, wc, nu, lc, le, af, tr, ms, cl, tm) (co, yn, yh, pa)))) H) (hD : va_D (zAb s.heap.size) ((zWT cI cJ h (n, L) (kt, km, kl) (pt, pm, pl) (nu, le, ow, fo, run, wc, lc, tr, cl, tm, ms) (yl, yc, yt, co, pa, su, sc) mc) ++ ((oa, .inl (cJ, 1, .inr (.inl yo))) :: (zWM cI cJ cZ h2 th (n, L) ((zcb kt pt), (zcb km pm), (zcb kl pl)) mc (run, wc, nu, lc, le, af, tr, ms, cl, tm) (co, yn, yh, pa))))) (hS : va_S (zAb s.heap.size) s.heap H locs) (hl : lv_has ls 9 [(0, .ref b), (1, .ref (h 0)), (2, .ref (h2 0)), (3, .ref oa), (4, .int (nI (4 * j)))]) : W p l e room_1 s m #[Value.ref b] below meth c H locs cc ss (lw_Z below #[Value.ref b] s) (F0 m 880 ls []) := by
  obtain ⟨C0, hls, hK, hE, hL9⟩ := C
  obtain ⟨hx, hb, hr, hml, hown, hts0, hX, hbl, hlocks, hgv⟩ := C0
  have hts : ∀ w ∈ wsL_law, w.before #[Value.ref b] s = true := fun w h => hts0 w (wsL_law_in w h)
  have hbA : ¬ zAb s.heap.size b := Nat.not_le.mpr hbl
  have hB : s.heap.size ≤ s.heap.size := Nat.le_refl _
  have hn40 := hI.1.1
  have hzk := hI.1.2
  obtain ⟨hwc6, hlc48, htrl, hclt, hms1⟩ := hI.2.1
  have hrt := hI.2.2.1
  have hle := hI.2.2.2.1
  have hMk := hI.2.2.2.2.1
  have hct := hI.2.2.2.2.2.1
  have hHi := hI.2.2.2.2.2.2.1
  have hsu := hI.2.2.2.2.2.2.2.2.1
  have hj5 : j ≤ 511 := by omega
  have hco : co < 256 := by have := hct.1; omega
  have hco6 : co ≤ 256 := Nat.le_of_lt hco
  have hsl : su < 2147483648 := by have := hsu.2.2; omega
  have hpt := hI.hpt (Nat.le_succ_of_le hj5)
  refine lv_aload_n hx hb dL_law_880 rfl (lv_at hl 1 rfl) ?_
  refine lv_aload_n hx hb dL_law_881 rfl (lv_at hl 0 rfl) ?_
  refine lv_iload hx hb dL_law_882 (lv_at hl 4 rfl) ?_
  refine lv_iconst (v := 1) hx hb dL_law_884 (by decide) ?_
  refine lv_iadd hx hb dL_law_885 ?_
  refine lv_topi (fun v_1 ev_1 => ?_)
  obtain rfl : v_1 = (nI ((4 * j) + 1)) := ev_1.trans (nI_add (4 * j) 1)
  refine va_sld hx hb hX hbl hbA hS (vp_in_nI (n := ((4 * j) + 1)) (N := L9) (by omega) (by omega)) dL_law_886 ?_
  refine lv_topi (fun v_2 ev_2 => ?_)
  obtain rfl : (nI a1) = v_2 := (ev_2.trans ((congrArg xs (nI_clamp (by omega))).trans ea1)).symm
  refine lv_aload_n hx hb dL_law_887 rfl (lv_at hl 0 rfl) ?_
  refine lv_iload hx hb dL_law_888 (lv_at hl 4 rfl) ?_
  refine lv_iconst (v := 2) hx hb dL_law_890 (by decide) ?_
  refine lv_iadd hx hb dL_law_891 ?_
  refine lv_topi (fun v_3 ev_3 => ?_)
  obtain rfl : v_3 = (nI ((4 * j) + 2)) := ev_3.trans (nI_add (4 * j) 2)
  refine va_sld hx hb hX hbl hbA hS (vp_in_nI (n := ((4 * j) + 2)) (N := L9) (by omega) (by omega)) dL_law_892 ?_
  refine lv_topi (fun v_4 ev_4 => ?_)
  obtain rfl : (nI a2) = v_4 := (ev_4.trans ((congrArg xs (nI_clamp (by omega))).trans ea2)).symm
  refine lv_aload_n hx hb dL_law_893 rfl (lv_at hl 0 rfl) ?_
  refine lv_iload hx hb dL_law_894 (lv_at hl 4 rfl) ?_
  refine lv_iconst (v := 3) hx hb dL_law_896 (by decide) ?_
  refine lv_iadd hx hb dL_law_897 ?_
  refine lv_topi (fun v_5 ev_5 => ?_)
  obtain rfl : v_5 = (nI ((4 * j) + 3)) := ev_5.trans (nI_add (4 * j) 3)
  refine va_sld hx hb hX hbl hbA hS (vp_in_nI (n := ((4 * j) + 3)) (N := L9) (by omega) (by omega)) dL_law_898 ?_
  refine lv_topi (fun v_6 ev_6 => ?_)
  obtain rfl : 1 = v_6 := (ev_6.trans ((congrArg xs (nI_clamp (by omega))).trans ea3)).symm
  refine lv_aload_n hx hb dL_law_899 rfl (lv_at hl 3 rfl) ?_
  refine zci (vx_runSW (As := [.ref (h 0), .int (nI a1), .int (nI a2), .int 1, .ref oa]) (rest := []) ⟨hx, hb, hml, hown, hts⟩ (c_L_pair_1 (a := a1) (b := a2) (h1) (h2x)) (vx_cwSW 5 hts gL_law_L_pair rfl rfl rfl hds_L_pair ⟨Nat.le_of_ble_eq_true rfl, Nat.le_of_ble_eq_true rfl⟩) (zS hP hD hK hE hB hS) rfl rfl hl.1 rfl (lv_room (Nat.le_of_ble_eq_true rfl)) dL_law_900 ⟨(show cc + 0 ≤ 601024 by omega), (show ss + 0 ≤ 7293034 by omega)⟩) hS (fun H locs hP hD hS => ?_)
  have hP : va_P D vwCl ((zWT cI cJ h (n, L) (kt, km, kl) (pt, pm, pl) (nu, le, ow, fo, run, wc, lc, tr, cl, tm, ms) (yl, yc, yt, co, pa, su, sc) mc) ++ ((oa, .inl (cJ, 1, .inr (.inl (vp_updL yo 0 (((pm (26 * a1 + a2))).toInt64))))) :: (zWM cI cJ cZ h2 th (n, L) ((zcb kt pt), (zcb km pm), (zcb kl pl)) mc (run, wc, nu, lc, le, af, tr, ms, cl, tm) (co, yn, yh, pa)))) H := hP
  have hD : va_D (zAb s.heap.size) ((zWT cI cJ h (n, L) (kt, km, kl) (pt, pm, pl) (nu, le, ow, fo, run, wc, lc, tr, cl, tm, ms) (yl, yc, yt, co, pa, su, sc) mc) ++ ((oa, .inl (cJ, 1, .inr (.inl (vp_updL yo 0 (((pm (26 * a1 + a2))).toInt64))))) :: (zWM cI cJ cZ h2 th (n, L) ((zcb kt pt), (zcb km pm), (zcb kl pl)) mc (run, wc, nu, lc, le, af, tr, ms, cl, tm) (co, yn, yh, pa)))) := hD
  refine lv_istore (lv' := [(5, .int 0), (0, .ref b), (1, .ref (h 0)), (2, .ref (h2 0)), (3, .ref oa), (4, .int (nI (4 * j)))]) hx hb dL_law_903 hl (by decide) rfl (fun ls hl => ?_)
  refine lv_aload_n hx hb dL_law_905 rfl (lv_at hl 3 rfl) ?_
  refine lv_aload_n hx hb dL_law_906 rfl (lv_at hl 1 rfl) ?_
  refine lv_iload hx hb dL_law_907 (lv_at hl 5 rfl) ?_
  refine lv_iconst (v := 1) hx hb dL_law_909 (by decide) ?_
  refine lv_iadd hx hb dL_law_910 ?_
  refine lv_topi (fun v_7 ev_7 => ?_)
  obtain rfl : v_7 = (nI ((4 * j) + 1)) := ev_7.trans (nI_add (4 * j) 1)
  refine va_sld hx hb hX hbl hbA hS (vp_in_nI (n := ((4 * j) + 1)) (N := L9) (by omega) (by omega)) dL_law_911 ?_
  refine lv_topi (fun v_8 ev_8 => ?_)
  obtain rfl : (nI a1) = v_8 := (ev_8.trans ((congrArg xs (nI_clamp (by omega))).trans ea1)).symm
  refine lv_aload_n hx hb dL_law_912 rfl (lv_at hl 1 rfl) ?_
  refine lv_iload hx hb dL_law_913 (lv_at hl 5 rfl) ?_
  refine lv_iconst (v := 2) hx hb dL_law_915 (by decide) ?_
  refine lv_iadd hx hb dL_law_916 ?_
  refine lv_topi (fun v_9 ev_9 => ?_)
  obtain rfl : v_9 = (nI ((4 * j) + 2)) := ev_9.trans (nI_add (4 * j) 2)
  refine va_sld hx hb hX hbl hbA hS (vp_in_nI (n := ((4 * j) + 2)) (N := L9) (by omega) (by omega)) dL_law_917 ?_
  refine lv_topi (fun v_10 ev_10 => ?_)
  obtain rfl : (nI a2) = v_10 := (ev_10.trans ((congrArg xs (nI_clamp (by omega))).trans ea2)).symm
  refine lv_aload_n hx hb dL_law_918 rfl (lv_at hl 1 rfl) ?_
  refine lv_iload hx hb dL_law_919 (lv_at hl 5 rfl) ?_
  refine lv_iconst (v := 3) hx hb dL_law_921 (by decide) ?_
  refine lv_iadd hx hb dL_law_922 ?_
  refine lv_topi (fun v_11 ev_11 => ?_)
  obtain rfl : v_11 = (nI ((4 * j) + 3)) := ev_11.trans (nI_add (4 * j) 3)
  refine va_sld hx hb hX hbl hbA hS (vp_in_nI (n := ((4 * j) + 3)) (N := L9) (by omega) (by omega)) dL_law_923 ?_
  refine lv_topi (fun v_12 ev_12 => ?_)
  obtain rfl : 1 = v_12 := (ev_12.trans ((congrArg xs (nI_clamp (by omega))).trans ea3)).symm
  have hP9 : va_P D vwCl ((zWM cI cJ cZ h2 th (n, L) ((zcb kt pt), (zcb km pm), (zcb kl pl)) mc (run, wc, nu, lc, le, af, tr, ms, cl, tm) (co, yn, yh, pa)) ++ ((zWT cI cJ h (n, L) (kt, km, kl) (pt, pm, pl) (nu, le, ow, fo, run, wc, lc, tr, cl, tm, ms) (yl, yc, yt, co, pa, su, sc) mc) ++ [(oa, .inl (cJ, 1, .inr (.inl (vp_updL yo 0 (((pm (26 * a1 + a2))).toInt64)))))])) H := zswapP (A := (zWT cI cJ h (n, L) (kt, km, kl) (pt, pm, pl) (nu, le, ow, fo, run, wc, lc, tr, cl, tm, ms) (yl, yc, yt, co, pa, su, sc) mc) ++ [(oa, .inl (cJ, 1, .inr (.inl (vp_updL yo 0 (((pm (26 * a1 + a2))).toInt64)))))]) (Bw := (zWM cI cJ cZ h2 th (n, L) ((zcb kt pt), (zcb km pm), (zcb kl pl)) mc (run, wc, nu, lc, le, af, tr, ms, cl, tm) (co, yn, yh, pa))) hP
  have hD9 : va_D (zAb s.heap.size) ((zWM cI cJ cZ h2 th (n, L) ((zcb kt pt), (zcb km pm), (zcb kl pl)) mc (run, wc, nu, lc, le, af, tr, ms, cl, tm) (co, yn, yh, pa)) ++ ((zWT cI cJ h (n, L) (kt, km, kl) (pt, pm, pl) (nu, le, ow, fo, run, wc, lc, tr, cl, tm, ms) (yl, yc, yt, co, pa, su, sc) mc) ++ [(oa, .inl (cJ, 1, .inr (.inl (vp_updL yo 0 (((pm (26 * a1 + a2))).toInt64)))))])) := zswapD (A := (zWT cI cJ h (n, L) (kt, km, kl) (pt, pm, pl) (nu, le, ow, fo, run, wc, lc, tr, cl, tm, ms) (yl, yc, yt, co, pa, su, sc) mc) ++ [(oa, .inl (cJ, 1, .inr (.inl (vp_updL yo 0 (((pm (26 * a1 + a2))).toInt64)))))]) (Bw := (zWM cI cJ cZ h2 th (n, L) ((zcb kt pt), (zcb km pm), (zcb kl pl)) mc (run, wc, nu, lc, le, af, tr, ms, cl, tm) (co, yn, yh, pa))) hD
  refine zci (zrV (As := [.int (nI a1), .int (nI a2), .int 1]) (rest := []) ⟨hx, hb, hml, hown, hts⟩ (zV 0 hP9 hD9 hK hE hB hS rfl rfl) (c_X5_pair_1 (a := a1) (b := a2) (h1) (h2x)) (cwV 3 hts gL_law_X5_pair rfl rfl rfl hdv_X5_pair ⟨Nat.le_of_ble_eq_true rfl, Nat.le_of_ble_eq_true rfl⟩) rfl rfl hl.1 rfl (lv_room (Nat.le_of_ble_eq_true rfl)) dL_law_924 ⟨(show cc + 0 + 0 ≤ 601024 by omega), (show ss + 0 + 0 ≤ 7293034 by omega)⟩) hS (fun H locs hP hD hS => ?_)
  have hP : va_P D vwCl ((zWT cI cJ h (n, L) (kt, km, kl) (pt, pm, pl) (nu, le, ow, fo, run, wc, lc, tr, cl, tm, ms) (yl, yc, yt, co, pa, su, sc) mc) ++ ((oa, .inl (cJ, 1, .inr (.inl (vp_updL yo 0 (((pm (26 * a1 + a2))).toInt64))))) :: (zWM cI cJ cZ h2 0 (n, L) ((zcb kt pt), (zcb km pm), (zcb kl pl)) mc (run, wc, nu, lc, le, af, tr, ms, cl, tm) (co, yn, yh, pa)))) H := zswapP (A := (zWM cI cJ cZ h2 0 (n, L) ((zcb kt pt), (zcb km pm), (zcb kl pl)) mc (run, wc, nu, lc, le, af, tr, ms, cl, tm) (co, yn, yh, pa))) (Bw := (zWT cI cJ h (n, L) (kt, km, kl) (pt, pm, pl) (nu, le, ow, fo, run, wc, lc, tr, cl, tm, ms) (yl, yc, yt, co, pa, su, sc) mc) ++ [(oa, .inl (cJ, 1, .inr (.inl (vp_updL yo 0 (((pm (26 * a1 + a2))).toInt64)))))]) hP
  have hD : va_D (zAb s.heap.size) ((zWT cI cJ h (n, L) (kt, km, kl) (pt, pm, pl) (nu, le, ow, fo, run, wc, lc, tr, cl, tm, ms) (yl, yc, yt, co, pa, su, sc) mc) ++ ((oa, .inl (cJ, 1, .inr (.inl (vp_updL yo 0 (((pm (26 * a1 + a2))).toInt64))))) :: (zWM cI cJ cZ h2 0 (n, L) ((zcb kt pt), (zcb km pm), (zcb kl pl)) mc (run, wc, nu, lc, le, af, tr, ms, cl, tm) (co, yn, yh, pa)))) := zswapD (A := (zWM cI cJ cZ h2 0 (n, L) ((zcb kt pt), (zcb km pm), (zcb kl pl)) mc (run, wc, nu, lc, le, af, tr, ms, cl, tm) (co, yn, yh, pa))) (Bw := (zWT cI cJ h (n, L) (kt, km, kl) (pt, pm, pl) (nu, le, ow, fo, run, wc, lc, tr, cl, tm, ms) (yl, yc, yt, co, pa, su, sc) mc) ++ [(oa, .inl (cJ, 1, .inr (.inl (vp_updL yo 0 (((pm (26 * a1 + a2))).toInt64)))))]) hD
  refine lv_istore (lv' := [(6, .int (pm (26 * a1 + a2))), (5, .int 0), (0, .ref b), (1, .ref (h 0)), (2, .ref (h2 0)), (3, .ref oa), (4, .int (nI (4 * j)))]) hx hb dL_law_927 hl (by decide) rfl (fun ls hl => ?_)
  refine lv_aload_n hx hb dL_law_929 rfl (lv_at hl 4 rfl) ?_
  have hP9 : va_P D vwCl ((zWM cI cJ cZ h2 0 (n, L) ((zcb kt pt), (zcb km pm), (zcb kl pl)) mc (run, wc, nu, lc, le, af, tr, ms, cl, tm) (co, yn, yh, pa)) ++ ((zWT cI cJ h (n, L) (kt, km, kl) (pt, pm, pl) (nu, le, ow, fo, run, wc, lc, tr, cl, tm, ms) (yl, yc, yt, co, pa, su, sc) mc) ++ [(oa, .inl (cJ, 1, .inr (.inl (vp_updL yo 0 (((pm (26 * a1 + a2))).toInt64)))))])) H := zswapP (A := (zWT cI cJ h (n, L) (kt, km, kl) (pt, pm, pl) (nu, le, ow, fo, run, wc, lc, tr, cl, tm, ms) (yl, yc, yt, co, pa, su, sc) mc) ++ [(oa, .inl (cJ, 1, .inr (.inl (vp_updL yo 0 (((pm (26 * a1 + a2))).toInt64)))))]) (Bw := (zWM cI cJ cZ h2 0 (n, L) ((zcb kt pt), (zcb km pm), (zcb kl pl)) mc (run, wc, nu, lc, le, af, tr, ms, cl, tm) (co, yn, yh, pa))) hP
  have hD9 : va_D (zAb s.heap.size) ((zWM cI cJ cZ h2 0 (n, L) ((zcb kt pt), (zcb km pm), (zcb kl pl)) mc (run, wc, nu, lc, le, af, tr, ms, cl, tm) (co, yn, yh, pa)) ++ ((zWT cI cJ h (n, L) (kt, km, kl) (pt, pm, pl) (nu, le, ow, fo, run, wc, lc, tr, cl, tm, ms) (yl, yc, yt, co, pa, su, sc) mc) ++ [(oa, .inl (cJ, 1, .inr (.inl (vp_updL yo 0 (((pm (26 * a1 + a2))).toInt64)))))])) := zswapD (A := (zWT cI cJ h (n, L) (kt, km, kl) (pt, pm, pl) (nu, le, ow, fo, run, wc, lc, tr, cl, tm, ms) (yl, yc, yt, co, pa, su, sc) mc) ++ [(oa, .inl (cJ, 1, .inr (.inl (vp_updL yo 0 (((pm (26 * a1 + a2))).toInt64)))))]) (Bw := (zWM cI cJ cZ h2 0 (n, L) ((zcb kt pt), (zcb km pm), (zcb kl pl)) mc (run, wc, nu, lc, le, af, tr, ms, cl, tm) (co, yn, yh, pa))) hD
  refine zci (zrV (As := []) (rest := []) ⟨hx, hb, hml, hown, hts⟩ (zV 0 hP9 hD9 hK hE hB hS rfl rfl) (c_X5_thrown  ) (cwV 0 hts gL_law_X5_thrown rfl rfl rfl hdv_X5_thrown ⟨Nat.le_of_ble_eq_true rfl, Nat.le_of_ble_eq_true rfl⟩) rfl rfl hl.1 rfl (lv_room (Nat.le_of_ble_eq_true rfl)) dL_law_930 ⟨(show cc + 0 + 0 + 0 ≤ 601024 by omega), (show ss + 0 + 0 + 0 ≤ 7293034 by omega)⟩) hS (fun H locs hP hD hS => ?_)
  have hP : va_P D vwCl ((zWT cI cJ h (n, L) (kt, km, kl) (pt, pm, pl) (nu, le, ow, fo, run, wc, lc, tr, cl, tm, ms) (yl, yc, yt, co, pa, su, sc) mc) ++ ((oa, .inl (cJ, 1, .inr (.inl (vp_updL yo 0 (((pm (26 * a1 + a2))).toInt64))))) :: (zWM cI cJ cZ h2 0 (n, L) ((zcb kt pt), (zcb km pm), (zcb kl pl)) mc (run, wc, nu, lc, le, af, tr, ms, cl, tm) (co, yn, yh, pa)))) H := zswapP (A := (zWM cI cJ cZ h2 0 (n, L) ((zcb kt pt), (zcb km pm), (zcb kl pl)) mc (run, wc, nu, lc, le, af, tr, ms, cl, tm) (co, yn, yh, pa))) (Bw := (zWT cI cJ h (n, L) (kt, km, kl) (pt, pm, pl) (nu, le, ow, fo, run, wc, lc, tr, cl, tm, ms) (yl, yc, yt, co, pa, su, sc) mc) ++ [(oa, .inl (cJ, 1, .inr (.inl (vp_updL yo 0 (((pm (26 * a1 + a2))).toInt64)))))]) hP
  have hD : va_D (zAb s.heap.size) ((zWT cI cJ h (n, L) (kt, km, kl) (pt, pm, pl) (nu, le, ow, fo, run, wc, lc, tr, cl, tm, ms) (yl, yc, yt, co, pa, su, sc) mc) ++ ((oa, .inl (cJ, 1, .inr (.inl (vp_updL yo 0 (((pm (26 * a1 + a2))).toInt64))))) :: (zWM cI cJ cZ h2 0 (n, L) ((zcb kt pt), (zcb km pm), (zcb kl pl)) mc (run, wc, nu, lc, le, af, tr, ms, cl, tm) (co, yn, yh, pa)))) := zswapD (A := (zWM cI cJ cZ h2 0 (n, L) ((zcb kt pt), (zcb km pm), (zcb kl pl)) mc (run, wc, nu, lc, le, af, tr, ms, cl, tm) (co, yn, yh, pa))) (Bw := (zWT cI cJ h (n, L) (kt, km, kl) (pt, pm, pl) (nu, le, ow, fo, run, wc, lc, tr, cl, tm, ms) (yl, yc, yt, co, pa, su, sc) mc) ++ [(oa, .inl (cJ, 1, .inr (.inl (vp_updL yo 0 (((pm (26 * a1 + a2))).toInt64)))))]) hD
  refine lv_iload hx hb dL_law_933 (lv_at hl 1 rfl) ?_
  refine lv_icmp_eq (tgt := 940) hx hb dL_law_935 (by decide) (fun c_13 => ?_) (fun c_13 => ?_)
  · skip
    refine lv_iload hx hb dL_law_940 (lv_at hl 1 rfl) ?_
    refine lv_if_ne (tgt := 957) hx hb dL_law_942 (by decide) (fun c_14 => ?_) (fun c_14 => ?_)
    · skip
      exfalso; first | omega | (revert c_14; decide) | (exact absurd rfl c_14) | simp_all
    · skip
      refine lv_aload_n hx hb dL_law_945 rfl (lv_at hl 5 rfl) ?_
      refine lv_iconst (v := 0) hx hb dL_law_946 (by decide) ?_
      refine va_lald hx hb hK hP 21 1 rfl rfl (vp_in_nI (n := 0) (N := 1) (by omega) (by omega)) dL_law_947 ?_
      refine lv_topl (fun v_15 ev_15 => ?_)
      obtain rfl : (((pm (26 * a1 + a2))).toInt64) = v_15 := (ev_15.trans (pk_uLs (f := yo) (k := 0) (x := (((pm (26 * a1 + a2))).toInt64)))).symm
      refine lv_iload hx hb dL_law_948 (lv_at hl 0 rfl) ?_
      refine lv_i2l (v := ((pm (26 * a1 + a2))).toInt64) hx hb dL_law_950 rfl ?_
      refine W.lcmp hx hb dL_law_951 ?_
      refine lv_if_eq (tgt := 957) hx hb dL_law_952 (by decide) (fun c_16 => ?_) (fun c_16 => ?_)
      · skip
        have c_16 : (((pm (26 * a1 + a2))).toInt64) = (((pm (26 * a1 + a2))).toInt64) := (lg_cmp_eq _ _).mp c_16
        refine lv_goto (tgt := 1191) hx hb dL_law_957 (by decide) ?_
        refine W.widen (k := cc + 2) (n := ss + 1542) (show cc + 0 + 0 + 0 ≤ cc + 2 by omega) (show ss + 0 + 0 + 0 ≤ ss + 1542 by omega) ?_
        exact kont h h2 oa (vp_updL yo 0 (((pm (26 * a1 + a2))).toInt64)) 0 n L kt km kl pt pm pl nu le ow fo run wc lc tr cl tm ms yl yc yt co pa su sc mc af yn yh (hI.mono) _ _ _ hP hD hS (lv_sub hl [2, 3, 4, 5, 6] rfl)
      · skip
        have c_16 : ¬ (((pm (26 * a1 + a2))).toInt64) = (((pm (26 * a1 + a2))).toInt64) := fun hh => c_16 ((lg_cmp_eq _ _).mpr hh)
        exact absurd rfl c_16
  · skip
    exfalso; first | omega | (revert c_13; decide) | (exact absurd rfl c_13) | simp_all

set_option maxHeartbeats 1000000 in
set_option maxRecDepth 100000 in
theorem law_pair_2 {p : Program} {l : Launch} {e : Env} {s : State} {m : MethodId} {below : List Frame} {meth : Method} {c : Code} {b L9 : Nat} {xs : Nat → Int32} {D : va_G} {cI cJ cZ : ClassId} {kr kp j cc ss : Nat} {h h2 : Nat → Nat} {oa : Nat} {yo : Nat → Int64} {th : Int32} {n : Nat} {L : Nat → Int64} {kt : Nat → Int32} {km : Nat → Int32} {kl : Nat → Int32} {pt : Nat → Int32} {pm : Nat → Int32} {pl : Nat → Int32} {nu : Nat → Int32} {le : Nat → Int32} {ow : Nat → Int32} {fo : Nat → Int32} {run : Bool} {wc : Nat} {lc : Nat} {tr : Nat} {cl : Nat} {tm : Nat} {ms : Nat} {yl : Nat → Int32} {yc : Nat → Int32} {yt : Nat → Int32} {co : Nat} {pa : Int32} {su : Nat} {sc : Nat} {mc : Nat → Int32} {af : Nat → Int32} {yn : Nat} {yh : Nat → Int32} {a1 : Nat} {a2 : Nat} (C : zLw p l s m meth c b L9 xs D cI cJ cZ kr kp) (hj : 4 * j + 4 ≤ L9) (hcc : cc + 2 ≤ 601024) (hss : ss + 1542 ≤ 7293034) (kont : zKt p l e s m below meth c b D cI cJ cZ j cc ss) (hI : zInv j n L pt le ow af run wc lc tr cl tm ms yl yc yt co yn su sc yh) (ea1 : xs (4 * j + 1) = nI a1) (ea2 : xs (4 * j + 2) = nI a2) (ea3 : xs (4 * j + 3) = 2) (h1 : a1 < 26) (h2x : a2 < 26) {H : Heap} {locs : List Loc} {ls : Array Slot} (hP : va_P D vwCl ((zWT cI cJ h (n, L) (kt, km, kl) (pt, pm, pl) (nu, le, ow, fo, run, wc, lc, tr, cl, tm, ms) (yl, yc, yt, co, pa, su, sc) mc) ++ ((oa, .inl (cJ, 1, .inr (.inl yo))) :: (zWM cI cJ cZ h2 th (n, L) ((zcb kt pt), (zcb km pm), (zcb kl pl)) mc (run, wc, nu, lc, le, af, tr, ms, cl, tm) (co, yn, yh, pa)))) H) (hD : va_D (zAb s.heap.size) ((zWT cI cJ h (n, L) (kt, km, kl) (pt, pm, pl) (nu, le, ow, fo, run, wc, lc, tr, cl, tm, ms) (yl, yc, yt, co, pa, su, sc) mc) ++ ((oa, .inl (cJ, 1, .inr (.inl yo))) :: (zWM cI cJ cZ h2 th (n, L) ((zcb kt pt), (zcb km pm), (zcb kl pl)) mc (run, wc, nu, lc, le, af, tr, ms, cl, tm) (co, yn, yh, pa))))) (hS : va_S (zAb s.heap.size) s.heap H locs) (hl : lv_has ls 9 [(0, .ref b), (1, .ref (h 0)), (2, .ref (h2 0)), (3, .ref oa), (4, .int (nI (4 * j)))]) : W p l e room_1 s m #[Value.ref b] below meth c H locs cc ss (lw_Z below #[Value.ref b] s) (F0 m 880 ls []) := by
  obtain ⟨C0, hls, hK, hE, hL9⟩ := C
  obtain ⟨hx, hb, hr, hml, hown, hts0, hX, hbl, hlocks, hgv⟩ := C0
  have hts : ∀ w ∈ wsL_law, w.before #[Value.ref b] s = true := fun w h => hts0 w (wsL_law_in w h)
  have hbA : ¬ zAb s.heap.size b := Nat.not_le.mpr hbl
  have hB : s.heap.size ≤ s.heap.size := Nat.le_refl _
  have hn40 := hI.1.1
  have hzk := hI.1.2
  obtain ⟨hwc6, hlc48, htrl, hclt, hms1⟩ := hI.2.1
  have hrt := hI.2.2.1
  have hle := hI.2.2.2.1
  have hMk := hI.2.2.2.2.1
  have hct := hI.2.2.2.2.2.1
  have hHi := hI.2.2.2.2.2.2.1
  have hsu := hI.2.2.2.2.2.2.2.2.1
  have hj5 : j ≤ 511 := by omega
  have hco : co < 256 := by have := hct.1; omega
  have hco6 : co ≤ 256 := Nat.le_of_lt hco
  have hsl : su < 2147483648 := by have := hsu.2.2; omega
  have hpt := hI.hpt (Nat.le_succ_of_le hj5)
  refine lv_aload_n hx hb dL_law_880 rfl (lv_at hl 1 rfl) ?_
  refine lv_aload_n hx hb dL_law_881 rfl (lv_at hl 0 rfl) ?_
  refine lv_iload hx hb dL_law_882 (lv_at hl 4 rfl) ?_
  refine lv_iconst (v := 1) hx hb dL_law_884 (by decide) ?_
  refine lv_iadd hx hb dL_law_885 ?_
  refine lv_topi (fun v_1 ev_1 => ?_)
  obtain rfl : v_1 = (nI ((4 * j) + 1)) := ev_1.trans (nI_add (4 * j) 1)
  refine va_sld hx hb hX hbl hbA hS (vp_in_nI (n := ((4 * j) + 1)) (N := L9) (by omega) (by omega)) dL_law_886 ?_
  refine lv_topi (fun v_2 ev_2 => ?_)
  obtain rfl : (nI a1) = v_2 := (ev_2.trans ((congrArg xs (nI_clamp (by omega))).trans ea1)).symm
  refine lv_aload_n hx hb dL_law_887 rfl (lv_at hl 0 rfl) ?_
  refine lv_iload hx hb dL_law_888 (lv_at hl 4 rfl) ?_
  refine lv_iconst (v := 2) hx hb dL_law_890 (by decide) ?_
  refine lv_iadd hx hb dL_law_891 ?_
  refine lv_topi (fun v_3 ev_3 => ?_)
  obtain rfl : v_3 = (nI ((4 * j) + 2)) := ev_3.trans (nI_add (4 * j) 2)
  refine va_sld hx hb hX hbl hbA hS (vp_in_nI (n := ((4 * j) + 2)) (N := L9) (by omega) (by omega)) dL_law_892 ?_
  refine lv_topi (fun v_4 ev_4 => ?_)
  obtain rfl : (nI a2) = v_4 := (ev_4.trans ((congrArg xs (nI_clamp (by omega))).trans ea2)).symm
  refine lv_aload_n hx hb dL_law_893 rfl (lv_at hl 0 rfl) ?_
  refine lv_iload hx hb dL_law_894 (lv_at hl 4 rfl) ?_
  refine lv_iconst (v := 3) hx hb dL_law_896 (by decide) ?_
  refine lv_iadd hx hb dL_law_897 ?_
  refine lv_topi (fun v_5 ev_5 => ?_)
  obtain rfl : v_5 = (nI ((4 * j) + 3)) := ev_5.trans (nI_add (4 * j) 3)
  refine va_sld hx hb hX hbl hbA hS (vp_in_nI (n := ((4 * j) + 3)) (N := L9) (by omega) (by omega)) dL_law_898 ?_
  refine lv_topi (fun v_6 ev_6 => ?_)
  obtain rfl : 2 = v_6 := (ev_6.trans ((congrArg xs (nI_clamp (by omega))).trans ea3)).symm
  refine lv_aload_n hx hb dL_law_899 rfl (lv_at hl 3 rfl) ?_
  refine zci (vx_runSW (As := [.ref (h 0), .int (nI a1), .int (nI a2), .int 2, .ref oa]) (rest := []) ⟨hx, hb, hml, hown, hts⟩ (c_L_pair_2 (a := a1) (b := a2) (h1) (h2x)) (vx_cwSW 5 hts gL_law_L_pair rfl rfl rfl hds_L_pair ⟨Nat.le_of_ble_eq_true rfl, Nat.le_of_ble_eq_true rfl⟩) (zS hP hD hK hE hB hS) rfl rfl hl.1 rfl (lv_room (Nat.le_of_ble_eq_true rfl)) dL_law_900 ⟨(show cc + 0 ≤ 601024 by omega), (show ss + 0 ≤ 7293034 by omega)⟩) hS (fun H locs hP hD hS => ?_)
  have hP : va_P D vwCl ((zWT cI cJ h (n, L) (kt, km, kl) (pt, pm, pl) (nu, le, ow, fo, run, wc, lc, tr, cl, tm, ms) (yl, yc, yt, co, pa, su, sc) mc) ++ ((oa, .inl (cJ, 1, .inr (.inl (vp_updL yo 0 (((pl (26 * a1 + a2))).toInt64))))) :: (zWM cI cJ cZ h2 th (n, L) ((zcb kt pt), (zcb km pm), (zcb kl pl)) mc (run, wc, nu, lc, le, af, tr, ms, cl, tm) (co, yn, yh, pa)))) H := hP
  have hD : va_D (zAb s.heap.size) ((zWT cI cJ h (n, L) (kt, km, kl) (pt, pm, pl) (nu, le, ow, fo, run, wc, lc, tr, cl, tm, ms) (yl, yc, yt, co, pa, su, sc) mc) ++ ((oa, .inl (cJ, 1, .inr (.inl (vp_updL yo 0 (((pl (26 * a1 + a2))).toInt64))))) :: (zWM cI cJ cZ h2 th (n, L) ((zcb kt pt), (zcb km pm), (zcb kl pl)) mc (run, wc, nu, lc, le, af, tr, ms, cl, tm) (co, yn, yh, pa)))) := hD
  refine lv_istore (lv' := [(5, .int 0), (0, .ref b), (1, .ref (h 0)), (2, .ref (h2 0)), (3, .ref oa), (4, .int (nI (4 * j)))]) hx hb dL_law_903 hl (by decide) rfl (fun ls hl => ?_)
  refine lv_aload_n hx hb dL_law_905 rfl (lv_at hl 3 rfl) ?_
  refine lv_aload_n hx hb dL_law_906 rfl (lv_at hl 1 rfl) ?_
  refine lv_iload hx hb dL_law_907 (lv_at hl 5 rfl) ?_
  refine lv_iconst (v := 1) hx hb dL_law_909 (by decide) ?_
  refine lv_iadd hx hb dL_law_910 ?_
  refine lv_topi (fun v_7 ev_7 => ?_)
  obtain rfl : v_7 = (nI ((4 * j) + 1)) := ev_7.trans (nI_add (4 * j) 1)
  refine va_sld hx hb hX hbl hbA hS (vp_in_nI (n := ((4 * j) + 1)) (N := L9) (by omega) (by omega)) dL_law_911 ?_
  refine lv_topi (fun v_8 ev_8 => ?_)
  obtain rfl : (nI a1) = v_8 := (ev_8.trans ((congrArg xs (nI_clamp (by omega))).trans ea1)).symm
  refine lv_aload_n hx hb dL_law_912 rfl (lv_at hl 1 rfl) ?_
  refine lv_iload hx hb dL_law_913 (lv_at hl 5 rfl) ?_
  refine lv_iconst (v := 2) hx hb dL_law_915 (by decide) ?_
  refine lv_iadd hx hb dL_law_916 ?_
  refine lv_topi (fun v_9 ev_9 => ?_)
  obtain rfl : v_9 = (nI ((4 * j) + 2)) := ev_9.trans (nI_add (4 * j) 2)
  refine va_sld hx hb hX hbl hbA hS (vp_in_nI (n := ((4 * j) + 2)) (N := L9) (by omega) (by omega)) dL_law_917 ?_
  refine lv_topi (fun v_10 ev_10 => ?_)
  obtain rfl : (nI a2) = v_10 := (ev_10.trans ((congrArg xs (nI_clamp (by omega))).trans ea2)).symm
  refine lv_aload_n hx hb dL_law_918 rfl (lv_at hl 1 rfl) ?_
  refine lv_iload hx hb dL_law_919 (lv_at hl 5 rfl) ?_
  refine lv_iconst (v := 3) hx hb dL_law_921 (by decide) ?_
  refine lv_iadd hx hb dL_law_922 ?_
  refine lv_topi (fun v_11 ev_11 => ?_)
  obtain rfl : v_11 = (nI ((4 * j) + 3)) := ev_11.trans (nI_add (4 * j) 3)
  refine va_sld hx hb hX hbl hbA hS (vp_in_nI (n := ((4 * j) + 3)) (N := L9) (by omega) (by omega)) dL_law_923 ?_
  refine lv_topi (fun v_12 ev_12 => ?_)
  obtain rfl : 2 = v_12 := (ev_12.trans ((congrArg xs (nI_clamp (by omega))).trans ea3)).symm
  have hP9 : va_P D vwCl ((zWM cI cJ cZ h2 th (n, L) ((zcb kt pt), (zcb km pm), (zcb kl pl)) mc (run, wc, nu, lc, le, af, tr, ms, cl, tm) (co, yn, yh, pa)) ++ ((zWT cI cJ h (n, L) (kt, km, kl) (pt, pm, pl) (nu, le, ow, fo, run, wc, lc, tr, cl, tm, ms) (yl, yc, yt, co, pa, su, sc) mc) ++ [(oa, .inl (cJ, 1, .inr (.inl (vp_updL yo 0 (((pl (26 * a1 + a2))).toInt64)))))])) H := zswapP (A := (zWT cI cJ h (n, L) (kt, km, kl) (pt, pm, pl) (nu, le, ow, fo, run, wc, lc, tr, cl, tm, ms) (yl, yc, yt, co, pa, su, sc) mc) ++ [(oa, .inl (cJ, 1, .inr (.inl (vp_updL yo 0 (((pl (26 * a1 + a2))).toInt64)))))]) (Bw := (zWM cI cJ cZ h2 th (n, L) ((zcb kt pt), (zcb km pm), (zcb kl pl)) mc (run, wc, nu, lc, le, af, tr, ms, cl, tm) (co, yn, yh, pa))) hP
  have hD9 : va_D (zAb s.heap.size) ((zWM cI cJ cZ h2 th (n, L) ((zcb kt pt), (zcb km pm), (zcb kl pl)) mc (run, wc, nu, lc, le, af, tr, ms, cl, tm) (co, yn, yh, pa)) ++ ((zWT cI cJ h (n, L) (kt, km, kl) (pt, pm, pl) (nu, le, ow, fo, run, wc, lc, tr, cl, tm, ms) (yl, yc, yt, co, pa, su, sc) mc) ++ [(oa, .inl (cJ, 1, .inr (.inl (vp_updL yo 0 (((pl (26 * a1 + a2))).toInt64)))))])) := zswapD (A := (zWT cI cJ h (n, L) (kt, km, kl) (pt, pm, pl) (nu, le, ow, fo, run, wc, lc, tr, cl, tm, ms) (yl, yc, yt, co, pa, su, sc) mc) ++ [(oa, .inl (cJ, 1, .inr (.inl (vp_updL yo 0 (((pl (26 * a1 + a2))).toInt64)))))]) (Bw := (zWM cI cJ cZ h2 th (n, L) ((zcb kt pt), (zcb km pm), (zcb kl pl)) mc (run, wc, nu, lc, le, af, tr, ms, cl, tm) (co, yn, yh, pa))) hD
  refine zci (zrV (As := [.int (nI a1), .int (nI a2), .int 2]) (rest := []) ⟨hx, hb, hml, hown, hts⟩ (zV 0 hP9 hD9 hK hE hB hS rfl rfl) (c_X5_pair_2 (a := a1) (b := a2) (h1) (h2x)) (cwV 3 hts gL_law_X5_pair rfl rfl rfl hdv_X5_pair ⟨Nat.le_of_ble_eq_true rfl, Nat.le_of_ble_eq_true rfl⟩) rfl rfl hl.1 rfl (lv_room (Nat.le_of_ble_eq_true rfl)) dL_law_924 ⟨(show cc + 0 + 0 ≤ 601024 by omega), (show ss + 0 + 0 ≤ 7293034 by omega)⟩) hS (fun H locs hP hD hS => ?_)
  have hP : va_P D vwCl ((zWT cI cJ h (n, L) (kt, km, kl) (pt, pm, pl) (nu, le, ow, fo, run, wc, lc, tr, cl, tm, ms) (yl, yc, yt, co, pa, su, sc) mc) ++ ((oa, .inl (cJ, 1, .inr (.inl (vp_updL yo 0 (((pl (26 * a1 + a2))).toInt64))))) :: (zWM cI cJ cZ h2 0 (n, L) ((zcb kt pt), (zcb km pm), (zcb kl pl)) mc (run, wc, nu, lc, le, af, tr, ms, cl, tm) (co, yn, yh, pa)))) H := zswapP (A := (zWM cI cJ cZ h2 0 (n, L) ((zcb kt pt), (zcb km pm), (zcb kl pl)) mc (run, wc, nu, lc, le, af, tr, ms, cl, tm) (co, yn, yh, pa))) (Bw := (zWT cI cJ h (n, L) (kt, km, kl) (pt, pm, pl) (nu, le, ow, fo, run, wc, lc, tr, cl, tm, ms) (yl, yc, yt, co, pa, su, sc) mc) ++ [(oa, .inl (cJ, 1, .inr (.inl (vp_updL yo 0 (((pl (26 * a1 + a2))).toInt64)))))]) hP
  have hD : va_D (zAb s.heap.size) ((zWT cI cJ h (n, L) (kt, km, kl) (pt, pm, pl) (nu, le, ow, fo, run, wc, lc, tr, cl, tm, ms) (yl, yc, yt, co, pa, su, sc) mc) ++ ((oa, .inl (cJ, 1, .inr (.inl (vp_updL yo 0 (((pl (26 * a1 + a2))).toInt64))))) :: (zWM cI cJ cZ h2 0 (n, L) ((zcb kt pt), (zcb km pm), (zcb kl pl)) mc (run, wc, nu, lc, le, af, tr, ms, cl, tm) (co, yn, yh, pa)))) := zswapD (A := (zWM cI cJ cZ h2 0 (n, L) ((zcb kt pt), (zcb km pm), (zcb kl pl)) mc (run, wc, nu, lc, le, af, tr, ms, cl, tm) (co, yn, yh, pa))) (Bw := (zWT cI cJ h (n, L) (kt, km, kl) (pt, pm, pl) (nu, le, ow, fo, run, wc, lc, tr, cl, tm, ms) (yl, yc, yt, co, pa, su, sc) mc) ++ [(oa, .inl (cJ, 1, .inr (.inl (vp_updL yo 0 (((pl (26 * a1 + a2))).toInt64)))))]) hD
  refine lv_istore (lv' := [(6, .int (pl (26 * a1 + a2))), (5, .int 0), (0, .ref b), (1, .ref (h 0)), (2, .ref (h2 0)), (3, .ref oa), (4, .int (nI (4 * j)))]) hx hb dL_law_927 hl (by decide) rfl (fun ls hl => ?_)
  refine lv_aload_n hx hb dL_law_929 rfl (lv_at hl 4 rfl) ?_
  have hP9 : va_P D vwCl ((zWM cI cJ cZ h2 0 (n, L) ((zcb kt pt), (zcb km pm), (zcb kl pl)) mc (run, wc, nu, lc, le, af, tr, ms, cl, tm) (co, yn, yh, pa)) ++ ((zWT cI cJ h (n, L) (kt, km, kl) (pt, pm, pl) (nu, le, ow, fo, run, wc, lc, tr, cl, tm, ms) (yl, yc, yt, co, pa, su, sc) mc) ++ [(oa, .inl (cJ, 1, .inr (.inl (vp_updL yo 0 (((pl (26 * a1 + a2))).toInt64)))))])) H := zswapP (A := (zWT cI cJ h (n, L) (kt, km, kl) (pt, pm, pl) (nu, le, ow, fo, run, wc, lc, tr, cl, tm, ms) (yl, yc, yt, co, pa, su, sc) mc) ++ [(oa, .inl (cJ, 1, .inr (.inl (vp_updL yo 0 (((pl (26 * a1 + a2))).toInt64)))))]) (Bw := (zWM cI cJ cZ h2 0 (n, L) ((zcb kt pt), (zcb km pm), (zcb kl pl)) mc (run, wc, nu, lc, le, af, tr, ms, cl, tm) (co, yn, yh, pa))) hP
  have hD9 : va_D (zAb s.heap.size) ((zWM cI cJ cZ h2 0 (n, L) ((zcb kt pt), (zcb km pm), (zcb kl pl)) mc (run, wc, nu, lc, le, af, tr, ms, cl, tm) (co, yn, yh, pa)) ++ ((zWT cI cJ h (n, L) (kt, km, kl) (pt, pm, pl) (nu, le, ow, fo, run, wc, lc, tr, cl, tm, ms) (yl, yc, yt, co, pa, su, sc) mc) ++ [(oa, .inl (cJ, 1, .inr (.inl (vp_updL yo 0 (((pl (26 * a1 + a2))).toInt64)))))])) := zswapD (A := (zWT cI cJ h (n, L) (kt, km, kl) (pt, pm, pl) (nu, le, ow, fo, run, wc, lc, tr, cl, tm, ms) (yl, yc, yt, co, pa, su, sc) mc) ++ [(oa, .inl (cJ, 1, .inr (.inl (vp_updL yo 0 (((pl (26 * a1 + a2))).toInt64)))))]) (Bw := (zWM cI cJ cZ h2 0 (n, L) ((zcb kt pt), (zcb km pm), (zcb kl pl)) mc (run, wc, nu, lc, le, af, tr, ms, cl, tm) (co, yn, yh, pa))) hD
  refine zci (zrV (As := []) (rest := []) ⟨hx, hb, hml, hown, hts⟩ (zV 0 hP9 hD9 hK hE hB hS rfl rfl) (c_X5_thrown  ) (cwV 0 hts gL_law_X5_thrown rfl rfl rfl hdv_X5_thrown ⟨Nat.le_of_ble_eq_true rfl, Nat.le_of_ble_eq_true rfl⟩) rfl rfl hl.1 rfl (lv_room (Nat.le_of_ble_eq_true rfl)) dL_law_930 ⟨(show cc + 0 + 0 + 0 ≤ 601024 by omega), (show ss + 0 + 0 + 0 ≤ 7293034 by omega)⟩) hS (fun H locs hP hD hS => ?_)
  have hP : va_P D vwCl ((zWT cI cJ h (n, L) (kt, km, kl) (pt, pm, pl) (nu, le, ow, fo, run, wc, lc, tr, cl, tm, ms) (yl, yc, yt, co, pa, su, sc) mc) ++ ((oa, .inl (cJ, 1, .inr (.inl (vp_updL yo 0 (((pl (26 * a1 + a2))).toInt64))))) :: (zWM cI cJ cZ h2 0 (n, L) ((zcb kt pt), (zcb km pm), (zcb kl pl)) mc (run, wc, nu, lc, le, af, tr, ms, cl, tm) (co, yn, yh, pa)))) H := zswapP (A := (zWM cI cJ cZ h2 0 (n, L) ((zcb kt pt), (zcb km pm), (zcb kl pl)) mc (run, wc, nu, lc, le, af, tr, ms, cl, tm) (co, yn, yh, pa))) (Bw := (zWT cI cJ h (n, L) (kt, km, kl) (pt, pm, pl) (nu, le, ow, fo, run, wc, lc, tr, cl, tm, ms) (yl, yc, yt, co, pa, su, sc) mc) ++ [(oa, .inl (cJ, 1, .inr (.inl (vp_updL yo 0 (((pl (26 * a1 + a2))).toInt64)))))]) hP
  have hD : va_D (zAb s.heap.size) ((zWT cI cJ h (n, L) (kt, km, kl) (pt, pm, pl) (nu, le, ow, fo, run, wc, lc, tr, cl, tm, ms) (yl, yc, yt, co, pa, su, sc) mc) ++ ((oa, .inl (cJ, 1, .inr (.inl (vp_updL yo 0 (((pl (26 * a1 + a2))).toInt64))))) :: (zWM cI cJ cZ h2 0 (n, L) ((zcb kt pt), (zcb km pm), (zcb kl pl)) mc (run, wc, nu, lc, le, af, tr, ms, cl, tm) (co, yn, yh, pa)))) := zswapD (A := (zWM cI cJ cZ h2 0 (n, L) ((zcb kt pt), (zcb km pm), (zcb kl pl)) mc (run, wc, nu, lc, le, af, tr, ms, cl, tm) (co, yn, yh, pa))) (Bw := (zWT cI cJ h (n, L) (kt, km, kl) (pt, pm, pl) (nu, le, ow, fo, run, wc, lc, tr, cl, tm, ms) (yl, yc, yt, co, pa, su, sc) mc) ++ [(oa, .inl (cJ, 1, .inr (.inl (vp_updL yo 0 (((pl (26 * a1 + a2))).toInt64)))))]) hD
  refine lv_iload hx hb dL_law_933 (lv_at hl 1 rfl) ?_
  refine lv_icmp_eq (tgt := 940) hx hb dL_law_935 (by decide) (fun c_13 => ?_) (fun c_13 => ?_)
  · skip
    refine lv_iload hx hb dL_law_940 (lv_at hl 1 rfl) ?_
    refine lv_if_ne (tgt := 957) hx hb dL_law_942 (by decide) (fun c_14 => ?_) (fun c_14 => ?_)
    · skip
      exfalso; first | omega | (revert c_14; decide) | (exact absurd rfl c_14) | simp_all
    · skip
      refine lv_aload_n hx hb dL_law_945 rfl (lv_at hl 5 rfl) ?_
      refine lv_iconst (v := 0) hx hb dL_law_946 (by decide) ?_
      refine va_lald hx hb hK hP 21 1 rfl rfl (vp_in_nI (n := 0) (N := 1) (by omega) (by omega)) dL_law_947 ?_
      refine lv_topl (fun v_15 ev_15 => ?_)
      obtain rfl : (((pl (26 * a1 + a2))).toInt64) = v_15 := (ev_15.trans (pk_uLs (f := yo) (k := 0) (x := (((pl (26 * a1 + a2))).toInt64)))).symm
      refine lv_iload hx hb dL_law_948 (lv_at hl 0 rfl) ?_
      refine lv_i2l (v := ((pl (26 * a1 + a2))).toInt64) hx hb dL_law_950 rfl ?_
      refine W.lcmp hx hb dL_law_951 ?_
      refine lv_if_eq (tgt := 957) hx hb dL_law_952 (by decide) (fun c_16 => ?_) (fun c_16 => ?_)
      · skip
        have c_16 : (((pl (26 * a1 + a2))).toInt64) = (((pl (26 * a1 + a2))).toInt64) := (lg_cmp_eq _ _).mp c_16
        refine lv_goto (tgt := 1191) hx hb dL_law_957 (by decide) ?_
        refine W.widen (k := cc + 2) (n := ss + 1542) (show cc + 0 + 0 + 0 ≤ cc + 2 by omega) (show ss + 0 + 0 + 0 ≤ ss + 1542 by omega) ?_
        exact kont h h2 oa (vp_updL yo 0 (((pl (26 * a1 + a2))).toInt64)) 0 n L kt km kl pt pm pl nu le ow fo run wc lc tr cl tm ms yl yc yt co pa su sc mc af yn yh (hI.mono) _ _ _ hP hD hS (lv_sub hl [2, 3, 4, 5, 6] rfl)
      · skip
        have c_16 : ¬ (((pl (26 * a1 + a2))).toInt64) = (((pl (26 * a1 + a2))).toInt64) := fun hh => c_16 ((lg_cmp_eq _ _).mpr hh)
        exact absurd rfl c_16
  · skip
    exfalso; first | omega | (revert c_13; decide) | (exact absurd rfl c_13) | simp_all

set_option maxHeartbeats 1000000 in
set_option maxRecDepth 100000 in
theorem law_pair_3 {p : Program} {l : Launch} {e : Env} {s : State} {m : MethodId} {below : List Frame} {meth : Method} {c : Code} {b L9 : Nat} {xs : Nat → Int32} {D : va_G} {cI cJ cZ : ClassId} {kr kp j cc ss : Nat} {h h2 : Nat → Nat} {oa : Nat} {yo : Nat → Int64} {th : Int32} {n : Nat} {L : Nat → Int64} {kt : Nat → Int32} {km : Nat → Int32} {kl : Nat → Int32} {pt : Nat → Int32} {pm : Nat → Int32} {pl : Nat → Int32} {nu : Nat → Int32} {le : Nat → Int32} {ow : Nat → Int32} {fo : Nat → Int32} {run : Bool} {wc : Nat} {lc : Nat} {tr : Nat} {cl : Nat} {tm : Nat} {ms : Nat} {yl : Nat → Int32} {yc : Nat → Int32} {yt : Nat → Int32} {co : Nat} {pa : Int32} {su : Nat} {sc : Nat} {mc : Nat → Int32} {af : Nat → Int32} {yn : Nat} {yh : Nat → Int32} {a1 : Nat} {a2 : Nat} (C : zLw p l s m meth c b L9 xs D cI cJ cZ kr kp) (hj : 4 * j + 4 ≤ L9) (hcc : cc + 2 ≤ 601024) (hss : ss + 1542 ≤ 7293034) (kont : zKt p l e s m below meth c b D cI cJ cZ j cc ss) (hI : zInv j n L pt le ow af run wc lc tr cl tm ms yl yc yt co yn su sc yh) (ea1 : xs (4 * j + 1) = nI a1) (ea2 : xs (4 * j + 2) = nI a2) (ea3 : xs (4 * j + 3) = 3) (h1 : a1 < 26) (h2x : a2 < 26) {H : Heap} {locs : List Loc} {ls : Array Slot} (hP : va_P D vwCl ((zWT cI cJ h (n, L) (kt, km, kl) (pt, pm, pl) (nu, le, ow, fo, run, wc, lc, tr, cl, tm, ms) (yl, yc, yt, co, pa, su, sc) mc) ++ ((oa, .inl (cJ, 1, .inr (.inl yo))) :: (zWM cI cJ cZ h2 th (n, L) ((zcb kt pt), (zcb km pm), (zcb kl pl)) mc (run, wc, nu, lc, le, af, tr, ms, cl, tm) (co, yn, yh, pa)))) H) (hD : va_D (zAb s.heap.size) ((zWT cI cJ h (n, L) (kt, km, kl) (pt, pm, pl) (nu, le, ow, fo, run, wc, lc, tr, cl, tm, ms) (yl, yc, yt, co, pa, su, sc) mc) ++ ((oa, .inl (cJ, 1, .inr (.inl yo))) :: (zWM cI cJ cZ h2 th (n, L) ((zcb kt pt), (zcb km pm), (zcb kl pl)) mc (run, wc, nu, lc, le, af, tr, ms, cl, tm) (co, yn, yh, pa))))) (hS : va_S (zAb s.heap.size) s.heap H locs) (hl : lv_has ls 9 [(0, .ref b), (1, .ref (h 0)), (2, .ref (h2 0)), (3, .ref oa), (4, .int (nI (4 * j)))]) : W p l e room_1 s m #[Value.ref b] below meth c H locs cc ss (lw_Z below #[Value.ref b] s) (F0 m 880 ls []) := by
  obtain ⟨C0, hls, hK, hE, hL9⟩ := C
  obtain ⟨hx, hb, hr, hml, hown, hts0, hX, hbl, hlocks, hgv⟩ := C0
  have hts : ∀ w ∈ wsL_law, w.before #[Value.ref b] s = true := fun w h => hts0 w (wsL_law_in w h)
  have hbA : ¬ zAb s.heap.size b := Nat.not_le.mpr hbl
  have hB : s.heap.size ≤ s.heap.size := Nat.le_refl _
  have hn40 := hI.1.1
  have hzk := hI.1.2
  obtain ⟨hwc6, hlc48, htrl, hclt, hms1⟩ := hI.2.1
  have hrt := hI.2.2.1
  have hle := hI.2.2.2.1
  have hMk := hI.2.2.2.2.1
  have hct := hI.2.2.2.2.2.1
  have hHi := hI.2.2.2.2.2.2.1
  have hsu := hI.2.2.2.2.2.2.2.2.1
  have hj5 : j ≤ 511 := by omega
  have hco : co < 256 := by have := hct.1; omega
  have hco6 : co ≤ 256 := Nat.le_of_lt hco
  have hsl : su < 2147483648 := by have := hsu.2.2; omega
  have hpt := hI.hpt (Nat.le_succ_of_le hj5)
  refine lv_aload_n hx hb dL_law_880 rfl (lv_at hl 1 rfl) ?_
  refine lv_aload_n hx hb dL_law_881 rfl (lv_at hl 0 rfl) ?_
  refine lv_iload hx hb dL_law_882 (lv_at hl 4 rfl) ?_
  refine lv_iconst (v := 1) hx hb dL_law_884 (by decide) ?_
  refine lv_iadd hx hb dL_law_885 ?_
  refine lv_topi (fun v_1 ev_1 => ?_)
  obtain rfl : v_1 = (nI ((4 * j) + 1)) := ev_1.trans (nI_add (4 * j) 1)
  refine va_sld hx hb hX hbl hbA hS (vp_in_nI (n := ((4 * j) + 1)) (N := L9) (by omega) (by omega)) dL_law_886 ?_
  refine lv_topi (fun v_2 ev_2 => ?_)
  obtain rfl : (nI a1) = v_2 := (ev_2.trans ((congrArg xs (nI_clamp (by omega))).trans ea1)).symm
  refine lv_aload_n hx hb dL_law_887 rfl (lv_at hl 0 rfl) ?_
  refine lv_iload hx hb dL_law_888 (lv_at hl 4 rfl) ?_
  refine lv_iconst (v := 2) hx hb dL_law_890 (by decide) ?_
  refine lv_iadd hx hb dL_law_891 ?_
  refine lv_topi (fun v_3 ev_3 => ?_)
  obtain rfl : v_3 = (nI ((4 * j) + 2)) := ev_3.trans (nI_add (4 * j) 2)
  refine va_sld hx hb hX hbl hbA hS (vp_in_nI (n := ((4 * j) + 2)) (N := L9) (by omega) (by omega)) dL_law_892 ?_
  refine lv_topi (fun v_4 ev_4 => ?_)
  obtain rfl : (nI a2) = v_4 := (ev_4.trans ((congrArg xs (nI_clamp (by omega))).trans ea2)).symm
  refine lv_aload_n hx hb dL_law_893 rfl (lv_at hl 0 rfl) ?_
  refine lv_iload hx hb dL_law_894 (lv_at hl 4 rfl) ?_
  refine lv_iconst (v := 3) hx hb dL_law_896 (by decide) ?_
  refine lv_iadd hx hb dL_law_897 ?_
  refine lv_topi (fun v_5 ev_5 => ?_)
  obtain rfl : v_5 = (nI ((4 * j) + 3)) := ev_5.trans (nI_add (4 * j) 3)
  refine va_sld hx hb hX hbl hbA hS (vp_in_nI (n := ((4 * j) + 3)) (N := L9) (by omega) (by omega)) dL_law_898 ?_
  refine lv_topi (fun v_6 ev_6 => ?_)
  obtain rfl : 3 = v_6 := (ev_6.trans ((congrArg xs (nI_clamp (by omega))).trans ea3)).symm
  refine lv_aload_n hx hb dL_law_899 rfl (lv_at hl 3 rfl) ?_
  refine zci (vx_runSW (As := [.ref (h 0), .int (nI a1), .int (nI a2), .int 3, .ref oa]) (rest := []) ⟨hx, hb, hml, hown, hts⟩ (c_L_pair_3 (a := a1) (b := a2) (h1) (h2x)) (vx_cwSW 5 hts gL_law_L_pair rfl rfl rfl hds_L_pair ⟨Nat.le_of_ble_eq_true rfl, Nat.le_of_ble_eq_true rfl⟩) (zS hP hD hK hE hB hS) rfl rfl hl.1 rfl (lv_room (Nat.le_of_ble_eq_true rfl)) dL_law_900 ⟨(show cc + 0 ≤ 601024 by omega), (show ss + 0 ≤ 7293034 by omega)⟩) hS (fun H locs hP hD hS => ?_)
  have hP : va_P D vwCl ((zWT cI cJ h (n, L) (kt, km, kl) (pt, pm, pl) (nu, le, ow, fo, run, wc, lc, tr, cl, tm, ms) (yl, yc, yt, co, pa, su, sc) mc) ++ ((oa, .inl (cJ, 1, .inr (.inl (vp_updL yo 0 (((zwk pt pl (nI (26 * a1 + a2)))).toInt64))))) :: (zWM cI cJ cZ h2 th (n, L) ((zcb kt pt), (zcb km pm), (zcb kl pl)) mc (run, wc, nu, lc, le, af, tr, ms, cl, tm) (co, yn, yh, pa)))) H := hP
  have hD : va_D (zAb s.heap.size) ((zWT cI cJ h (n, L) (kt, km, kl) (pt, pm, pl) (nu, le, ow, fo, run, wc, lc, tr, cl, tm, ms) (yl, yc, yt, co, pa, su, sc) mc) ++ ((oa, .inl (cJ, 1, .inr (.inl (vp_updL yo 0 (((zwk pt pl (nI (26 * a1 + a2)))).toInt64))))) :: (zWM cI cJ cZ h2 th (n, L) ((zcb kt pt), (zcb km pm), (zcb kl pl)) mc (run, wc, nu, lc, le, af, tr, ms, cl, tm) (co, yn, yh, pa)))) := hD
  refine lv_istore (lv' := [(5, .int 0), (0, .ref b), (1, .ref (h 0)), (2, .ref (h2 0)), (3, .ref oa), (4, .int (nI (4 * j)))]) hx hb dL_law_903 hl (by decide) rfl (fun ls hl => ?_)
  refine lv_aload_n hx hb dL_law_905 rfl (lv_at hl 3 rfl) ?_
  refine lv_aload_n hx hb dL_law_906 rfl (lv_at hl 1 rfl) ?_
  refine lv_iload hx hb dL_law_907 (lv_at hl 5 rfl) ?_
  refine lv_iconst (v := 1) hx hb dL_law_909 (by decide) ?_
  refine lv_iadd hx hb dL_law_910 ?_
  refine lv_topi (fun v_7 ev_7 => ?_)
  obtain rfl : v_7 = (nI ((4 * j) + 1)) := ev_7.trans (nI_add (4 * j) 1)
  refine va_sld hx hb hX hbl hbA hS (vp_in_nI (n := ((4 * j) + 1)) (N := L9) (by omega) (by omega)) dL_law_911 ?_
  refine lv_topi (fun v_8 ev_8 => ?_)
  obtain rfl : (nI a1) = v_8 := (ev_8.trans ((congrArg xs (nI_clamp (by omega))).trans ea1)).symm
  refine lv_aload_n hx hb dL_law_912 rfl (lv_at hl 1 rfl) ?_
  refine lv_iload hx hb dL_law_913 (lv_at hl 5 rfl) ?_
  refine lv_iconst (v := 2) hx hb dL_law_915 (by decide) ?_
  refine lv_iadd hx hb dL_law_916 ?_
  refine lv_topi (fun v_9 ev_9 => ?_)
  obtain rfl : v_9 = (nI ((4 * j) + 2)) := ev_9.trans (nI_add (4 * j) 2)
  refine va_sld hx hb hX hbl hbA hS (vp_in_nI (n := ((4 * j) + 2)) (N := L9) (by omega) (by omega)) dL_law_917 ?_
  refine lv_topi (fun v_10 ev_10 => ?_)
  obtain rfl : (nI a2) = v_10 := (ev_10.trans ((congrArg xs (nI_clamp (by omega))).trans ea2)).symm
  refine lv_aload_n hx hb dL_law_918 rfl (lv_at hl 1 rfl) ?_
  refine lv_iload hx hb dL_law_919 (lv_at hl 5 rfl) ?_
  refine lv_iconst (v := 3) hx hb dL_law_921 (by decide) ?_
  refine lv_iadd hx hb dL_law_922 ?_
  refine lv_topi (fun v_11 ev_11 => ?_)
  obtain rfl : v_11 = (nI ((4 * j) + 3)) := ev_11.trans (nI_add (4 * j) 3)
  refine va_sld hx hb hX hbl hbA hS (vp_in_nI (n := ((4 * j) + 3)) (N := L9) (by omega) (by omega)) dL_law_923 ?_
  refine lv_topi (fun v_12 ev_12 => ?_)
  obtain rfl : 3 = v_12 := (ev_12.trans ((congrArg xs (nI_clamp (by omega))).trans ea3)).symm
  have hP9 : va_P D vwCl ((zWM cI cJ cZ h2 th (n, L) ((zcb kt pt), (zcb km pm), (zcb kl pl)) mc (run, wc, nu, lc, le, af, tr, ms, cl, tm) (co, yn, yh, pa)) ++ ((zWT cI cJ h (n, L) (kt, km, kl) (pt, pm, pl) (nu, le, ow, fo, run, wc, lc, tr, cl, tm, ms) (yl, yc, yt, co, pa, su, sc) mc) ++ [(oa, .inl (cJ, 1, .inr (.inl (vp_updL yo 0 (((zwk pt pl (nI (26 * a1 + a2)))).toInt64)))))])) H := zswapP (A := (zWT cI cJ h (n, L) (kt, km, kl) (pt, pm, pl) (nu, le, ow, fo, run, wc, lc, tr, cl, tm, ms) (yl, yc, yt, co, pa, su, sc) mc) ++ [(oa, .inl (cJ, 1, .inr (.inl (vp_updL yo 0 (((zwk pt pl (nI (26 * a1 + a2)))).toInt64)))))]) (Bw := (zWM cI cJ cZ h2 th (n, L) ((zcb kt pt), (zcb km pm), (zcb kl pl)) mc (run, wc, nu, lc, le, af, tr, ms, cl, tm) (co, yn, yh, pa))) hP
  have hD9 : va_D (zAb s.heap.size) ((zWM cI cJ cZ h2 th (n, L) ((zcb kt pt), (zcb km pm), (zcb kl pl)) mc (run, wc, nu, lc, le, af, tr, ms, cl, tm) (co, yn, yh, pa)) ++ ((zWT cI cJ h (n, L) (kt, km, kl) (pt, pm, pl) (nu, le, ow, fo, run, wc, lc, tr, cl, tm, ms) (yl, yc, yt, co, pa, su, sc) mc) ++ [(oa, .inl (cJ, 1, .inr (.inl (vp_updL yo 0 (((zwk pt pl (nI (26 * a1 + a2)))).toInt64)))))])) := zswapD (A := (zWT cI cJ h (n, L) (kt, km, kl) (pt, pm, pl) (nu, le, ow, fo, run, wc, lc, tr, cl, tm, ms) (yl, yc, yt, co, pa, su, sc) mc) ++ [(oa, .inl (cJ, 1, .inr (.inl (vp_updL yo 0 (((zwk pt pl (nI (26 * a1 + a2)))).toInt64)))))]) (Bw := (zWM cI cJ cZ h2 th (n, L) ((zcb kt pt), (zcb km pm), (zcb kl pl)) mc (run, wc, nu, lc, le, af, tr, ms, cl, tm) (co, yn, yh, pa))) hD
  refine zci (zrV (As := [.int (nI a1), .int (nI a2), .int 3]) (rest := []) ⟨hx, hb, hml, hown, hts⟩ (zV 0 hP9 hD9 hK hE hB hS rfl rfl) (c_X5_pair_3 (a := a1) (b := a2) (h1) (h2x)) (cwV 3 hts gL_law_X5_pair rfl rfl rfl hdv_X5_pair ⟨Nat.le_of_ble_eq_true rfl, Nat.le_of_ble_eq_true rfl⟩) rfl rfl hl.1 rfl (lv_room (Nat.le_of_ble_eq_true rfl)) dL_law_924 ⟨(show cc + 0 + 0 ≤ 601024 by omega), (show ss + 0 + 0 ≤ 7293034 by omega)⟩) hS (fun H locs hP hD hS => ?_)
  have hP : va_P D vwCl ((zWT cI cJ h (n, L) (kt, km, kl) (pt, pm, pl) (nu, le, ow, fo, run, wc, lc, tr, cl, tm, ms) (yl, yc, yt, co, pa, su, sc) mc) ++ ((oa, .inl (cJ, 1, .inr (.inl (vp_updL yo 0 (((zwk pt pl (nI (26 * a1 + a2)))).toInt64))))) :: (zWM cI cJ cZ h2 0 (n, L) ((zcb kt pt), (zcb km pm), (zcb kl pl)) mc (run, wc, nu, lc, le, af, tr, ms, cl, tm) (co, yn, yh, pa)))) H := zswapP (A := (zWM cI cJ cZ h2 0 (n, L) ((zcb kt pt), (zcb km pm), (zcb kl pl)) mc (run, wc, nu, lc, le, af, tr, ms, cl, tm) (co, yn, yh, pa))) (Bw := (zWT cI cJ h (n, L) (kt, km, kl) (pt, pm, pl) (nu, le, ow, fo, run, wc, lc, tr, cl, tm, ms) (yl, yc, yt, co, pa, su, sc) mc) ++ [(oa, .inl (cJ, 1, .inr (.inl (vp_updL yo 0 (((zwk pt pl (nI (26 * a1 + a2)))).toInt64)))))]) hP
  have hD : va_D (zAb s.heap.size) ((zWT cI cJ h (n, L) (kt, km, kl) (pt, pm, pl) (nu, le, ow, fo, run, wc, lc, tr, cl, tm, ms) (yl, yc, yt, co, pa, su, sc) mc) ++ ((oa, .inl (cJ, 1, .inr (.inl (vp_updL yo 0 (((zwk pt pl (nI (26 * a1 + a2)))).toInt64))))) :: (zWM cI cJ cZ h2 0 (n, L) ((zcb kt pt), (zcb km pm), (zcb kl pl)) mc (run, wc, nu, lc, le, af, tr, ms, cl, tm) (co, yn, yh, pa)))) := zswapD (A := (zWM cI cJ cZ h2 0 (n, L) ((zcb kt pt), (zcb km pm), (zcb kl pl)) mc (run, wc, nu, lc, le, af, tr, ms, cl, tm) (co, yn, yh, pa))) (Bw := (zWT cI cJ h (n, L) (kt, km, kl) (pt, pm, pl) (nu, le, ow, fo, run, wc, lc, tr, cl, tm, ms) (yl, yc, yt, co, pa, su, sc) mc) ++ [(oa, .inl (cJ, 1, .inr (.inl (vp_updL yo 0 (((zwk pt pl (nI (26 * a1 + a2)))).toInt64)))))]) hD
  refine lv_istore (lv' := [(6, .int (zwk pt pl (nI (26 * a1 + a2)))), (5, .int 0), (0, .ref b), (1, .ref (h 0)), (2, .ref (h2 0)), (3, .ref oa), (4, .int (nI (4 * j)))]) hx hb dL_law_927 hl (by decide) rfl (fun ls hl => ?_)
  refine lv_aload_n hx hb dL_law_929 rfl (lv_at hl 4 rfl) ?_
  have hP9 : va_P D vwCl ((zWM cI cJ cZ h2 0 (n, L) ((zcb kt pt), (zcb km pm), (zcb kl pl)) mc (run, wc, nu, lc, le, af, tr, ms, cl, tm) (co, yn, yh, pa)) ++ ((zWT cI cJ h (n, L) (kt, km, kl) (pt, pm, pl) (nu, le, ow, fo, run, wc, lc, tr, cl, tm, ms) (yl, yc, yt, co, pa, su, sc) mc) ++ [(oa, .inl (cJ, 1, .inr (.inl (vp_updL yo 0 (((zwk pt pl (nI (26 * a1 + a2)))).toInt64)))))])) H := zswapP (A := (zWT cI cJ h (n, L) (kt, km, kl) (pt, pm, pl) (nu, le, ow, fo, run, wc, lc, tr, cl, tm, ms) (yl, yc, yt, co, pa, su, sc) mc) ++ [(oa, .inl (cJ, 1, .inr (.inl (vp_updL yo 0 (((zwk pt pl (nI (26 * a1 + a2)))).toInt64)))))]) (Bw := (zWM cI cJ cZ h2 0 (n, L) ((zcb kt pt), (zcb km pm), (zcb kl pl)) mc (run, wc, nu, lc, le, af, tr, ms, cl, tm) (co, yn, yh, pa))) hP
  have hD9 : va_D (zAb s.heap.size) ((zWM cI cJ cZ h2 0 (n, L) ((zcb kt pt), (zcb km pm), (zcb kl pl)) mc (run, wc, nu, lc, le, af, tr, ms, cl, tm) (co, yn, yh, pa)) ++ ((zWT cI cJ h (n, L) (kt, km, kl) (pt, pm, pl) (nu, le, ow, fo, run, wc, lc, tr, cl, tm, ms) (yl, yc, yt, co, pa, su, sc) mc) ++ [(oa, .inl (cJ, 1, .inr (.inl (vp_updL yo 0 (((zwk pt pl (nI (26 * a1 + a2)))).toInt64)))))])) := zswapD (A := (zWT cI cJ h (n, L) (kt, km, kl) (pt, pm, pl) (nu, le, ow, fo, run, wc, lc, tr, cl, tm, ms) (yl, yc, yt, co, pa, su, sc) mc) ++ [(oa, .inl (cJ, 1, .inr (.inl (vp_updL yo 0 (((zwk pt pl (nI (26 * a1 + a2)))).toInt64)))))]) (Bw := (zWM cI cJ cZ h2 0 (n, L) ((zcb kt pt), (zcb km pm), (zcb kl pl)) mc (run, wc, nu, lc, le, af, tr, ms, cl, tm) (co, yn, yh, pa))) hD
  refine zci (zrV (As := []) (rest := []) ⟨hx, hb, hml, hown, hts⟩ (zV 0 hP9 hD9 hK hE hB hS rfl rfl) (c_X5_thrown  ) (cwV 0 hts gL_law_X5_thrown rfl rfl rfl hdv_X5_thrown ⟨Nat.le_of_ble_eq_true rfl, Nat.le_of_ble_eq_true rfl⟩) rfl rfl hl.1 rfl (lv_room (Nat.le_of_ble_eq_true rfl)) dL_law_930 ⟨(show cc + 0 + 0 + 0 ≤ 601024 by omega), (show ss + 0 + 0 + 0 ≤ 7293034 by omega)⟩) hS (fun H locs hP hD hS => ?_)
  have hP : va_P D vwCl ((zWT cI cJ h (n, L) (kt, km, kl) (pt, pm, pl) (nu, le, ow, fo, run, wc, lc, tr, cl, tm, ms) (yl, yc, yt, co, pa, su, sc) mc) ++ ((oa, .inl (cJ, 1, .inr (.inl (vp_updL yo 0 (((zwk pt pl (nI (26 * a1 + a2)))).toInt64))))) :: (zWM cI cJ cZ h2 0 (n, L) ((zcb kt pt), (zcb km pm), (zcb kl pl)) mc (run, wc, nu, lc, le, af, tr, ms, cl, tm) (co, yn, yh, pa)))) H := zswapP (A := (zWM cI cJ cZ h2 0 (n, L) ((zcb kt pt), (zcb km pm), (zcb kl pl)) mc (run, wc, nu, lc, le, af, tr, ms, cl, tm) (co, yn, yh, pa))) (Bw := (zWT cI cJ h (n, L) (kt, km, kl) (pt, pm, pl) (nu, le, ow, fo, run, wc, lc, tr, cl, tm, ms) (yl, yc, yt, co, pa, su, sc) mc) ++ [(oa, .inl (cJ, 1, .inr (.inl (vp_updL yo 0 (((zwk pt pl (nI (26 * a1 + a2)))).toInt64)))))]) hP
  have hD : va_D (zAb s.heap.size) ((zWT cI cJ h (n, L) (kt, km, kl) (pt, pm, pl) (nu, le, ow, fo, run, wc, lc, tr, cl, tm, ms) (yl, yc, yt, co, pa, su, sc) mc) ++ ((oa, .inl (cJ, 1, .inr (.inl (vp_updL yo 0 (((zwk pt pl (nI (26 * a1 + a2)))).toInt64))))) :: (zWM cI cJ cZ h2 0 (n, L) ((zcb kt pt), (zcb km pm), (zcb kl pl)) mc (run, wc, nu, lc, le, af, tr, ms, cl, tm) (co, yn, yh, pa)))) := zswapD (A := (zWM cI cJ cZ h2 0 (n, L) ((zcb kt pt), (zcb km pm), (zcb kl pl)) mc (run, wc, nu, lc, le, af, tr, ms, cl, tm) (co, yn, yh, pa))) (Bw := (zWT cI cJ h (n, L) (kt, km, kl) (pt, pm, pl) (nu, le, ow, fo, run, wc, lc, tr, cl, tm, ms) (yl, yc, yt, co, pa, su, sc) mc) ++ [(oa, .inl (cJ, 1, .inr (.inl (vp_updL yo 0 (((zwk pt pl (nI (26 * a1 + a2)))).toInt64)))))]) hD
  refine lv_iload hx hb dL_law_933 (lv_at hl 1 rfl) ?_
  refine lv_icmp_eq (tgt := 940) hx hb dL_law_935 (by decide) (fun c_13 => ?_) (fun c_13 => ?_)
  · skip
    refine lv_iload hx hb dL_law_940 (lv_at hl 1 rfl) ?_
    refine lv_if_ne (tgt := 957) hx hb dL_law_942 (by decide) (fun c_14 => ?_) (fun c_14 => ?_)
    · skip
      exfalso; first | omega | (revert c_14; decide) | (exact absurd rfl c_14) | simp_all
    · skip
      refine lv_aload_n hx hb dL_law_945 rfl (lv_at hl 5 rfl) ?_
      refine lv_iconst (v := 0) hx hb dL_law_946 (by decide) ?_
      refine va_lald hx hb hK hP 21 1 rfl rfl (vp_in_nI (n := 0) (N := 1) (by omega) (by omega)) dL_law_947 ?_
      refine lv_topl (fun v_15 ev_15 => ?_)
      obtain rfl : (((zwk pt pl (nI (26 * a1 + a2)))).toInt64) = v_15 := (ev_15.trans (pk_uLs (f := yo) (k := 0) (x := (((zwk pt pl (nI (26 * a1 + a2)))).toInt64)))).symm
      refine lv_iload hx hb dL_law_948 (lv_at hl 0 rfl) ?_
      refine lv_i2l (v := ((zwk pt pl (nI (26 * a1 + a2)))).toInt64) hx hb dL_law_950 rfl ?_
      refine W.lcmp hx hb dL_law_951 ?_
      refine lv_if_eq (tgt := 957) hx hb dL_law_952 (by decide) (fun c_16 => ?_) (fun c_16 => ?_)
      · skip
        have c_16 : (((zwk pt pl (nI (26 * a1 + a2)))).toInt64) = (((zwk pt pl (nI (26 * a1 + a2)))).toInt64) := (lg_cmp_eq _ _).mp c_16
        refine lv_goto (tgt := 1191) hx hb dL_law_957 (by decide) ?_
        refine W.widen (k := cc + 2) (n := ss + 1542) (show cc + 0 + 0 + 0 ≤ cc + 2 by omega) (show ss + 0 + 0 + 0 ≤ ss + 1542 by omega) ?_
        exact kont h h2 oa (vp_updL yo 0 (((zwk pt pl (nI (26 * a1 + a2)))).toInt64)) 0 n L kt km kl pt pm pl nu le ow fo run wc lc tr cl tm ms yl yc yt co pa su sc mc af yn yh (hI.mono) _ _ _ hP hD hS (lv_sub hl [2, 3, 4, 5, 6] rfl)
      · skip
        have c_16 : ¬ (((zwk pt pl (nI (26 * a1 + a2)))).toInt64) = (((zwk pt pl (nI (26 * a1 + a2)))).toInt64) := fun hh => c_16 ((lg_cmp_eq _ _).mpr hh)
        exact absurd rfl c_16
  · skip
    exfalso; first | omega | (revert c_13; decide) | (exact absurd rfl c_13) | simp_all

set_option maxHeartbeats 1000000 in
set_option maxRecDepth 100000 in
theorem law_pair_x {p : Program} {l : Launch} {e : Env} {s : State} {m : MethodId} {below : List Frame} {meth : Method} {c : Code} {b L9 : Nat} {xs : Nat → Int32} {D : va_G} {cI cJ cZ : ClassId} {kr kp j cc ss : Nat} {h h2 : Nat → Nat} {oa : Nat} {yo : Nat → Int64} {th : Int32} {n : Nat} {L : Nat → Int64} {kt : Nat → Int32} {km : Nat → Int32} {kl : Nat → Int32} {pt : Nat → Int32} {pm : Nat → Int32} {pl : Nat → Int32} {nu : Nat → Int32} {le : Nat → Int32} {ow : Nat → Int32} {fo : Nat → Int32} {run : Bool} {wc : Nat} {lc : Nat} {tr : Nat} {cl : Nat} {tm : Nat} {ms : Nat} {yl : Nat → Int32} {yc : Nat → Int32} {yt : Nat → Int32} {co : Nat} {pa : Int32} {su : Nat} {sc : Nat} {mc : Nat → Int32} {af : Nat → Int32} {yn : Nat} {yh : Nat → Int32} {a1 : Int32} {a2 : Int32} {i : Int32} (C : zLw p l s m meth c b L9 xs D cI cJ cZ kr kp) (hj : 4 * j + 4 ≤ L9) (hcc : cc + 2 ≤ 601024) (hss : ss + 1542 ≤ 7293034) (kont : zKt p l e s m below meth c b D cI cJ cZ j cc ss) (hI : zInv j n L pt le ow af run wc lc tr cl tm ms yl yc yt co yn su sc yh) (ea1 : xs (4 * j + 1) = a1) (ea2 : xs (4 * j + 2) = a2) (ea3 : xs (4 * j + 3) = i) (h1 : ¬ ((¬ a1 < 0 ∧ ¬ 26 ≤ a1) ∧ (¬ a2 < 0 ∧ ¬ 26 ≤ a2) ∧ ¬ i < 0 ∧ i ≤ 3)) {H : Heap} {locs : List Loc} {ls : Array Slot} (hP : va_P D vwCl ((zWT cI cJ h (n, L) (kt, km, kl) (pt, pm, pl) (nu, le, ow, fo, run, wc, lc, tr, cl, tm, ms) (yl, yc, yt, co, pa, su, sc) mc) ++ ((oa, .inl (cJ, 1, .inr (.inl yo))) :: (zWM cI cJ cZ h2 th (n, L) ((zcb kt pt), (zcb km pm), (zcb kl pl)) mc (run, wc, nu, lc, le, af, tr, ms, cl, tm) (co, yn, yh, pa)))) H) (hD : va_D (zAb s.heap.size) ((zWT cI cJ h (n, L) (kt, km, kl) (pt, pm, pl) (nu, le, ow, fo, run, wc, lc, tr, cl, tm, ms) (yl, yc, yt, co, pa, su, sc) mc) ++ ((oa, .inl (cJ, 1, .inr (.inl yo))) :: (zWM cI cJ cZ h2 th (n, L) ((zcb kt pt), (zcb km pm), (zcb kl pl)) mc (run, wc, nu, lc, le, af, tr, ms, cl, tm) (co, yn, yh, pa))))) (hS : va_S (zAb s.heap.size) s.heap H locs) (hl : lv_has ls 9 [(0, .ref b), (1, .ref (h 0)), (2, .ref (h2 0)), (3, .ref oa), (4, .int (nI (4 * j)))]) : W p l e room_1 s m #[Value.ref b] below meth c H locs cc ss (lw_Z below #[Value.ref b] s) (F0 m 880 ls []) := by
  obtain ⟨C0, hls, hK, hE, hL9⟩ := C
  obtain ⟨hx, hb, hr, hml, hown, hts0, hX, hbl, hlocks, hgv⟩ := C0
  have hts : ∀ w ∈ wsL_law, w.before #[Value.ref b] s = true := fun w h => hts0 w (wsL_law_in w h)
  have hbA : ¬ zAb s.heap.size b := Nat.not_le.mpr hbl
  have hB : s.heap.size ≤ s.heap.size := Nat.le_refl _
  have hn40 := hI.1.1
  have hzk := hI.1.2
  obtain ⟨hwc6, hlc48, htrl, hclt, hms1⟩ := hI.2.1
  have hrt := hI.2.2.1
  have hle := hI.2.2.2.1
  have hMk := hI.2.2.2.2.1
  have hct := hI.2.2.2.2.2.1
  have hHi := hI.2.2.2.2.2.2.1
  have hsu := hI.2.2.2.2.2.2.2.2.1
  have hj5 : j ≤ 511 := by omega
  have hco : co < 256 := by have := hct.1; omega
  have hco6 : co ≤ 256 := Nat.le_of_lt hco
  have hsl : su < 2147483648 := by have := hsu.2.2; omega
  have hpt := hI.hpt (Nat.le_succ_of_le hj5)
  refine lv_aload_n hx hb dL_law_880 rfl (lv_at hl 1 rfl) ?_
  refine lv_aload_n hx hb dL_law_881 rfl (lv_at hl 0 rfl) ?_
  refine lv_iload hx hb dL_law_882 (lv_at hl 4 rfl) ?_
  refine lv_iconst (v := 1) hx hb dL_law_884 (by decide) ?_
  refine lv_iadd hx hb dL_law_885 ?_
  refine lv_topi (fun v_1 ev_1 => ?_)
  obtain rfl : v_1 = (nI ((4 * j) + 1)) := ev_1.trans (nI_add (4 * j) 1)
  refine va_sld hx hb hX hbl hbA hS (vp_in_nI (n := ((4 * j) + 1)) (N := L9) (by omega) (by omega)) dL_law_886 ?_
  refine lv_topi (fun v_2 ev_2 => ?_)
  obtain rfl : a1 = v_2 := (ev_2.trans ((congrArg xs (nI_clamp (by omega))).trans ea1)).symm
  refine lv_aload_n hx hb dL_law_887 rfl (lv_at hl 0 rfl) ?_
  refine lv_iload hx hb dL_law_888 (lv_at hl 4 rfl) ?_
  refine lv_iconst (v := 2) hx hb dL_law_890 (by decide) ?_
  refine lv_iadd hx hb dL_law_891 ?_
  refine lv_topi (fun v_3 ev_3 => ?_)
  obtain rfl : v_3 = (nI ((4 * j) + 2)) := ev_3.trans (nI_add (4 * j) 2)
  refine va_sld hx hb hX hbl hbA hS (vp_in_nI (n := ((4 * j) + 2)) (N := L9) (by omega) (by omega)) dL_law_892 ?_
  refine lv_topi (fun v_4 ev_4 => ?_)
  obtain rfl : a2 = v_4 := (ev_4.trans ((congrArg xs (nI_clamp (by omega))).trans ea2)).symm
  refine lv_aload_n hx hb dL_law_893 rfl (lv_at hl 0 rfl) ?_
  refine lv_iload hx hb dL_law_894 (lv_at hl 4 rfl) ?_
  refine lv_iconst (v := 3) hx hb dL_law_896 (by decide) ?_
  refine lv_iadd hx hb dL_law_897 ?_
  refine lv_topi (fun v_5 ev_5 => ?_)
  obtain rfl : v_5 = (nI ((4 * j) + 3)) := ev_5.trans (nI_add (4 * j) 3)
  refine va_sld hx hb hX hbl hbA hS (vp_in_nI (n := ((4 * j) + 3)) (N := L9) (by omega) (by omega)) dL_law_898 ?_
  refine lv_topi (fun v_6 ev_6 => ?_)
  obtain rfl : i = v_6 := (ev_6.trans ((congrArg xs (nI_clamp (by omega))).trans ea3)).symm
  refine lv_aload_n hx hb dL_law_899 rfl (lv_at hl 3 rfl) ?_
  refine zci (vx_runSW (As := [.ref (h 0), .int a1, .int a2, .int i, .ref oa]) (rest := []) ⟨hx, hb, hml, hown, hts⟩ (c_L_pair_x  hls (h1)) (vx_cwSW 5 hts gL_law_L_pair rfl rfl rfl hds_L_pair ⟨Nat.le_of_ble_eq_true rfl, Nat.le_of_ble_eq_true rfl⟩) (zS hP hD hK hE hB hS) rfl rfl hl.1 rfl (lv_room (Nat.le_of_ble_eq_true rfl)) dL_law_900 ⟨(show cc + 1 ≤ 601024 by omega), (show ss + 6 ≤ 7293034 by omega)⟩) hS (fun H locs hP hD hS => ?_)
  have hP : va_P D vwCl ((zWT cI cJ h (n, L) (kt, km, kl) (pt, pm, pl) (nu, le, ow, fo, run, wc, lc, tr, cl, tm, ms) (yl, yc, yt, co, pa, su, sc) mc) ++ ((oa, .inl (cJ, 1, .inr (.inl yo))) :: (zWM cI cJ cZ h2 th (n, L) ((zcb kt pt), (zcb km pm), (zcb kl pl)) mc (run, wc, nu, lc, le, af, tr, ms, cl, tm) (co, yn, yh, pa)))) H := hP
  have hD : va_D (zAb s.heap.size) ((zWT cI cJ h (n, L) (kt, km, kl) (pt, pm, pl) (nu, le, ow, fo, run, wc, lc, tr, cl, tm, ms) (yl, yc, yt, co, pa, su, sc) mc) ++ ((oa, .inl (cJ, 1, .inr (.inl yo))) :: (zWM cI cJ cZ h2 th (n, L) ((zcb kt pt), (zcb km pm), (zcb kl pl)) mc (run, wc, nu, lc, le, af, tr, ms, cl, tm) (co, yn, yh, pa)))) := hD
  refine lv_istore (lv' := [(5, .int 1), (0, .ref b), (1, .ref (h 0)), (2, .ref (h2 0)), (3, .ref oa), (4, .int (nI (4 * j)))]) hx hb dL_law_903 hl (by decide) rfl (fun ls hl => ?_)
  refine lv_aload_n hx hb dL_law_905 rfl (lv_at hl 3 rfl) ?_
  refine lv_aload_n hx hb dL_law_906 rfl (lv_at hl 1 rfl) ?_
  refine lv_iload hx hb dL_law_907 (lv_at hl 5 rfl) ?_
  refine lv_iconst (v := 1) hx hb dL_law_909 (by decide) ?_
  refine lv_iadd hx hb dL_law_910 ?_
  refine lv_topi (fun v_7 ev_7 => ?_)
  obtain rfl : v_7 = (nI ((4 * j) + 1)) := ev_7.trans (nI_add (4 * j) 1)
  refine va_sld hx hb hX hbl hbA hS (vp_in_nI (n := ((4 * j) + 1)) (N := L9) (by omega) (by omega)) dL_law_911 ?_
  refine lv_topi (fun v_8 ev_8 => ?_)
  obtain rfl : a1 = v_8 := (ev_8.trans ((congrArg xs (nI_clamp (by omega))).trans ea1)).symm
  refine lv_aload_n hx hb dL_law_912 rfl (lv_at hl 1 rfl) ?_
  refine lv_iload hx hb dL_law_913 (lv_at hl 5 rfl) ?_
  refine lv_iconst (v := 2) hx hb dL_law_915 (by decide) ?_
  refine lv_iadd hx hb dL_law_916 ?_
  refine lv_topi (fun v_9 ev_9 => ?_)
  obtain rfl : v_9 = (nI ((4 * j) + 2)) := ev_9.trans (nI_add (4 * j) 2)
  refine va_sld hx hb hX hbl hbA hS (vp_in_nI (n := ((4 * j) + 2)) (N := L9) (by omega) (by omega)) dL_law_917 ?_
  refine lv_topi (fun v_10 ev_10 => ?_)
  obtain rfl : a2 = v_10 := (ev_10.trans ((congrArg xs (nI_clamp (by omega))).trans ea2)).symm
  refine lv_aload_n hx hb dL_law_918 rfl (lv_at hl 1 rfl) ?_
  refine lv_iload hx hb dL_law_919 (lv_at hl 5 rfl) ?_
  refine lv_iconst (v := 3) hx hb dL_law_921 (by decide) ?_
  refine lv_iadd hx hb dL_law_922 ?_
  refine lv_topi (fun v_11 ev_11 => ?_)
  obtain rfl : v_11 = (nI ((4 * j) + 3)) := ev_11.trans (nI_add (4 * j) 3)
  refine va_sld hx hb hX hbl hbA hS (vp_in_nI (n := ((4 * j) + 3)) (N := L9) (by omega) (by omega)) dL_law_923 ?_
  refine lv_topi (fun v_12 ev_12 => ?_)
  obtain rfl : i = v_12 := (ev_12.trans ((congrArg xs (nI_clamp (by omega))).trans ea3)).symm
  have hP9 : va_P D vwCl ((zWM cI cJ cZ h2 th (n, L) ((zcb kt pt), (zcb km pm), (zcb kl pl)) mc (run, wc, nu, lc, le, af, tr, ms, cl, tm) (co, yn, yh, pa)) ++ ((zWT cI cJ h (n, L) (kt, km, kl) (pt, pm, pl) (nu, le, ow, fo, run, wc, lc, tr, cl, tm, ms) (yl, yc, yt, co, pa, su, sc) mc) ++ [(oa, .inl (cJ, 1, .inr (.inl yo)))])) H := zswapP (A := (zWT cI cJ h (n, L) (kt, km, kl) (pt, pm, pl) (nu, le, ow, fo, run, wc, lc, tr, cl, tm, ms) (yl, yc, yt, co, pa, su, sc) mc) ++ [(oa, .inl (cJ, 1, .inr (.inl yo)))]) (Bw := (zWM cI cJ cZ h2 th (n, L) ((zcb kt pt), (zcb km pm), (zcb kl pl)) mc (run, wc, nu, lc, le, af, tr, ms, cl, tm) (co, yn, yh, pa))) hP
  have hD9 : va_D (zAb s.heap.size) ((zWM cI cJ cZ h2 th (n, L) ((zcb kt pt), (zcb km pm), (zcb kl pl)) mc (run, wc, nu, lc, le, af, tr, ms, cl, tm) (co, yn, yh, pa)) ++ ((zWT cI cJ h (n, L) (kt, km, kl) (pt, pm, pl) (nu, le, ow, fo, run, wc, lc, tr, cl, tm, ms) (yl, yc, yt, co, pa, su, sc) mc) ++ [(oa, .inl (cJ, 1, .inr (.inl yo)))])) := zswapD (A := (zWT cI cJ h (n, L) (kt, km, kl) (pt, pm, pl) (nu, le, ow, fo, run, wc, lc, tr, cl, tm, ms) (yl, yc, yt, co, pa, su, sc) mc) ++ [(oa, .inl (cJ, 1, .inr (.inl yo)))]) (Bw := (zWM cI cJ cZ h2 th (n, L) ((zcb kt pt), (zcb km pm), (zcb kl pl)) mc (run, wc, nu, lc, le, af, tr, ms, cl, tm) (co, yn, yh, pa))) hD
  refine zci (zrV (As := [.int a1, .int a2, .int i]) (rest := []) ⟨hx, hb, hml, hown, hts⟩ (zV 0 hP9 hD9 hK hE hB hS rfl rfl) (c_X5_pair_x  (h1)) (cwV 3 hts gL_law_X5_pair rfl rfl rfl hdv_X5_pair ⟨Nat.le_of_ble_eq_true rfl, Nat.le_of_ble_eq_true rfl⟩) rfl rfl hl.1 rfl (lv_room (Nat.le_of_ble_eq_true rfl)) dL_law_924 ⟨(show cc + 1 + 0 ≤ 601024 by omega), (show ss + 6 + 0 ≤ 7293034 by omega)⟩) hS (fun H locs hP hD hS => ?_)
  have hP : va_P D vwCl ((zWT cI cJ h (n, L) (kt, km, kl) (pt, pm, pl) (nu, le, ow, fo, run, wc, lc, tr, cl, tm, ms) (yl, yc, yt, co, pa, su, sc) mc) ++ ((oa, .inl (cJ, 1, .inr (.inl yo))) :: (zWM cI cJ cZ h2 1 (n, L) ((zcb kt pt), (zcb km pm), (zcb kl pl)) mc (run, wc, nu, lc, le, af, tr, ms, cl, tm) (co, yn, yh, pa)))) H := zswapP (A := (zWM cI cJ cZ h2 1 (n, L) ((zcb kt pt), (zcb km pm), (zcb kl pl)) mc (run, wc, nu, lc, le, af, tr, ms, cl, tm) (co, yn, yh, pa))) (Bw := (zWT cI cJ h (n, L) (kt, km, kl) (pt, pm, pl) (nu, le, ow, fo, run, wc, lc, tr, cl, tm, ms) (yl, yc, yt, co, pa, su, sc) mc) ++ [(oa, .inl (cJ, 1, .inr (.inl yo)))]) hP
  have hD : va_D (zAb s.heap.size) ((zWT cI cJ h (n, L) (kt, km, kl) (pt, pm, pl) (nu, le, ow, fo, run, wc, lc, tr, cl, tm, ms) (yl, yc, yt, co, pa, su, sc) mc) ++ ((oa, .inl (cJ, 1, .inr (.inl yo))) :: (zWM cI cJ cZ h2 1 (n, L) ((zcb kt pt), (zcb km pm), (zcb kl pl)) mc (run, wc, nu, lc, le, af, tr, ms, cl, tm) (co, yn, yh, pa)))) := zswapD (A := (zWM cI cJ cZ h2 1 (n, L) ((zcb kt pt), (zcb km pm), (zcb kl pl)) mc (run, wc, nu, lc, le, af, tr, ms, cl, tm) (co, yn, yh, pa))) (Bw := (zWT cI cJ h (n, L) (kt, km, kl) (pt, pm, pl) (nu, le, ow, fo, run, wc, lc, tr, cl, tm, ms) (yl, yc, yt, co, pa, su, sc) mc) ++ [(oa, .inl (cJ, 1, .inr (.inl yo)))]) hD
  refine lv_istore (lv' := [(6, .int 0), (5, .int 1), (0, .ref b), (1, .ref (h 0)), (2, .ref (h2 0)), (3, .ref oa), (4, .int (nI (4 * j)))]) hx hb dL_law_927 hl (by decide) rfl (fun ls hl => ?_)
  refine lv_aload_n hx hb dL_law_929 rfl (lv_at hl 4 rfl) ?_
  have hP9 : va_P D vwCl ((zWM cI cJ cZ h2 1 (n, L) ((zcb kt pt), (zcb km pm), (zcb kl pl)) mc (run, wc, nu, lc, le, af, tr, ms, cl, tm) (co, yn, yh, pa)) ++ ((zWT cI cJ h (n, L) (kt, km, kl) (pt, pm, pl) (nu, le, ow, fo, run, wc, lc, tr, cl, tm, ms) (yl, yc, yt, co, pa, su, sc) mc) ++ [(oa, .inl (cJ, 1, .inr (.inl yo)))])) H := zswapP (A := (zWT cI cJ h (n, L) (kt, km, kl) (pt, pm, pl) (nu, le, ow, fo, run, wc, lc, tr, cl, tm, ms) (yl, yc, yt, co, pa, su, sc) mc) ++ [(oa, .inl (cJ, 1, .inr (.inl yo)))]) (Bw := (zWM cI cJ cZ h2 1 (n, L) ((zcb kt pt), (zcb km pm), (zcb kl pl)) mc (run, wc, nu, lc, le, af, tr, ms, cl, tm) (co, yn, yh, pa))) hP
  have hD9 : va_D (zAb s.heap.size) ((zWM cI cJ cZ h2 1 (n, L) ((zcb kt pt), (zcb km pm), (zcb kl pl)) mc (run, wc, nu, lc, le, af, tr, ms, cl, tm) (co, yn, yh, pa)) ++ ((zWT cI cJ h (n, L) (kt, km, kl) (pt, pm, pl) (nu, le, ow, fo, run, wc, lc, tr, cl, tm, ms) (yl, yc, yt, co, pa, su, sc) mc) ++ [(oa, .inl (cJ, 1, .inr (.inl yo)))])) := zswapD (A := (zWT cI cJ h (n, L) (kt, km, kl) (pt, pm, pl) (nu, le, ow, fo, run, wc, lc, tr, cl, tm, ms) (yl, yc, yt, co, pa, su, sc) mc) ++ [(oa, .inl (cJ, 1, .inr (.inl yo)))]) (Bw := (zWM cI cJ cZ h2 1 (n, L) ((zcb kt pt), (zcb km pm), (zcb kl pl)) mc (run, wc, nu, lc, le, af, tr, ms, cl, tm) (co, yn, yh, pa))) hD
  refine zci (zrV (As := []) (rest := []) ⟨hx, hb, hml, hown, hts⟩ (zV 0 hP9 hD9 hK hE hB hS rfl rfl) (c_X5_thrown  ) (cwV 0 hts gL_law_X5_thrown rfl rfl rfl hdv_X5_thrown ⟨Nat.le_of_ble_eq_true rfl, Nat.le_of_ble_eq_true rfl⟩) rfl rfl hl.1 rfl (lv_room (Nat.le_of_ble_eq_true rfl)) dL_law_930 ⟨(show cc + 1 + 0 + 0 ≤ 601024 by omega), (show ss + 6 + 0 + 0 ≤ 7293034 by omega)⟩) hS (fun H locs hP hD hS => ?_)
  have hP : va_P D vwCl ((zWT cI cJ h (n, L) (kt, km, kl) (pt, pm, pl) (nu, le, ow, fo, run, wc, lc, tr, cl, tm, ms) (yl, yc, yt, co, pa, su, sc) mc) ++ ((oa, .inl (cJ, 1, .inr (.inl yo))) :: (zWM cI cJ cZ h2 1 (n, L) ((zcb kt pt), (zcb km pm), (zcb kl pl)) mc (run, wc, nu, lc, le, af, tr, ms, cl, tm) (co, yn, yh, pa)))) H := zswapP (A := (zWM cI cJ cZ h2 1 (n, L) ((zcb kt pt), (zcb km pm), (zcb kl pl)) mc (run, wc, nu, lc, le, af, tr, ms, cl, tm) (co, yn, yh, pa))) (Bw := (zWT cI cJ h (n, L) (kt, km, kl) (pt, pm, pl) (nu, le, ow, fo, run, wc, lc, tr, cl, tm, ms) (yl, yc, yt, co, pa, su, sc) mc) ++ [(oa, .inl (cJ, 1, .inr (.inl yo)))]) hP
  have hD : va_D (zAb s.heap.size) ((zWT cI cJ h (n, L) (kt, km, kl) (pt, pm, pl) (nu, le, ow, fo, run, wc, lc, tr, cl, tm, ms) (yl, yc, yt, co, pa, su, sc) mc) ++ ((oa, .inl (cJ, 1, .inr (.inl yo))) :: (zWM cI cJ cZ h2 1 (n, L) ((zcb kt pt), (zcb km pm), (zcb kl pl)) mc (run, wc, nu, lc, le, af, tr, ms, cl, tm) (co, yn, yh, pa)))) := zswapD (A := (zWM cI cJ cZ h2 1 (n, L) ((zcb kt pt), (zcb km pm), (zcb kl pl)) mc (run, wc, nu, lc, le, af, tr, ms, cl, tm) (co, yn, yh, pa))) (Bw := (zWT cI cJ h (n, L) (kt, km, kl) (pt, pm, pl) (nu, le, ow, fo, run, wc, lc, tr, cl, tm, ms) (yl, yc, yt, co, pa, su, sc) mc) ++ [(oa, .inl (cJ, 1, .inr (.inl yo)))]) hD
  refine lv_iload hx hb dL_law_933 (lv_at hl 1 rfl) ?_
  refine lv_icmp_eq (tgt := 940) hx hb dL_law_935 (by decide) (fun c_13 => ?_) (fun c_13 => ?_)
  · skip
    refine lv_iload hx hb dL_law_940 (lv_at hl 1 rfl) ?_
    refine lv_if_ne (tgt := 957) hx hb dL_law_942 (by decide) (fun c_14 => ?_) (fun c_14 => ?_)
    · skip
      refine lv_goto (tgt := 1191) hx hb dL_law_957 (by decide) ?_
      refine W.widen (k := cc + 2) (n := ss + 1542) (show cc + 1 + 0 + 0 ≤ cc + 2 by omega) (show ss + 6 + 0 + 0 ≤ ss + 1542 by omega) ?_
      exact kont h h2 oa yo 1 n L kt km kl pt pm pl nu le ow fo run wc lc tr cl tm ms yl yc yt co pa su sc mc af yn yh (hI.mono) _ _ _ hP hD hS (lv_sub hl [2, 3, 4, 5, 6] rfl)
    · skip
      exfalso; first | omega | (revert c_14; decide) | (exact absurd rfl c_14) | simp_all
  · skip
    exfalso; first | omega | (revert c_13; decide) | (exact absurd rfl c_13) | simp_all

set_option maxHeartbeats 1000000 in
set_option maxRecDepth 100000 in
theorem law_weakest {p : Program} {l : Launch} {e : Env} {s : State} {m : MethodId} {below : List Frame} {meth : Method} {c : Code} {b L9 : Nat} {xs : Nat → Int32} {D : va_G} {cI cJ cZ : ClassId} {kr kp j cc ss : Nat} {h h2 : Nat → Nat} {oa : Nat} {yo : Nat → Int64} {th : Int32} {n : Nat} {L : Nat → Int64} {kt : Nat → Int32} {km : Nat → Int32} {kl : Nat → Int32} {pt : Nat → Int32} {pm : Nat → Int32} {pl : Nat → Int32} {nu : Nat → Int32} {le : Nat → Int32} {ow : Nat → Int32} {fo : Nat → Int32} {run : Bool} {wc : Nat} {lc : Nat} {tr : Nat} {cl : Nat} {tm : Nat} {ms : Nat} {yl : Nat → Int32} {yc : Nat → Int32} {yt : Nat → Int32} {co : Nat} {pa : Int32} {su : Nat} {sc : Nat} {mc : Nat → Int32} {af : Nat → Int32} {yn : Nat} {yh : Nat → Int32}  (C : zLw p l s m meth c b L9 xs D cI cJ cZ kr kp) (hj : 4 * j + 4 ≤ L9) (hcc : cc + 2 ≤ 601024) (hss : ss + 1542 ≤ 7293034) (kont : zKt p l e s m below meth c b D cI cJ cZ j cc ss) (hI : zInv j n L pt le ow af run wc lc tr cl tm ms yl yc yt co yn su sc yh)  {H : Heap} {locs : List Loc} {ls : Array Slot} (hP : va_P D vwCl ((zWT cI cJ h (n, L) (kt, km, kl) (pt, pm, pl) (nu, le, ow, fo, run, wc, lc, tr, cl, tm, ms) (yl, yc, yt, co, pa, su, sc) mc) ++ ((oa, .inl (cJ, 1, .inr (.inl yo))) :: (zWM cI cJ cZ h2 th (n, L) ((zcb kt pt), (zcb km pm), (zcb kl pl)) mc (run, wc, nu, lc, le, af, tr, ms, cl, tm) (co, yn, yh, pa)))) H) (hD : va_D (zAb s.heap.size) ((zWT cI cJ h (n, L) (kt, km, kl) (pt, pm, pl) (nu, le, ow, fo, run, wc, lc, tr, cl, tm, ms) (yl, yc, yt, co, pa, su, sc) mc) ++ ((oa, .inl (cJ, 1, .inr (.inl yo))) :: (zWM cI cJ cZ h2 th (n, L) ((zcb kt pt), (zcb km pm), (zcb kl pl)) mc (run, wc, nu, lc, le, af, tr, ms, cl, tm) (co, yn, yh, pa))))) (hS : va_S (zAb s.heap.size) s.heap H locs) (hl : lv_has ls 9 [(0, .ref b), (1, .ref (h 0)), (2, .ref (h2 0)), (3, .ref oa), (4, .int (nI (4 * j)))]) : W p l e room_1 s m #[Value.ref b] below meth c H locs cc ss (lw_Z below #[Value.ref b] s) (F0 m 960 ls []) := by
  obtain ⟨C0, hls, hK, hE, hL9⟩ := C
  obtain ⟨hx, hb, hr, hml, hown, hts0, hX, hbl, hlocks, hgv⟩ := C0
  have hts : ∀ w ∈ wsL_law, w.before #[Value.ref b] s = true := fun w h => hts0 w (wsL_law_in w h)
  have hbA : ¬ zAb s.heap.size b := Nat.not_le.mpr hbl
  have hB : s.heap.size ≤ s.heap.size := Nat.le_refl _
  have hn40 := hI.1.1
  have hzk := hI.1.2
  obtain ⟨hwc6, hlc48, htrl, hclt, hms1⟩ := hI.2.1
  have hrt := hI.2.2.1
  have hle := hI.2.2.2.1
  have hMk := hI.2.2.2.2.1
  have hct := hI.2.2.2.2.2.1
  have hHi := hI.2.2.2.2.2.2.1
  have hsu := hI.2.2.2.2.2.2.2.2.1
  have hj5 : j ≤ 511 := by omega
  have hco : co < 256 := by have := hct.1; omega
  have hco6 : co ≤ 256 := Nat.le_of_lt hco
  have hsl : su < 2147483648 := by have := hsu.2.2; omega
  have hpt := hI.hpt (Nat.le_succ_of_le hj5)
  refine lv_aload_n hx hb dL_law_960 rfl (lv_at hl 1 rfl) ?_
  refine zci (zrV (As := []) (rest := []) ⟨hx, hb, hml, hown, hts⟩ (zV 0 hP hD hK hE hB hS rfl rfl) (c_X4_weakest  (hpt)) (cwV 0 hts gL_law_X4_weakest rfl rfl rfl hdv_X4_weakest ⟨Nat.le_of_ble_eq_true rfl, Nat.le_of_ble_eq_true rfl⟩) rfl rfl hl.1 rfl (lv_room (Nat.le_of_ble_eq_true rfl)) dL_law_961 ⟨(show cc + 0 ≤ 601024 by omega), (show ss + 0 ≤ 7293034 by omega)⟩) hS (fun H locs hP hD hS => ?_)
  have hP : va_P D vwCl ((zWT cI cJ h (n, L) (kt, km, kl) (pt, pm, pl) (nu, le, ow, fo, run, wc, lc, tr, cl, tm, ms) (yl, yc, yt, co, pa, su, sc) mc) ++ ((oa, .inl (cJ, 1, .inr (.inl yo))) :: (zWM cI cJ cZ h2 th (n, L) ((zcb kt pt), (zcb km pm), (zcb kl pl)) mc (run, wc, nu, lc, le, af, tr, ms, cl, tm) (co, yn, yh, pa)))) H := hP
  have hD : va_D (zAb s.heap.size) ((zWT cI cJ h (n, L) (kt, km, kl) (pt, pm, pl) (nu, le, ow, fo, run, wc, lc, tr, cl, tm, ms) (yl, yc, yt, co, pa, su, sc) mc) ++ ((oa, .inl (cJ, 1, .inr (.inl yo))) :: (zWM cI cJ cZ h2 th (n, L) ((zcb kt pt), (zcb km pm), (zcb kl pl)) mc (run, wc, nu, lc, le, af, tr, ms, cl, tm) (co, yn, yh, pa)))) := hD
  refine lv_aload_n hx hb dL_law_964 rfl (lv_at hl 2 rfl) ?_
  have hP9 : va_P D vwCl ((zWM cI cJ cZ h2 th (n, L) ((zcb kt pt), (zcb km pm), (zcb kl pl)) mc (run, wc, nu, lc, le, af, tr, ms, cl, tm) (co, yn, yh, pa)) ++ ((zWT cI cJ h (n, L) (kt, km, kl) (pt, pm, pl) (nu, le, ow, fo, run, wc, lc, tr, cl, tm, ms) (yl, yc, yt, co, pa, su, sc) mc) ++ [(oa, .inl (cJ, 1, .inr (.inl yo)))])) H := zswapP (A := (zWT cI cJ h (n, L) (kt, km, kl) (pt, pm, pl) (nu, le, ow, fo, run, wc, lc, tr, cl, tm, ms) (yl, yc, yt, co, pa, su, sc) mc) ++ [(oa, .inl (cJ, 1, .inr (.inl yo)))]) (Bw := (zWM cI cJ cZ h2 th (n, L) ((zcb kt pt), (zcb km pm), (zcb kl pl)) mc (run, wc, nu, lc, le, af, tr, ms, cl, tm) (co, yn, yh, pa))) hP
  have hD9 : va_D (zAb s.heap.size) ((zWM cI cJ cZ h2 th (n, L) ((zcb kt pt), (zcb km pm), (zcb kl pl)) mc (run, wc, nu, lc, le, af, tr, ms, cl, tm) (co, yn, yh, pa)) ++ ((zWT cI cJ h (n, L) (kt, km, kl) (pt, pm, pl) (nu, le, ow, fo, run, wc, lc, tr, cl, tm, ms) (yl, yc, yt, co, pa, su, sc) mc) ++ [(oa, .inl (cJ, 1, .inr (.inl yo)))])) := zswapD (A := (zWT cI cJ h (n, L) (kt, km, kl) (pt, pm, pl) (nu, le, ow, fo, run, wc, lc, tr, cl, tm, ms) (yl, yc, yt, co, pa, su, sc) mc) ++ [(oa, .inl (cJ, 1, .inr (.inl yo)))]) (Bw := (zWM cI cJ cZ h2 th (n, L) ((zcb kt pt), (zcb km pm), (zcb kl pl)) mc (run, wc, nu, lc, le, af, tr, ms, cl, tm) (co, yn, yh, pa))) hD
  refine zci (zrV (As := []) (rest := [.int (zws pt pl 676)]) ⟨hx, hb, hml, hown, hts⟩ (zV 0 hP9 hD9 hK hE hB hS rfl rfl) (c_X5_weakest  ) (cwV 0 hts gL_law_X5_weakest rfl rfl rfl hdv_X5_weakest ⟨Nat.le_of_ble_eq_true rfl, Nat.le_of_ble_eq_true rfl⟩) rfl rfl hl.1 rfl (lv_room (Nat.le_of_ble_eq_true rfl)) dL_law_965 ⟨(show cc + 0 + 0 ≤ 601024 by omega), (show ss + 0 + 0 ≤ 7293034 by omega)⟩) hS (fun H locs hP hD hS => ?_)
  have hP : va_P D vwCl ((zWT cI cJ h (n, L) (kt, km, kl) (pt, pm, pl) (nu, le, ow, fo, run, wc, lc, tr, cl, tm, ms) (yl, yc, yt, co, pa, su, sc) mc) ++ ((oa, .inl (cJ, 1, .inr (.inl yo))) :: (zWM cI cJ cZ h2 0 (n, L) ((zcb kt pt), (zcb km pm), (zcb kl pl)) mc (run, wc, nu, lc, le, af, tr, ms, cl, tm) (co, yn, yh, pa)))) H := zswapP (A := (zWM cI cJ cZ h2 0 (n, L) ((zcb kt pt), (zcb km pm), (zcb kl pl)) mc (run, wc, nu, lc, le, af, tr, ms, cl, tm) (co, yn, yh, pa))) (Bw := (zWT cI cJ h (n, L) (kt, km, kl) (pt, pm, pl) (nu, le, ow, fo, run, wc, lc, tr, cl, tm, ms) (yl, yc, yt, co, pa, su, sc) mc) ++ [(oa, .inl (cJ, 1, .inr (.inl yo)))]) hP
  have hD : va_D (zAb s.heap.size) ((zWT cI cJ h (n, L) (kt, km, kl) (pt, pm, pl) (nu, le, ow, fo, run, wc, lc, tr, cl, tm, ms) (yl, yc, yt, co, pa, su, sc) mc) ++ ((oa, .inl (cJ, 1, .inr (.inl yo))) :: (zWM cI cJ cZ h2 0 (n, L) ((zcb kt pt), (zcb km pm), (zcb kl pl)) mc (run, wc, nu, lc, le, af, tr, ms, cl, tm) (co, yn, yh, pa)))) := zswapD (A := (zWM cI cJ cZ h2 0 (n, L) ((zcb kt pt), (zcb km pm), (zcb kl pl)) mc (run, wc, nu, lc, le, af, tr, ms, cl, tm) (co, yn, yh, pa))) (Bw := (zWT cI cJ h (n, L) (kt, km, kl) (pt, pm, pl) (nu, le, ow, fo, run, wc, lc, tr, cl, tm, ms) (yl, yc, yt, co, pa, su, sc) mc) ++ [(oa, .inl (cJ, 1, .inr (.inl yo)))]) hD
  refine lv_icmp_eq (tgt := 1191) hx hb dL_law_968 (by decide) (fun c_1 => ?_) (fun c_1 => ?_)
  · skip
    refine W.widen (k := cc + 2) (n := ss + 1542) (show cc + 0 + 0 ≤ cc + 2 by omega) (show ss + 0 + 0 ≤ ss + 1542 by omega) ?_
    exact kont h h2 oa yo 0 n L kt km kl pt pm pl nu le ow fo run wc lc tr cl tm ms yl yc yt co pa su sc mc af yn yh (hI.mono) _ _ _ hP hD hS (lv_sub hl [0, 1, 2, 3, 4] rfl)
  · skip
    exact absurd rfl c_1

set_option maxHeartbeats 1000000 in
set_option maxRecDepth 100000 in
theorem law_mistakes {p : Program} {l : Launch} {e : Env} {s : State} {m : MethodId} {below : List Frame} {meth : Method} {c : Code} {b L9 : Nat} {xs : Nat → Int32} {D : va_G} {cI cJ cZ : ClassId} {kr kp j cc ss : Nat} {h h2 : Nat → Nat} {oa : Nat} {yo : Nat → Int64} {th : Int32} {n : Nat} {L : Nat → Int64} {kt : Nat → Int32} {km : Nat → Int32} {kl : Nat → Int32} {pt : Nat → Int32} {pm : Nat → Int32} {pl : Nat → Int32} {nu : Nat → Int32} {le : Nat → Int32} {ow : Nat → Int32} {fo : Nat → Int32} {run : Bool} {wc : Nat} {lc : Nat} {tr : Nat} {cl : Nat} {tm : Nat} {ms : Nat} {yl : Nat → Int32} {yc : Nat → Int32} {yt : Nat → Int32} {co : Nat} {pa : Int32} {su : Nat} {sc : Nat} {mc : Nat → Int32} {af : Nat → Int32} {yn : Nat} {yh : Nat → Int32} {k : Nat} (C : zLw p l s m meth c b L9 xs D cI cJ cZ kr kp) (hj : 4 * j + 4 ≤ L9) (hcc : cc + 2 ≤ 601024) (hss : ss + 1542 ≤ 7293034) (kont : zKt p l e s m below meth c b D cI cJ cZ j cc ss) (hI : zInv j n L pt le ow af run wc lc tr cl tm ms yl yc yt co yn su sc yh) (ea1 : xs (4 * j + 1) = nI k) (h1 : 1 ≤ k) (h4 : k ≤ 4) {H : Heap} {locs : List Loc} {ls : Array Slot} (hP : va_P D vwCl ((zWT cI cJ h (n, L) (kt, km, kl) (pt, pm, pl) (nu, le, ow, fo, run, wc, lc, tr, cl, tm, ms) (yl, yc, yt, co, pa, su, sc) mc) ++ ((oa, .inl (cJ, 1, .inr (.inl yo))) :: (zWM cI cJ cZ h2 th (n, L) ((zcb kt pt), (zcb km pm), (zcb kl pl)) mc (run, wc, nu, lc, le, af, tr, ms, cl, tm) (co, yn, yh, pa)))) H) (hD : va_D (zAb s.heap.size) ((zWT cI cJ h (n, L) (kt, km, kl) (pt, pm, pl) (nu, le, ow, fo, run, wc, lc, tr, cl, tm, ms) (yl, yc, yt, co, pa, su, sc) mc) ++ ((oa, .inl (cJ, 1, .inr (.inl yo))) :: (zWM cI cJ cZ h2 th (n, L) ((zcb kt pt), (zcb km pm), (zcb kl pl)) mc (run, wc, nu, lc, le, af, tr, ms, cl, tm) (co, yn, yh, pa))))) (hS : va_S (zAb s.heap.size) s.heap H locs) (hl : lv_has ls 9 [(0, .ref b), (1, .ref (h 0)), (2, .ref (h2 0)), (3, .ref oa), (4, .int (nI (4 * j)))]) : W p l e room_1 s m #[Value.ref b] below meth c H locs cc ss (lw_Z below #[Value.ref b] s) (F0 m 973 ls []) := by
  obtain ⟨C0, hls, hK, hE, hL9⟩ := C
  obtain ⟨hx, hb, hr, hml, hown, hts0, hX, hbl, hlocks, hgv⟩ := C0
  have hts : ∀ w ∈ wsL_law, w.before #[Value.ref b] s = true := fun w h => hts0 w (wsL_law_in w h)
  have hbA : ¬ zAb s.heap.size b := Nat.not_le.mpr hbl
  have hB : s.heap.size ≤ s.heap.size := Nat.le_refl _
  have hn40 := hI.1.1
  have hzk := hI.1.2
  obtain ⟨hwc6, hlc48, htrl, hclt, hms1⟩ := hI.2.1
  have hrt := hI.2.2.1
  have hle := hI.2.2.2.1
  have hMk := hI.2.2.2.2.1
  have hct := hI.2.2.2.2.2.1
  have hHi := hI.2.2.2.2.2.2.1
  have hsu := hI.2.2.2.2.2.2.2.2.1
  have hj5 : j ≤ 511 := by omega
  have hco : co < 256 := by have := hct.1; omega
  have hco6 : co ≤ 256 := Nat.le_of_lt hco
  have hsl : su < 2147483648 := by have := hsu.2.2; omega
  have hpt := hI.hpt (Nat.le_succ_of_le hj5)
  refine lv_aload_n hx hb dL_law_973 rfl (lv_at hl 1 rfl) ?_
  refine lv_aload_n hx hb dL_law_974 rfl (lv_at hl 0 rfl) ?_
  refine lv_iload hx hb dL_law_975 (lv_at hl 4 rfl) ?_
  refine lv_iconst (v := 1) hx hb dL_law_977 (by decide) ?_
  refine lv_iadd hx hb dL_law_978 ?_
  refine lv_topi (fun v_1 ev_1 => ?_)
  obtain rfl : v_1 = (nI ((4 * j) + 1)) := ev_1.trans (nI_add (4 * j) 1)
  refine va_sld hx hb hX hbl hbA hS (vp_in_nI (n := ((4 * j) + 1)) (N := L9) (by omega) (by omega)) dL_law_979 ?_
  refine lv_topi (fun v_2 ev_2 => ?_)
  obtain rfl : (nI k) = v_2 := (ev_2.trans ((congrArg xs (nI_clamp (by omega))).trans ea1)).symm
  refine lv_aload_n hx hb dL_law_980 rfl (lv_at hl 3 rfl) ?_
  refine zci (vx_runSW (As := [.ref (h 0), .int (nI k), .ref oa]) (rest := []) ⟨hx, hb, hml, hown, hts⟩ (c_L_mistakes (k := k) (h1) (h4)) (vx_cwSW 3 hts gL_law_L_mistakes rfl rfl rfl hds_L_mistakes ⟨Nat.le_of_ble_eq_true rfl, Nat.le_of_ble_eq_true rfl⟩) (zS hP hD hK hE hB hS) rfl rfl hl.1 rfl (lv_room (Nat.le_of_ble_eq_true rfl)) dL_law_981 ⟨(show cc + 0 ≤ 601024 by omega), (show ss + 0 ≤ 7293034 by omega)⟩) hS (fun H locs hP hD hS => ?_)
  have hP : va_P D vwCl ((zWT cI cJ h (n, L) (kt, km, kl) (pt, pm, pl) (nu, le, ow, fo, run, wc, lc, tr, cl, tm, ms) (yl, yc, yt, co, pa, su, sc) mc) ++ ((oa, .inl (cJ, 1, .inr (.inl (vp_updL yo 0 (((mc k)).toInt64))))) :: (zWM cI cJ cZ h2 th (n, L) ((zcb kt pt), (zcb km pm), (zcb kl pl)) mc (run, wc, nu, lc, le, af, tr, ms, cl, tm) (co, yn, yh, pa)))) H := hP
  have hD : va_D (zAb s.heap.size) ((zWT cI cJ h (n, L) (kt, km, kl) (pt, pm, pl) (nu, le, ow, fo, run, wc, lc, tr, cl, tm, ms) (yl, yc, yt, co, pa, su, sc) mc) ++ ((oa, .inl (cJ, 1, .inr (.inl (vp_updL yo 0 (((mc k)).toInt64))))) :: (zWM cI cJ cZ h2 th (n, L) ((zcb kt pt), (zcb km pm), (zcb kl pl)) mc (run, wc, nu, lc, le, af, tr, ms, cl, tm) (co, yn, yh, pa)))) := hD
  refine lv_istore (lv' := [(5, .int 0), (0, .ref b), (1, .ref (h 0)), (2, .ref (h2 0)), (3, .ref oa), (4, .int (nI (4 * j)))]) hx hb dL_law_984 hl (by decide) rfl (fun ls hl => ?_)
  refine lv_aload_n hx hb dL_law_986 rfl (lv_at hl 3 rfl) ?_
  refine lv_aload_n hx hb dL_law_987 rfl (lv_at hl 1 rfl) ?_
  refine lv_iload hx hb dL_law_988 (lv_at hl 5 rfl) ?_
  refine lv_iconst (v := 1) hx hb dL_law_990 (by decide) ?_
  refine lv_iadd hx hb dL_law_991 ?_
  refine lv_topi (fun v_3 ev_3 => ?_)
  obtain rfl : v_3 = (nI ((4 * j) + 1)) := ev_3.trans (nI_add (4 * j) 1)
  refine va_sld hx hb hX hbl hbA hS (vp_in_nI (n := ((4 * j) + 1)) (N := L9) (by omega) (by omega)) dL_law_992 ?_
  refine lv_topi (fun v_4 ev_4 => ?_)
  obtain rfl : (nI k) = v_4 := (ev_4.trans ((congrArg xs (nI_clamp (by omega))).trans ea1)).symm
  have hP9 : va_P D vwCl ((zWM cI cJ cZ h2 th (n, L) ((zcb kt pt), (zcb km pm), (zcb kl pl)) mc (run, wc, nu, lc, le, af, tr, ms, cl, tm) (co, yn, yh, pa)) ++ ((zWT cI cJ h (n, L) (kt, km, kl) (pt, pm, pl) (nu, le, ow, fo, run, wc, lc, tr, cl, tm, ms) (yl, yc, yt, co, pa, su, sc) mc) ++ [(oa, .inl (cJ, 1, .inr (.inl (vp_updL yo 0 (((mc k)).toInt64)))))])) H := zswapP (A := (zWT cI cJ h (n, L) (kt, km, kl) (pt, pm, pl) (nu, le, ow, fo, run, wc, lc, tr, cl, tm, ms) (yl, yc, yt, co, pa, su, sc) mc) ++ [(oa, .inl (cJ, 1, .inr (.inl (vp_updL yo 0 (((mc k)).toInt64)))))]) (Bw := (zWM cI cJ cZ h2 th (n, L) ((zcb kt pt), (zcb km pm), (zcb kl pl)) mc (run, wc, nu, lc, le, af, tr, ms, cl, tm) (co, yn, yh, pa))) hP
  have hD9 : va_D (zAb s.heap.size) ((zWM cI cJ cZ h2 th (n, L) ((zcb kt pt), (zcb km pm), (zcb kl pl)) mc (run, wc, nu, lc, le, af, tr, ms, cl, tm) (co, yn, yh, pa)) ++ ((zWT cI cJ h (n, L) (kt, km, kl) (pt, pm, pl) (nu, le, ow, fo, run, wc, lc, tr, cl, tm, ms) (yl, yc, yt, co, pa, su, sc) mc) ++ [(oa, .inl (cJ, 1, .inr (.inl (vp_updL yo 0 (((mc k)).toInt64)))))])) := zswapD (A := (zWT cI cJ h (n, L) (kt, km, kl) (pt, pm, pl) (nu, le, ow, fo, run, wc, lc, tr, cl, tm, ms) (yl, yc, yt, co, pa, su, sc) mc) ++ [(oa, .inl (cJ, 1, .inr (.inl (vp_updL yo 0 (((mc k)).toInt64)))))]) (Bw := (zWM cI cJ cZ h2 th (n, L) ((zcb kt pt), (zcb km pm), (zcb kl pl)) mc (run, wc, nu, lc, le, af, tr, ms, cl, tm) (co, yn, yh, pa))) hD
  refine zci (zrV (As := [.int (nI k)]) (rest := []) ⟨hx, hb, hml, hown, hts⟩ (zV 0 hP9 hD9 hK hE hB hS rfl rfl) (c_X5_mistakes (k := k) (h1) (h4)) (cwV 1 hts gL_law_X5_mistakes rfl rfl rfl hdv_X5_mistakes ⟨Nat.le_of_ble_eq_true rfl, Nat.le_of_ble_eq_true rfl⟩) rfl rfl hl.1 rfl (lv_room (Nat.le_of_ble_eq_true rfl)) dL_law_993 ⟨(show cc + 0 + 0 ≤ 601024 by omega), (show ss + 0 + 0 ≤ 7293034 by omega)⟩) hS (fun H locs hP hD hS => ?_)
  have hP : va_P D vwCl ((zWT cI cJ h (n, L) (kt, km, kl) (pt, pm, pl) (nu, le, ow, fo, run, wc, lc, tr, cl, tm, ms) (yl, yc, yt, co, pa, su, sc) mc) ++ ((oa, .inl (cJ, 1, .inr (.inl (vp_updL yo 0 (((mc k)).toInt64))))) :: (zWM cI cJ cZ h2 0 (n, L) ((zcb kt pt), (zcb km pm), (zcb kl pl)) mc (run, wc, nu, lc, le, af, tr, ms, cl, tm) (co, yn, yh, pa)))) H := zswapP (A := (zWM cI cJ cZ h2 0 (n, L) ((zcb kt pt), (zcb km pm), (zcb kl pl)) mc (run, wc, nu, lc, le, af, tr, ms, cl, tm) (co, yn, yh, pa))) (Bw := (zWT cI cJ h (n, L) (kt, km, kl) (pt, pm, pl) (nu, le, ow, fo, run, wc, lc, tr, cl, tm, ms) (yl, yc, yt, co, pa, su, sc) mc) ++ [(oa, .inl (cJ, 1, .inr (.inl (vp_updL yo 0 (((mc k)).toInt64)))))]) hP
  have hD : va_D (zAb s.heap.size) ((zWT cI cJ h (n, L) (kt, km, kl) (pt, pm, pl) (nu, le, ow, fo, run, wc, lc, tr, cl, tm, ms) (yl, yc, yt, co, pa, su, sc) mc) ++ ((oa, .inl (cJ, 1, .inr (.inl (vp_updL yo 0 (((mc k)).toInt64))))) :: (zWM cI cJ cZ h2 0 (n, L) ((zcb kt pt), (zcb km pm), (zcb kl pl)) mc (run, wc, nu, lc, le, af, tr, ms, cl, tm) (co, yn, yh, pa)))) := zswapD (A := (zWM cI cJ cZ h2 0 (n, L) ((zcb kt pt), (zcb km pm), (zcb kl pl)) mc (run, wc, nu, lc, le, af, tr, ms, cl, tm) (co, yn, yh, pa))) (Bw := (zWT cI cJ h (n, L) (kt, km, kl) (pt, pm, pl) (nu, le, ow, fo, run, wc, lc, tr, cl, tm, ms) (yl, yc, yt, co, pa, su, sc) mc) ++ [(oa, .inl (cJ, 1, .inr (.inl (vp_updL yo 0 (((mc k)).toInt64)))))]) hD
  refine lv_istore (lv' := [(6, .int (mc k)), (5, .int 0), (0, .ref b), (1, .ref (h 0)), (2, .ref (h2 0)), (3, .ref oa), (4, .int (nI (4 * j)))]) hx hb dL_law_996 hl (by decide) rfl (fun ls hl => ?_)
  refine lv_aload_n hx hb dL_law_998 rfl (lv_at hl 4 rfl) ?_
  have hP9 : va_P D vwCl ((zWM cI cJ cZ h2 0 (n, L) ((zcb kt pt), (zcb km pm), (zcb kl pl)) mc (run, wc, nu, lc, le, af, tr, ms, cl, tm) (co, yn, yh, pa)) ++ ((zWT cI cJ h (n, L) (kt, km, kl) (pt, pm, pl) (nu, le, ow, fo, run, wc, lc, tr, cl, tm, ms) (yl, yc, yt, co, pa, su, sc) mc) ++ [(oa, .inl (cJ, 1, .inr (.inl (vp_updL yo 0 (((mc k)).toInt64)))))])) H := zswapP (A := (zWT cI cJ h (n, L) (kt, km, kl) (pt, pm, pl) (nu, le, ow, fo, run, wc, lc, tr, cl, tm, ms) (yl, yc, yt, co, pa, su, sc) mc) ++ [(oa, .inl (cJ, 1, .inr (.inl (vp_updL yo 0 (((mc k)).toInt64)))))]) (Bw := (zWM cI cJ cZ h2 0 (n, L) ((zcb kt pt), (zcb km pm), (zcb kl pl)) mc (run, wc, nu, lc, le, af, tr, ms, cl, tm) (co, yn, yh, pa))) hP
  have hD9 : va_D (zAb s.heap.size) ((zWM cI cJ cZ h2 0 (n, L) ((zcb kt pt), (zcb km pm), (zcb kl pl)) mc (run, wc, nu, lc, le, af, tr, ms, cl, tm) (co, yn, yh, pa)) ++ ((zWT cI cJ h (n, L) (kt, km, kl) (pt, pm, pl) (nu, le, ow, fo, run, wc, lc, tr, cl, tm, ms) (yl, yc, yt, co, pa, su, sc) mc) ++ [(oa, .inl (cJ, 1, .inr (.inl (vp_updL yo 0 (((mc k)).toInt64)))))])) := zswapD (A := (zWT cI cJ h (n, L) (kt, km, kl) (pt, pm, pl) (nu, le, ow, fo, run, wc, lc, tr, cl, tm, ms) (yl, yc, yt, co, pa, su, sc) mc) ++ [(oa, .inl (cJ, 1, .inr (.inl (vp_updL yo 0 (((mc k)).toInt64)))))]) (Bw := (zWM cI cJ cZ h2 0 (n, L) ((zcb kt pt), (zcb km pm), (zcb kl pl)) mc (run, wc, nu, lc, le, af, tr, ms, cl, tm) (co, yn, yh, pa))) hD
  refine zci (zrV (As := []) (rest := []) ⟨hx, hb, hml, hown, hts⟩ (zV 0 hP9 hD9 hK hE hB hS rfl rfl) (c_X5_thrown  ) (cwV 0 hts gL_law_X5_thrown rfl rfl rfl hdv_X5_thrown ⟨Nat.le_of_ble_eq_true rfl, Nat.le_of_ble_eq_true rfl⟩) rfl rfl hl.1 rfl (lv_room (Nat.le_of_ble_eq_true rfl)) dL_law_999 ⟨(show cc + 0 + 0 + 0 ≤ 601024 by omega), (show ss + 0 + 0 + 0 ≤ 7293034 by omega)⟩) hS (fun H locs hP hD hS => ?_)
  have hP : va_P D vwCl ((zWT cI cJ h (n, L) (kt, km, kl) (pt, pm, pl) (nu, le, ow, fo, run, wc, lc, tr, cl, tm, ms) (yl, yc, yt, co, pa, su, sc) mc) ++ ((oa, .inl (cJ, 1, .inr (.inl (vp_updL yo 0 (((mc k)).toInt64))))) :: (zWM cI cJ cZ h2 0 (n, L) ((zcb kt pt), (zcb km pm), (zcb kl pl)) mc (run, wc, nu, lc, le, af, tr, ms, cl, tm) (co, yn, yh, pa)))) H := zswapP (A := (zWM cI cJ cZ h2 0 (n, L) ((zcb kt pt), (zcb km pm), (zcb kl pl)) mc (run, wc, nu, lc, le, af, tr, ms, cl, tm) (co, yn, yh, pa))) (Bw := (zWT cI cJ h (n, L) (kt, km, kl) (pt, pm, pl) (nu, le, ow, fo, run, wc, lc, tr, cl, tm, ms) (yl, yc, yt, co, pa, su, sc) mc) ++ [(oa, .inl (cJ, 1, .inr (.inl (vp_updL yo 0 (((mc k)).toInt64)))))]) hP
  have hD : va_D (zAb s.heap.size) ((zWT cI cJ h (n, L) (kt, km, kl) (pt, pm, pl) (nu, le, ow, fo, run, wc, lc, tr, cl, tm, ms) (yl, yc, yt, co, pa, su, sc) mc) ++ ((oa, .inl (cJ, 1, .inr (.inl (vp_updL yo 0 (((mc k)).toInt64))))) :: (zWM cI cJ cZ h2 0 (n, L) ((zcb kt pt), (zcb km pm), (zcb kl pl)) mc (run, wc, nu, lc, le, af, tr, ms, cl, tm) (co, yn, yh, pa)))) := zswapD (A := (zWM cI cJ cZ h2 0 (n, L) ((zcb kt pt), (zcb km pm), (zcb kl pl)) mc (run, wc, nu, lc, le, af, tr, ms, cl, tm) (co, yn, yh, pa))) (Bw := (zWT cI cJ h (n, L) (kt, km, kl) (pt, pm, pl) (nu, le, ow, fo, run, wc, lc, tr, cl, tm, ms) (yl, yc, yt, co, pa, su, sc) mc) ++ [(oa, .inl (cJ, 1, .inr (.inl (vp_updL yo 0 (((mc k)).toInt64)))))]) hD
  refine lv_iload hx hb dL_law_1002 (lv_at hl 1 rfl) ?_
  refine lv_icmp_eq (tgt := 1009) hx hb dL_law_1004 (by decide) (fun c_5 => ?_) (fun c_5 => ?_)
  · skip
    refine lv_iload hx hb dL_law_1009 (lv_at hl 1 rfl) ?_
    refine lv_if_ne (tgt := 1026) hx hb dL_law_1011 (by decide) (fun c_6 => ?_) (fun c_6 => ?_)
    · skip
      exfalso; first | omega | (revert c_6; decide) | (exact absurd rfl c_6) | simp_all
    · skip
      refine lv_aload_n hx hb dL_law_1014 rfl (lv_at hl 5 rfl) ?_
      refine lv_iconst (v := 0) hx hb dL_law_1015 (by decide) ?_
      refine va_lald hx hb hK hP 21 1 rfl rfl (vp_in_nI (n := 0) (N := 1) (by omega) (by omega)) dL_law_1016 ?_
      refine lv_topl (fun v_7 ev_7 => ?_)
      obtain rfl : (((mc k)).toInt64) = v_7 := (ev_7.trans (pk_uLs (f := yo) (k := 0) (x := (((mc k)).toInt64)))).symm
      refine lv_iload hx hb dL_law_1017 (lv_at hl 0 rfl) ?_
      refine lv_i2l (v := ((mc k)).toInt64) hx hb dL_law_1019 rfl ?_
      refine W.lcmp hx hb dL_law_1020 ?_
      refine lv_if_eq (tgt := 1026) hx hb dL_law_1021 (by decide) (fun c_8 => ?_) (fun c_8 => ?_)
      · skip
        have c_8 : (((mc k)).toInt64) = (((mc k)).toInt64) := (lg_cmp_eq _ _).mp c_8
        refine lv_goto (tgt := 1191) hx hb dL_law_1026 (by decide) ?_
        refine W.widen (k := cc + 2) (n := ss + 1542) (show cc + 0 + 0 + 0 ≤ cc + 2 by omega) (show ss + 0 + 0 + 0 ≤ ss + 1542 by omega) ?_
        exact kont h h2 oa (vp_updL yo 0 (((mc k)).toInt64)) 0 n L kt km kl pt pm pl nu le ow fo run wc lc tr cl tm ms yl yc yt co pa su sc mc af yn yh (hI.mono) _ _ _ hP hD hS (lv_sub hl [2, 3, 4, 5, 6] rfl)
      · skip
        have c_8 : ¬ (((mc k)).toInt64) = (((mc k)).toInt64) := fun hh => c_8 ((lg_cmp_eq _ _).mpr hh)
        exact absurd rfl c_8
  · skip
    exfalso; first | omega | (revert c_5; decide) | (exact absurd rfl c_5) | simp_all

set_option maxHeartbeats 1000000 in
set_option maxRecDepth 100000 in
theorem law_mistakes_x {p : Program} {l : Launch} {e : Env} {s : State} {m : MethodId} {below : List Frame} {meth : Method} {c : Code} {b L9 : Nat} {xs : Nat → Int32} {D : va_G} {cI cJ cZ : ClassId} {kr kp j cc ss : Nat} {h h2 : Nat → Nat} {oa : Nat} {yo : Nat → Int64} {th : Int32} {n : Nat} {L : Nat → Int64} {kt : Nat → Int32} {km : Nat → Int32} {kl : Nat → Int32} {pt : Nat → Int32} {pm : Nat → Int32} {pl : Nat → Int32} {nu : Nat → Int32} {le : Nat → Int32} {ow : Nat → Int32} {fo : Nat → Int32} {run : Bool} {wc : Nat} {lc : Nat} {tr : Nat} {cl : Nat} {tm : Nat} {ms : Nat} {yl : Nat → Int32} {yc : Nat → Int32} {yt : Nat → Int32} {co : Nat} {pa : Int32} {su : Nat} {sc : Nat} {mc : Nat → Int32} {af : Nat → Int32} {yn : Nat} {yh : Nat → Int32} {i : Int32} (C : zLw p l s m meth c b L9 xs D cI cJ cZ kr kp) (hj : 4 * j + 4 ≤ L9) (hcc : cc + 2 ≤ 601024) (hss : ss + 1542 ≤ 7293034) (kont : zKt p l e s m below meth c b D cI cJ cZ j cc ss) (hI : zInv j n L pt le ow af run wc lc tr cl tm ms yl yc yt co yn su sc yh) (ea1 : xs (4 * j + 1) = i) (hi : i < 1 ∨ ¬ i ≤ 4) {H : Heap} {locs : List Loc} {ls : Array Slot} (hP : va_P D vwCl ((zWT cI cJ h (n, L) (kt, km, kl) (pt, pm, pl) (nu, le, ow, fo, run, wc, lc, tr, cl, tm, ms) (yl, yc, yt, co, pa, su, sc) mc) ++ ((oa, .inl (cJ, 1, .inr (.inl yo))) :: (zWM cI cJ cZ h2 th (n, L) ((zcb kt pt), (zcb km pm), (zcb kl pl)) mc (run, wc, nu, lc, le, af, tr, ms, cl, tm) (co, yn, yh, pa)))) H) (hD : va_D (zAb s.heap.size) ((zWT cI cJ h (n, L) (kt, km, kl) (pt, pm, pl) (nu, le, ow, fo, run, wc, lc, tr, cl, tm, ms) (yl, yc, yt, co, pa, su, sc) mc) ++ ((oa, .inl (cJ, 1, .inr (.inl yo))) :: (zWM cI cJ cZ h2 th (n, L) ((zcb kt pt), (zcb km pm), (zcb kl pl)) mc (run, wc, nu, lc, le, af, tr, ms, cl, tm) (co, yn, yh, pa))))) (hS : va_S (zAb s.heap.size) s.heap H locs) (hl : lv_has ls 9 [(0, .ref b), (1, .ref (h 0)), (2, .ref (h2 0)), (3, .ref oa), (4, .int (nI (4 * j)))]) : W p l e room_1 s m #[Value.ref b] below meth c H locs cc ss (lw_Z below #[Value.ref b] s) (F0 m 973 ls []) := by
  obtain ⟨C0, hls, hK, hE, hL9⟩ := C
  obtain ⟨hx, hb, hr, hml, hown, hts0, hX, hbl, hlocks, hgv⟩ := C0
  have hts : ∀ w ∈ wsL_law, w.before #[Value.ref b] s = true := fun w h => hts0 w (wsL_law_in w h)
  have hbA : ¬ zAb s.heap.size b := Nat.not_le.mpr hbl
  have hB : s.heap.size ≤ s.heap.size := Nat.le_refl _
  have hn40 := hI.1.1
  have hzk := hI.1.2
  obtain ⟨hwc6, hlc48, htrl, hclt, hms1⟩ := hI.2.1
  have hrt := hI.2.2.1
  have hle := hI.2.2.2.1
  have hMk := hI.2.2.2.2.1
  have hct := hI.2.2.2.2.2.1
  have hHi := hI.2.2.2.2.2.2.1
  have hsu := hI.2.2.2.2.2.2.2.2.1
  have hj5 : j ≤ 511 := by omega
  have hco : co < 256 := by have := hct.1; omega
  have hco6 : co ≤ 256 := Nat.le_of_lt hco
  have hsl : su < 2147483648 := by have := hsu.2.2; omega
  have hpt := hI.hpt (Nat.le_succ_of_le hj5)
  refine lv_aload_n hx hb dL_law_973 rfl (lv_at hl 1 rfl) ?_
  refine lv_aload_n hx hb dL_law_974 rfl (lv_at hl 0 rfl) ?_
  refine lv_iload hx hb dL_law_975 (lv_at hl 4 rfl) ?_
  refine lv_iconst (v := 1) hx hb dL_law_977 (by decide) ?_
  refine lv_iadd hx hb dL_law_978 ?_
  refine lv_topi (fun v_1 ev_1 => ?_)
  obtain rfl : v_1 = (nI ((4 * j) + 1)) := ev_1.trans (nI_add (4 * j) 1)
  refine va_sld hx hb hX hbl hbA hS (vp_in_nI (n := ((4 * j) + 1)) (N := L9) (by omega) (by omega)) dL_law_979 ?_
  refine lv_topi (fun v_2 ev_2 => ?_)
  obtain rfl : i = v_2 := (ev_2.trans ((congrArg xs (nI_clamp (by omega))).trans ea1)).symm
  refine lv_aload_n hx hb dL_law_980 rfl (lv_at hl 3 rfl) ?_
  refine zci (vx_runSW (As := [.ref (h 0), .int i, .ref oa]) (rest := []) ⟨hx, hb, hml, hown, hts⟩ (c_L_mistakes_x  hls (hi)) (vx_cwSW 3 hts gL_law_L_mistakes rfl rfl rfl hds_L_mistakes ⟨Nat.le_of_ble_eq_true rfl, Nat.le_of_ble_eq_true rfl⟩) (zS hP hD hK hE hB hS) rfl rfl hl.1 rfl (lv_room (Nat.le_of_ble_eq_true rfl)) dL_law_981 ⟨(show cc + 1 ≤ 601024 by omega), (show ss + 6 ≤ 7293034 by omega)⟩) hS (fun H locs hP hD hS => ?_)
  have hP : va_P D vwCl ((zWT cI cJ h (n, L) (kt, km, kl) (pt, pm, pl) (nu, le, ow, fo, run, wc, lc, tr, cl, tm, ms) (yl, yc, yt, co, pa, su, sc) mc) ++ ((oa, .inl (cJ, 1, .inr (.inl yo))) :: (zWM cI cJ cZ h2 th (n, L) ((zcb kt pt), (zcb km pm), (zcb kl pl)) mc (run, wc, nu, lc, le, af, tr, ms, cl, tm) (co, yn, yh, pa)))) H := hP
  have hD : va_D (zAb s.heap.size) ((zWT cI cJ h (n, L) (kt, km, kl) (pt, pm, pl) (nu, le, ow, fo, run, wc, lc, tr, cl, tm, ms) (yl, yc, yt, co, pa, su, sc) mc) ++ ((oa, .inl (cJ, 1, .inr (.inl yo))) :: (zWM cI cJ cZ h2 th (n, L) ((zcb kt pt), (zcb km pm), (zcb kl pl)) mc (run, wc, nu, lc, le, af, tr, ms, cl, tm) (co, yn, yh, pa)))) := hD
  refine lv_istore (lv' := [(5, .int 1), (0, .ref b), (1, .ref (h 0)), (2, .ref (h2 0)), (3, .ref oa), (4, .int (nI (4 * j)))]) hx hb dL_law_984 hl (by decide) rfl (fun ls hl => ?_)
  refine lv_aload_n hx hb dL_law_986 rfl (lv_at hl 3 rfl) ?_
  refine lv_aload_n hx hb dL_law_987 rfl (lv_at hl 1 rfl) ?_
  refine lv_iload hx hb dL_law_988 (lv_at hl 5 rfl) ?_
  refine lv_iconst (v := 1) hx hb dL_law_990 (by decide) ?_
  refine lv_iadd hx hb dL_law_991 ?_
  refine lv_topi (fun v_3 ev_3 => ?_)
  obtain rfl : v_3 = (nI ((4 * j) + 1)) := ev_3.trans (nI_add (4 * j) 1)
  refine va_sld hx hb hX hbl hbA hS (vp_in_nI (n := ((4 * j) + 1)) (N := L9) (by omega) (by omega)) dL_law_992 ?_
  refine lv_topi (fun v_4 ev_4 => ?_)
  obtain rfl : i = v_4 := (ev_4.trans ((congrArg xs (nI_clamp (by omega))).trans ea1)).symm
  have hP9 : va_P D vwCl ((zWM cI cJ cZ h2 th (n, L) ((zcb kt pt), (zcb km pm), (zcb kl pl)) mc (run, wc, nu, lc, le, af, tr, ms, cl, tm) (co, yn, yh, pa)) ++ ((zWT cI cJ h (n, L) (kt, km, kl) (pt, pm, pl) (nu, le, ow, fo, run, wc, lc, tr, cl, tm, ms) (yl, yc, yt, co, pa, su, sc) mc) ++ [(oa, .inl (cJ, 1, .inr (.inl yo)))])) H := zswapP (A := (zWT cI cJ h (n, L) (kt, km, kl) (pt, pm, pl) (nu, le, ow, fo, run, wc, lc, tr, cl, tm, ms) (yl, yc, yt, co, pa, su, sc) mc) ++ [(oa, .inl (cJ, 1, .inr (.inl yo)))]) (Bw := (zWM cI cJ cZ h2 th (n, L) ((zcb kt pt), (zcb km pm), (zcb kl pl)) mc (run, wc, nu, lc, le, af, tr, ms, cl, tm) (co, yn, yh, pa))) hP
  have hD9 : va_D (zAb s.heap.size) ((zWM cI cJ cZ h2 th (n, L) ((zcb kt pt), (zcb km pm), (zcb kl pl)) mc (run, wc, nu, lc, le, af, tr, ms, cl, tm) (co, yn, yh, pa)) ++ ((zWT cI cJ h (n, L) (kt, km, kl) (pt, pm, pl) (nu, le, ow, fo, run, wc, lc, tr, cl, tm, ms) (yl, yc, yt, co, pa, su, sc) mc) ++ [(oa, .inl (cJ, 1, .inr (.inl yo)))])) := zswapD (A := (zWT cI cJ h (n, L) (kt, km, kl) (pt, pm, pl) (nu, le, ow, fo, run, wc, lc, tr, cl, tm, ms) (yl, yc, yt, co, pa, su, sc) mc) ++ [(oa, .inl (cJ, 1, .inr (.inl yo)))]) (Bw := (zWM cI cJ cZ h2 th (n, L) ((zcb kt pt), (zcb km pm), (zcb kl pl)) mc (run, wc, nu, lc, le, af, tr, ms, cl, tm) (co, yn, yh, pa))) hD
  refine zci (zrV (As := [.int i]) (rest := []) ⟨hx, hb, hml, hown, hts⟩ (zV 0 hP9 hD9 hK hE hB hS rfl rfl) (c_X5_mistakes_x  (hi)) (cwV 1 hts gL_law_X5_mistakes rfl rfl rfl hdv_X5_mistakes ⟨Nat.le_of_ble_eq_true rfl, Nat.le_of_ble_eq_true rfl⟩) rfl rfl hl.1 rfl (lv_room (Nat.le_of_ble_eq_true rfl)) dL_law_993 ⟨(show cc + 1 + 0 ≤ 601024 by omega), (show ss + 6 + 0 ≤ 7293034 by omega)⟩) hS (fun H locs hP hD hS => ?_)
  have hP : va_P D vwCl ((zWT cI cJ h (n, L) (kt, km, kl) (pt, pm, pl) (nu, le, ow, fo, run, wc, lc, tr, cl, tm, ms) (yl, yc, yt, co, pa, su, sc) mc) ++ ((oa, .inl (cJ, 1, .inr (.inl yo))) :: (zWM cI cJ cZ h2 1 (n, L) ((zcb kt pt), (zcb km pm), (zcb kl pl)) mc (run, wc, nu, lc, le, af, tr, ms, cl, tm) (co, yn, yh, pa)))) H := zswapP (A := (zWM cI cJ cZ h2 1 (n, L) ((zcb kt pt), (zcb km pm), (zcb kl pl)) mc (run, wc, nu, lc, le, af, tr, ms, cl, tm) (co, yn, yh, pa))) (Bw := (zWT cI cJ h (n, L) (kt, km, kl) (pt, pm, pl) (nu, le, ow, fo, run, wc, lc, tr, cl, tm, ms) (yl, yc, yt, co, pa, su, sc) mc) ++ [(oa, .inl (cJ, 1, .inr (.inl yo)))]) hP
  have hD : va_D (zAb s.heap.size) ((zWT cI cJ h (n, L) (kt, km, kl) (pt, pm, pl) (nu, le, ow, fo, run, wc, lc, tr, cl, tm, ms) (yl, yc, yt, co, pa, su, sc) mc) ++ ((oa, .inl (cJ, 1, .inr (.inl yo))) :: (zWM cI cJ cZ h2 1 (n, L) ((zcb kt pt), (zcb km pm), (zcb kl pl)) mc (run, wc, nu, lc, le, af, tr, ms, cl, tm) (co, yn, yh, pa)))) := zswapD (A := (zWM cI cJ cZ h2 1 (n, L) ((zcb kt pt), (zcb km pm), (zcb kl pl)) mc (run, wc, nu, lc, le, af, tr, ms, cl, tm) (co, yn, yh, pa))) (Bw := (zWT cI cJ h (n, L) (kt, km, kl) (pt, pm, pl) (nu, le, ow, fo, run, wc, lc, tr, cl, tm, ms) (yl, yc, yt, co, pa, su, sc) mc) ++ [(oa, .inl (cJ, 1, .inr (.inl yo)))]) hD
  refine lv_istore (lv' := [(6, .int 0), (5, .int 1), (0, .ref b), (1, .ref (h 0)), (2, .ref (h2 0)), (3, .ref oa), (4, .int (nI (4 * j)))]) hx hb dL_law_996 hl (by decide) rfl (fun ls hl => ?_)
  refine lv_aload_n hx hb dL_law_998 rfl (lv_at hl 4 rfl) ?_
  have hP9 : va_P D vwCl ((zWM cI cJ cZ h2 1 (n, L) ((zcb kt pt), (zcb km pm), (zcb kl pl)) mc (run, wc, nu, lc, le, af, tr, ms, cl, tm) (co, yn, yh, pa)) ++ ((zWT cI cJ h (n, L) (kt, km, kl) (pt, pm, pl) (nu, le, ow, fo, run, wc, lc, tr, cl, tm, ms) (yl, yc, yt, co, pa, su, sc) mc) ++ [(oa, .inl (cJ, 1, .inr (.inl yo)))])) H := zswapP (A := (zWT cI cJ h (n, L) (kt, km, kl) (pt, pm, pl) (nu, le, ow, fo, run, wc, lc, tr, cl, tm, ms) (yl, yc, yt, co, pa, su, sc) mc) ++ [(oa, .inl (cJ, 1, .inr (.inl yo)))]) (Bw := (zWM cI cJ cZ h2 1 (n, L) ((zcb kt pt), (zcb km pm), (zcb kl pl)) mc (run, wc, nu, lc, le, af, tr, ms, cl, tm) (co, yn, yh, pa))) hP
  have hD9 : va_D (zAb s.heap.size) ((zWM cI cJ cZ h2 1 (n, L) ((zcb kt pt), (zcb km pm), (zcb kl pl)) mc (run, wc, nu, lc, le, af, tr, ms, cl, tm) (co, yn, yh, pa)) ++ ((zWT cI cJ h (n, L) (kt, km, kl) (pt, pm, pl) (nu, le, ow, fo, run, wc, lc, tr, cl, tm, ms) (yl, yc, yt, co, pa, su, sc) mc) ++ [(oa, .inl (cJ, 1, .inr (.inl yo)))])) := zswapD (A := (zWT cI cJ h (n, L) (kt, km, kl) (pt, pm, pl) (nu, le, ow, fo, run, wc, lc, tr, cl, tm, ms) (yl, yc, yt, co, pa, su, sc) mc) ++ [(oa, .inl (cJ, 1, .inr (.inl yo)))]) (Bw := (zWM cI cJ cZ h2 1 (n, L) ((zcb kt pt), (zcb km pm), (zcb kl pl)) mc (run, wc, nu, lc, le, af, tr, ms, cl, tm) (co, yn, yh, pa))) hD
  refine zci (zrV (As := []) (rest := []) ⟨hx, hb, hml, hown, hts⟩ (zV 0 hP9 hD9 hK hE hB hS rfl rfl) (c_X5_thrown  ) (cwV 0 hts gL_law_X5_thrown rfl rfl rfl hdv_X5_thrown ⟨Nat.le_of_ble_eq_true rfl, Nat.le_of_ble_eq_true rfl⟩) rfl rfl hl.1 rfl (lv_room (Nat.le_of_ble_eq_true rfl)) dL_law_999 ⟨(show cc + 1 + 0 + 0 ≤ 601024 by omega), (show ss + 6 + 0 + 0 ≤ 7293034 by omega)⟩) hS (fun H locs hP hD hS => ?_)
  have hP : va_P D vwCl ((zWT cI cJ h (n, L) (kt, km, kl) (pt, pm, pl) (nu, le, ow, fo, run, wc, lc, tr, cl, tm, ms) (yl, yc, yt, co, pa, su, sc) mc) ++ ((oa, .inl (cJ, 1, .inr (.inl yo))) :: (zWM cI cJ cZ h2 1 (n, L) ((zcb kt pt), (zcb km pm), (zcb kl pl)) mc (run, wc, nu, lc, le, af, tr, ms, cl, tm) (co, yn, yh, pa)))) H := zswapP (A := (zWM cI cJ cZ h2 1 (n, L) ((zcb kt pt), (zcb km pm), (zcb kl pl)) mc (run, wc, nu, lc, le, af, tr, ms, cl, tm) (co, yn, yh, pa))) (Bw := (zWT cI cJ h (n, L) (kt, km, kl) (pt, pm, pl) (nu, le, ow, fo, run, wc, lc, tr, cl, tm, ms) (yl, yc, yt, co, pa, su, sc) mc) ++ [(oa, .inl (cJ, 1, .inr (.inl yo)))]) hP
  have hD : va_D (zAb s.heap.size) ((zWT cI cJ h (n, L) (kt, km, kl) (pt, pm, pl) (nu, le, ow, fo, run, wc, lc, tr, cl, tm, ms) (yl, yc, yt, co, pa, su, sc) mc) ++ ((oa, .inl (cJ, 1, .inr (.inl yo))) :: (zWM cI cJ cZ h2 1 (n, L) ((zcb kt pt), (zcb km pm), (zcb kl pl)) mc (run, wc, nu, lc, le, af, tr, ms, cl, tm) (co, yn, yh, pa)))) := zswapD (A := (zWM cI cJ cZ h2 1 (n, L) ((zcb kt pt), (zcb km pm), (zcb kl pl)) mc (run, wc, nu, lc, le, af, tr, ms, cl, tm) (co, yn, yh, pa))) (Bw := (zWT cI cJ h (n, L) (kt, km, kl) (pt, pm, pl) (nu, le, ow, fo, run, wc, lc, tr, cl, tm, ms) (yl, yc, yt, co, pa, su, sc) mc) ++ [(oa, .inl (cJ, 1, .inr (.inl yo)))]) hD
  refine lv_iload hx hb dL_law_1002 (lv_at hl 1 rfl) ?_
  refine lv_icmp_eq (tgt := 1009) hx hb dL_law_1004 (by decide) (fun c_5 => ?_) (fun c_5 => ?_)
  · skip
    refine lv_iload hx hb dL_law_1009 (lv_at hl 1 rfl) ?_
    refine lv_if_ne (tgt := 1026) hx hb dL_law_1011 (by decide) (fun c_6 => ?_) (fun c_6 => ?_)
    · skip
      refine lv_goto (tgt := 1191) hx hb dL_law_1026 (by decide) ?_
      refine W.widen (k := cc + 2) (n := ss + 1542) (show cc + 1 + 0 + 0 ≤ cc + 2 by omega) (show ss + 6 + 0 + 0 ≤ ss + 1542 by omega) ?_
      exact kont h h2 oa yo 1 n L kt km kl pt pm pl nu le ow fo run wc lc tr cl tm ms yl yc yt co pa su sc mc af yn yh (hI.mono) _ _ _ hP hD hS (lv_sub hl [2, 3, 4, 5, 6] rfl)
    · skip
      exfalso; first | omega | (revert c_6; decide) | (exact absurd rfl c_6) | simp_all
  · skip
    exfalso; first | omega | (revert c_5; decide) | (exact absurd rfl c_5) | simp_all

set_option maxHeartbeats 1000000 in
set_option maxRecDepth 100000 in
theorem law_lessons {p : Program} {l : Launch} {e : Env} {s : State} {m : MethodId} {below : List Frame} {meth : Method} {c : Code} {b L9 : Nat} {xs : Nat → Int32} {D : va_G} {cI cJ cZ : ClassId} {kr kp j cc ss : Nat} {h h2 : Nat → Nat} {oa : Nat} {yo : Nat → Int64} {th : Int32} {n : Nat} {L : Nat → Int64} {kt : Nat → Int32} {km : Nat → Int32} {kl : Nat → Int32} {pt : Nat → Int32} {pm : Nat → Int32} {pl : Nat → Int32} {nu : Nat → Int32} {le : Nat → Int32} {ow : Nat → Int32} {fo : Nat → Int32} {run : Bool} {wc : Nat} {lc : Nat} {tr : Nat} {cl : Nat} {tm : Nat} {ms : Nat} {yl : Nat → Int32} {yc : Nat → Int32} {yt : Nat → Int32} {co : Nat} {pa : Int32} {su : Nat} {sc : Nat} {mc : Nat → Int32} {af : Nat → Int32} {yn : Nat} {yh : Nat → Int32}  (C : zLw p l s m meth c b L9 xs D cI cJ cZ kr kp) (hj : 4 * j + 4 ≤ L9) (hcc : cc + 2 ≤ 601024) (hss : ss + 1542 ≤ 7293034) (kont : zKt p l e s m below meth c b D cI cJ cZ j cc ss) (hI : zInv j n L pt le ow af run wc lc tr cl tm ms yl yc yt co yn su sc yh)  {H : Heap} {locs : List Loc} {ls : Array Slot} (hP : va_P D vwCl ((zWT cI cJ h (n, L) (kt, km, kl) (pt, pm, pl) (nu, le, ow, fo, run, wc, lc, tr, cl, tm, ms) (yl, yc, yt, co, pa, su, sc) mc) ++ ((oa, .inl (cJ, 1, .inr (.inl yo))) :: (zWM cI cJ cZ h2 th (n, L) ((zcb kt pt), (zcb km pm), (zcb kl pl)) mc (run, wc, nu, lc, le, af, tr, ms, cl, tm) (co, yn, yh, pa)))) H) (hD : va_D (zAb s.heap.size) ((zWT cI cJ h (n, L) (kt, km, kl) (pt, pm, pl) (nu, le, ow, fo, run, wc, lc, tr, cl, tm, ms) (yl, yc, yt, co, pa, su, sc) mc) ++ ((oa, .inl (cJ, 1, .inr (.inl yo))) :: (zWM cI cJ cZ h2 th (n, L) ((zcb kt pt), (zcb km pm), (zcb kl pl)) mc (run, wc, nu, lc, le, af, tr, ms, cl, tm) (co, yn, yh, pa))))) (hS : va_S (zAb s.heap.size) s.heap H locs) (hl : lv_has ls 9 [(0, .ref b), (1, .ref (h 0)), (2, .ref (h2 0)), (3, .ref oa), (4, .int (nI (4 * j)))]) : W p l e room_1 s m #[Value.ref b] below meth c H locs cc ss (lw_Z below #[Value.ref b] s) (F0 m 1029 ls []) := by
  obtain ⟨C0, hls, hK, hE, hL9⟩ := C
  obtain ⟨hx, hb, hr, hml, hown, hts0, hX, hbl, hlocks, hgv⟩ := C0
  have hts : ∀ w ∈ wsL_law, w.before #[Value.ref b] s = true := fun w h => hts0 w (wsL_law_in w h)
  have hbA : ¬ zAb s.heap.size b := Nat.not_le.mpr hbl
  have hB : s.heap.size ≤ s.heap.size := Nat.le_refl _
  have hn40 := hI.1.1
  have hzk := hI.1.2
  obtain ⟨hwc6, hlc48, htrl, hclt, hms1⟩ := hI.2.1
  have hrt := hI.2.2.1
  have hle := hI.2.2.2.1
  have hMk := hI.2.2.2.2.1
  have hct := hI.2.2.2.2.2.1
  have hHi := hI.2.2.2.2.2.2.1
  have hsu := hI.2.2.2.2.2.2.2.2.1
  have hj5 : j ≤ 511 := by omega
  have hco : co < 256 := by have := hct.1; omega
  have hco6 : co ≤ 256 := Nat.le_of_lt hco
  have hsl : su < 2147483648 := by have := hsu.2.2; omega
  have hpt := hI.hpt (Nat.le_succ_of_le hj5)
  refine lv_aload_n hx hb dL_law_1029 rfl (lv_at hl 1 rfl) ?_
  refine zci (zrV (As := []) (rest := []) ⟨hx, hb, hml, hown, hts⟩ (zV 0 hP hD hK hE hB hS rfl rfl) (c_X4_lessons  ) (cwV 0 hts gL_law_X4_lessons rfl rfl rfl hdv_X4_lessons ⟨Nat.le_of_ble_eq_true rfl, Nat.le_of_ble_eq_true rfl⟩) rfl rfl hl.1 rfl (lv_room (Nat.le_of_ble_eq_true rfl)) dL_law_1030 ⟨(show cc + 0 ≤ 601024 by omega), (show ss + 0 ≤ 7293034 by omega)⟩) hS (fun H locs hP hD hS => ?_)
  have hP : va_P D vwCl ((zWT cI cJ h (n, L) (kt, km, kl) (pt, pm, pl) (nu, le, ow, fo, run, wc, lc, tr, cl, tm, ms) (yl, yc, yt, co, pa, su, sc) mc) ++ ((oa, .inl (cJ, 1, .inr (.inl yo))) :: (zWM cI cJ cZ h2 th (n, L) ((zcb kt pt), (zcb km pm), (zcb kl pl)) mc (run, wc, nu, lc, le, af, tr, ms, cl, tm) (co, yn, yh, pa)))) H := hP
  have hD : va_D (zAb s.heap.size) ((zWT cI cJ h (n, L) (kt, km, kl) (pt, pm, pl) (nu, le, ow, fo, run, wc, lc, tr, cl, tm, ms) (yl, yc, yt, co, pa, su, sc) mc) ++ ((oa, .inl (cJ, 1, .inr (.inl yo))) :: (zWM cI cJ cZ h2 th (n, L) ((zcb kt pt), (zcb km pm), (zcb kl pl)) mc (run, wc, nu, lc, le, af, tr, ms, cl, tm) (co, yn, yh, pa)))) := hD
  refine lv_aload_n hx hb dL_law_1033 rfl (lv_at hl 2 rfl) ?_
  have hP9 : va_P D vwCl ((zWM cI cJ cZ h2 th (n, L) ((zcb kt pt), (zcb km pm), (zcb kl pl)) mc (run, wc, nu, lc, le, af, tr, ms, cl, tm) (co, yn, yh, pa)) ++ ((zWT cI cJ h (n, L) (kt, km, kl) (pt, pm, pl) (nu, le, ow, fo, run, wc, lc, tr, cl, tm, ms) (yl, yc, yt, co, pa, su, sc) mc) ++ [(oa, .inl (cJ, 1, .inr (.inl yo)))])) H := zswapP (A := (zWT cI cJ h (n, L) (kt, km, kl) (pt, pm, pl) (nu, le, ow, fo, run, wc, lc, tr, cl, tm, ms) (yl, yc, yt, co, pa, su, sc) mc) ++ [(oa, .inl (cJ, 1, .inr (.inl yo)))]) (Bw := (zWM cI cJ cZ h2 th (n, L) ((zcb kt pt), (zcb km pm), (zcb kl pl)) mc (run, wc, nu, lc, le, af, tr, ms, cl, tm) (co, yn, yh, pa))) hP
  have hD9 : va_D (zAb s.heap.size) ((zWM cI cJ cZ h2 th (n, L) ((zcb kt pt), (zcb km pm), (zcb kl pl)) mc (run, wc, nu, lc, le, af, tr, ms, cl, tm) (co, yn, yh, pa)) ++ ((zWT cI cJ h (n, L) (kt, km, kl) (pt, pm, pl) (nu, le, ow, fo, run, wc, lc, tr, cl, tm, ms) (yl, yc, yt, co, pa, su, sc) mc) ++ [(oa, .inl (cJ, 1, .inr (.inl yo)))])) := zswapD (A := (zWT cI cJ h (n, L) (kt, km, kl) (pt, pm, pl) (nu, le, ow, fo, run, wc, lc, tr, cl, tm, ms) (yl, yc, yt, co, pa, su, sc) mc) ++ [(oa, .inl (cJ, 1, .inr (.inl yo)))]) (Bw := (zWM cI cJ cZ h2 th (n, L) ((zcb kt pt), (zcb km pm), (zcb kl pl)) mc (run, wc, nu, lc, le, af, tr, ms, cl, tm) (co, yn, yh, pa))) hD
  refine zci (zrV (As := []) (rest := [.int (nI co)]) ⟨hx, hb, hml, hown, hts⟩ (zV 0 hP9 hD9 hK hE hB hS rfl rfl) (c_X5_lessons  ) (cwV 0 hts gL_law_X5_lessons rfl rfl rfl hdv_X5_lessons ⟨Nat.le_of_ble_eq_true rfl, Nat.le_of_ble_eq_true rfl⟩) rfl rfl hl.1 rfl (lv_room (Nat.le_of_ble_eq_true rfl)) dL_law_1034 ⟨(show cc + 0 + 0 ≤ 601024 by omega), (show ss + 0 + 0 ≤ 7293034 by omega)⟩) hS (fun H locs hP hD hS => ?_)
  have hP : va_P D vwCl ((zWT cI cJ h (n, L) (kt, km, kl) (pt, pm, pl) (nu, le, ow, fo, run, wc, lc, tr, cl, tm, ms) (yl, yc, yt, co, pa, su, sc) mc) ++ ((oa, .inl (cJ, 1, .inr (.inl yo))) :: (zWM cI cJ cZ h2 0 (n, L) ((zcb kt pt), (zcb km pm), (zcb kl pl)) mc (run, wc, nu, lc, le, af, tr, ms, cl, tm) (co, yn, yh, pa)))) H := zswapP (A := (zWM cI cJ cZ h2 0 (n, L) ((zcb kt pt), (zcb km pm), (zcb kl pl)) mc (run, wc, nu, lc, le, af, tr, ms, cl, tm) (co, yn, yh, pa))) (Bw := (zWT cI cJ h (n, L) (kt, km, kl) (pt, pm, pl) (nu, le, ow, fo, run, wc, lc, tr, cl, tm, ms) (yl, yc, yt, co, pa, su, sc) mc) ++ [(oa, .inl (cJ, 1, .inr (.inl yo)))]) hP
  have hD : va_D (zAb s.heap.size) ((zWT cI cJ h (n, L) (kt, km, kl) (pt, pm, pl) (nu, le, ow, fo, run, wc, lc, tr, cl, tm, ms) (yl, yc, yt, co, pa, su, sc) mc) ++ ((oa, .inl (cJ, 1, .inr (.inl yo))) :: (zWM cI cJ cZ h2 0 (n, L) ((zcb kt pt), (zcb km pm), (zcb kl pl)) mc (run, wc, nu, lc, le, af, tr, ms, cl, tm) (co, yn, yh, pa)))) := zswapD (A := (zWM cI cJ cZ h2 0 (n, L) ((zcb kt pt), (zcb km pm), (zcb kl pl)) mc (run, wc, nu, lc, le, af, tr, ms, cl, tm) (co, yn, yh, pa))) (Bw := (zWT cI cJ h (n, L) (kt, km, kl) (pt, pm, pl) (nu, le, ow, fo, run, wc, lc, tr, cl, tm, ms) (yl, yc, yt, co, pa, su, sc) mc) ++ [(oa, .inl (cJ, 1, .inr (.inl yo)))]) hD
  refine lv_icmp_eq (tgt := 1191) hx hb dL_law_1037 (by decide) (fun c_1 => ?_) (fun c_1 => ?_)
  · skip
    refine W.widen (k := cc + 2) (n := ss + 1542) (show cc + 0 + 0 ≤ cc + 2 by omega) (show ss + 0 + 0 ≤ ss + 1542 by omega) ?_
    exact kont h h2 oa yo 0 n L kt km kl pt pm pl nu le ow fo run wc lc tr cl tm ms yl yc yt co pa su sc mc af yn yh (hI.mono) _ _ _ hP hD hS (lv_sub hl [0, 1, 2, 3, 4] rfl)
  · skip
    exact absurd rfl c_1

set_option maxHeartbeats 1000000 in
set_option maxRecDepth 100000 in
theorem law_lesson_0 {p : Program} {l : Launch} {e : Env} {s : State} {m : MethodId} {below : List Frame} {meth : Method} {c : Code} {b L9 : Nat} {xs : Nat → Int32} {D : va_G} {cI cJ cZ : ClassId} {kr kp j cc ss : Nat} {h h2 : Nat → Nat} {oa : Nat} {yo : Nat → Int64} {th : Int32} {n : Nat} {L : Nat → Int64} {kt : Nat → Int32} {km : Nat → Int32} {kl : Nat → Int32} {pt : Nat → Int32} {pm : Nat → Int32} {pl : Nat → Int32} {nu : Nat → Int32} {le : Nat → Int32} {ow : Nat → Int32} {fo : Nat → Int32} {run : Bool} {wc : Nat} {lc : Nat} {tr : Nat} {cl : Nat} {tm : Nat} {ms : Nat} {yl : Nat → Int32} {yc : Nat → Int32} {yt : Nat → Int32} {co : Nat} {pa : Int32} {su : Nat} {sc : Nat} {mc : Nat → Int32} {af : Nat → Int32} {yn : Nat} {yh : Nat → Int32} {k : Nat} (C : zLw p l s m meth c b L9 xs D cI cJ cZ kr kp) (hj : 4 * j + 4 ≤ L9) (hcc : cc + 2 ≤ 601024) (hss : ss + 1542 ≤ 7293034) (kont : zKt p l e s m below meth c b D cI cJ cZ j cc ss) (hI : zInv j n L pt le ow af run wc lc tr cl tm ms yl yc yt co yn su sc yh) (ea1 : xs (4 * j + 1) = nI k) (ea2 : xs (4 * j + 2) = 0) (hk : k < co) {H : Heap} {locs : List Loc} {ls : Array Slot} (hP : va_P D vwCl ((zWT cI cJ h (n, L) (kt, km, kl) (pt, pm, pl) (nu, le, ow, fo, run, wc, lc, tr, cl, tm, ms) (yl, yc, yt, co, pa, su, sc) mc) ++ ((oa, .inl (cJ, 1, .inr (.inl yo))) :: (zWM cI cJ cZ h2 th (n, L) ((zcb kt pt), (zcb km pm), (zcb kl pl)) mc (run, wc, nu, lc, le, af, tr, ms, cl, tm) (co, yn, yh, pa)))) H) (hD : va_D (zAb s.heap.size) ((zWT cI cJ h (n, L) (kt, km, kl) (pt, pm, pl) (nu, le, ow, fo, run, wc, lc, tr, cl, tm, ms) (yl, yc, yt, co, pa, su, sc) mc) ++ ((oa, .inl (cJ, 1, .inr (.inl yo))) :: (zWM cI cJ cZ h2 th (n, L) ((zcb kt pt), (zcb km pm), (zcb kl pl)) mc (run, wc, nu, lc, le, af, tr, ms, cl, tm) (co, yn, yh, pa))))) (hS : va_S (zAb s.heap.size) s.heap H locs) (hl : lv_has ls 9 [(0, .ref b), (1, .ref (h 0)), (2, .ref (h2 0)), (3, .ref oa), (4, .int (nI (4 * j)))]) : W p l e room_1 s m #[Value.ref b] below meth c H locs cc ss (lw_Z below #[Value.ref b] s) (F0 m 1042 ls []) := by
  obtain ⟨C0, hls, hK, hE, hL9⟩ := C
  obtain ⟨hx, hb, hr, hml, hown, hts0, hX, hbl, hlocks, hgv⟩ := C0
  have hts : ∀ w ∈ wsL_law, w.before #[Value.ref b] s = true := fun w h => hts0 w (wsL_law_in w h)
  have hbA : ¬ zAb s.heap.size b := Nat.not_le.mpr hbl
  have hB : s.heap.size ≤ s.heap.size := Nat.le_refl _
  have hn40 := hI.1.1
  have hzk := hI.1.2
  obtain ⟨hwc6, hlc48, htrl, hclt, hms1⟩ := hI.2.1
  have hrt := hI.2.2.1
  have hle := hI.2.2.2.1
  have hMk := hI.2.2.2.2.1
  have hct := hI.2.2.2.2.2.1
  have hHi := hI.2.2.2.2.2.2.1
  have hsu := hI.2.2.2.2.2.2.2.2.1
  have hj5 : j ≤ 511 := by omega
  have hco : co < 256 := by have := hct.1; omega
  have hco6 : co ≤ 256 := Nat.le_of_lt hco
  have hsl : su < 2147483648 := by have := hsu.2.2; omega
  have hpt := hI.hpt (Nat.le_succ_of_le hj5)
  refine lv_aload_n hx hb dL_law_1042 rfl (lv_at hl 1 rfl) ?_
  refine lv_aload_n hx hb dL_law_1043 rfl (lv_at hl 0 rfl) ?_
  refine lv_iload hx hb dL_law_1044 (lv_at hl 4 rfl) ?_
  refine lv_iconst (v := 1) hx hb dL_law_1046 (by decide) ?_
  refine lv_iadd hx hb dL_law_1047 ?_
  refine lv_topi (fun v_1 ev_1 => ?_)
  obtain rfl : v_1 = (nI ((4 * j) + 1)) := ev_1.trans (nI_add (4 * j) 1)
  refine va_sld hx hb hX hbl hbA hS (vp_in_nI (n := ((4 * j) + 1)) (N := L9) (by omega) (by omega)) dL_law_1048 ?_
  refine lv_topi (fun v_2 ev_2 => ?_)
  obtain rfl : (nI k) = v_2 := (ev_2.trans ((congrArg xs (nI_clamp (by omega))).trans ea1)).symm
  refine lv_aload_n hx hb dL_law_1049 rfl (lv_at hl 0 rfl) ?_
  refine lv_iload hx hb dL_law_1050 (lv_at hl 4 rfl) ?_
  refine lv_iconst (v := 2) hx hb dL_law_1052 (by decide) ?_
  refine lv_iadd hx hb dL_law_1053 ?_
  refine lv_topi (fun v_3 ev_3 => ?_)
  obtain rfl : v_3 = (nI ((4 * j) + 2)) := ev_3.trans (nI_add (4 * j) 2)
  refine va_sld hx hb hX hbl hbA hS (vp_in_nI (n := ((4 * j) + 2)) (N := L9) (by omega) (by omega)) dL_law_1054 ?_
  refine lv_topi (fun v_4 ev_4 => ?_)
  obtain rfl : 0 = v_4 := (ev_4.trans ((congrArg xs (nI_clamp (by omega))).trans ea2)).symm
  refine lv_aload_n hx hb dL_law_1055 rfl (lv_at hl 3 rfl) ?_
  refine zci (vx_runSW (As := [.ref (h 0), .int (nI k), .int 0, .ref oa]) (rest := []) ⟨hx, hb, hml, hown, hts⟩ (c_L_lesson_0 (k := k) (hk) (hco6)) (vx_cwSW 4 hts gL_law_L_lesson rfl rfl rfl hds_L_lesson ⟨Nat.le_of_ble_eq_true rfl, Nat.le_of_ble_eq_true rfl⟩) (zS hP hD hK hE hB hS) rfl rfl hl.1 rfl (lv_room (Nat.le_of_ble_eq_true rfl)) dL_law_1056 ⟨(show cc + 0 ≤ 601024 by omega), (show ss + 0 ≤ 7293034 by omega)⟩) hS (fun H locs hP hD hS => ?_)
  have hP : va_P D vwCl ((zWT cI cJ h (n, L) (kt, km, kl) (pt, pm, pl) (nu, le, ow, fo, run, wc, lc, tr, cl, tm, ms) (yl, yc, yt, co, pa, su, sc) mc) ++ ((oa, .inl (cJ, 1, .inr (.inl (vp_updL yo 0 (((yl k)).toInt64))))) :: (zWM cI cJ cZ h2 th (n, L) ((zcb kt pt), (zcb km pm), (zcb kl pl)) mc (run, wc, nu, lc, le, af, tr, ms, cl, tm) (co, yn, yh, pa)))) H := hP
  have hD : va_D (zAb s.heap.size) ((zWT cI cJ h (n, L) (kt, km, kl) (pt, pm, pl) (nu, le, ow, fo, run, wc, lc, tr, cl, tm, ms) (yl, yc, yt, co, pa, su, sc) mc) ++ ((oa, .inl (cJ, 1, .inr (.inl (vp_updL yo 0 (((yl k)).toInt64))))) :: (zWM cI cJ cZ h2 th (n, L) ((zcb kt pt), (zcb km pm), (zcb kl pl)) mc (run, wc, nu, lc, le, af, tr, ms, cl, tm) (co, yn, yh, pa)))) := hD
  refine lv_istore (lv' := [(5, .int 0), (0, .ref b), (1, .ref (h 0)), (2, .ref (h2 0)), (3, .ref oa), (4, .int (nI (4 * j)))]) hx hb dL_law_1059 hl (by decide) rfl (fun ls hl => ?_)
  refine lv_aload_n hx hb dL_law_1061 rfl (lv_at hl 3 rfl) ?_
  refine lv_aload_n hx hb dL_law_1062 rfl (lv_at hl 1 rfl) ?_
  refine lv_iload hx hb dL_law_1063 (lv_at hl 5 rfl) ?_
  refine lv_iconst (v := 1) hx hb dL_law_1065 (by decide) ?_
  refine lv_iadd hx hb dL_law_1066 ?_
  refine lv_topi (fun v_5 ev_5 => ?_)
  obtain rfl : v_5 = (nI ((4 * j) + 1)) := ev_5.trans (nI_add (4 * j) 1)
  refine va_sld hx hb hX hbl hbA hS (vp_in_nI (n := ((4 * j) + 1)) (N := L9) (by omega) (by omega)) dL_law_1067 ?_
  refine lv_topi (fun v_6 ev_6 => ?_)
  obtain rfl : (nI k) = v_6 := (ev_6.trans ((congrArg xs (nI_clamp (by omega))).trans ea1)).symm
  refine lv_aload_n hx hb dL_law_1068 rfl (lv_at hl 1 rfl) ?_
  refine lv_iload hx hb dL_law_1069 (lv_at hl 5 rfl) ?_
  refine lv_iconst (v := 2) hx hb dL_law_1071 (by decide) ?_
  refine lv_iadd hx hb dL_law_1072 ?_
  refine lv_topi (fun v_7 ev_7 => ?_)
  obtain rfl : v_7 = (nI ((4 * j) + 2)) := ev_7.trans (nI_add (4 * j) 2)
  refine va_sld hx hb hX hbl hbA hS (vp_in_nI (n := ((4 * j) + 2)) (N := L9) (by omega) (by omega)) dL_law_1073 ?_
  refine lv_topi (fun v_8 ev_8 => ?_)
  obtain rfl : 0 = v_8 := (ev_8.trans ((congrArg xs (nI_clamp (by omega))).trans ea2)).symm
  have hP9 : va_P D vwCl ((zWM cI cJ cZ h2 th (n, L) ((zcb kt pt), (zcb km pm), (zcb kl pl)) mc (run, wc, nu, lc, le, af, tr, ms, cl, tm) (co, yn, yh, pa)) ++ ((zWT cI cJ h (n, L) (kt, km, kl) (pt, pm, pl) (nu, le, ow, fo, run, wc, lc, tr, cl, tm, ms) (yl, yc, yt, co, pa, su, sc) mc) ++ [(oa, .inl (cJ, 1, .inr (.inl (vp_updL yo 0 (((yl k)).toInt64)))))])) H := zswapP (A := (zWT cI cJ h (n, L) (kt, km, kl) (pt, pm, pl) (nu, le, ow, fo, run, wc, lc, tr, cl, tm, ms) (yl, yc, yt, co, pa, su, sc) mc) ++ [(oa, .inl (cJ, 1, .inr (.inl (vp_updL yo 0 (((yl k)).toInt64)))))]) (Bw := (zWM cI cJ cZ h2 th (n, L) ((zcb kt pt), (zcb km pm), (zcb kl pl)) mc (run, wc, nu, lc, le, af, tr, ms, cl, tm) (co, yn, yh, pa))) hP
  have hD9 : va_D (zAb s.heap.size) ((zWM cI cJ cZ h2 th (n, L) ((zcb kt pt), (zcb km pm), (zcb kl pl)) mc (run, wc, nu, lc, le, af, tr, ms, cl, tm) (co, yn, yh, pa)) ++ ((zWT cI cJ h (n, L) (kt, km, kl) (pt, pm, pl) (nu, le, ow, fo, run, wc, lc, tr, cl, tm, ms) (yl, yc, yt, co, pa, su, sc) mc) ++ [(oa, .inl (cJ, 1, .inr (.inl (vp_updL yo 0 (((yl k)).toInt64)))))])) := zswapD (A := (zWT cI cJ h (n, L) (kt, km, kl) (pt, pm, pl) (nu, le, ow, fo, run, wc, lc, tr, cl, tm, ms) (yl, yc, yt, co, pa, su, sc) mc) ++ [(oa, .inl (cJ, 1, .inr (.inl (vp_updL yo 0 (((yl k)).toInt64)))))]) (Bw := (zWM cI cJ cZ h2 th (n, L) ((zcb kt pt), (zcb km pm), (zcb kl pl)) mc (run, wc, nu, lc, le, af, tr, ms, cl, tm) (co, yn, yh, pa))) hD
  refine zci (zrV (As := [.int (nI k), .int 0]) (rest := []) ⟨hx, hb, hml, hown, hts⟩ (zV 0 hP9 hD9 hK hE hB hS rfl rfl) (c_X5_lesson_0 (k := k) (yl := yl) (yc := yc) (yt := yt) (hHi.1) (hk) (hHi.2.1) (hHi.2.2.1)) (cwV 2 hts gL_law_X5_lesson rfl rfl rfl hdv_X5_lesson ⟨Nat.le_of_ble_eq_true rfl, Nat.le_of_ble_eq_true rfl⟩) rfl rfl hl.1 rfl (lv_room (Nat.le_of_ble_eq_true rfl)) dL_law_1074 ⟨(show cc + 0 + 0 ≤ 601024 by omega), (show ss + 0 + 0 ≤ 7293034 by omega)⟩) hS (fun H locs hP hD hS => ?_)
  have hP : va_P D vwCl ((zWT cI cJ h (n, L) (kt, km, kl) (pt, pm, pl) (nu, le, ow, fo, run, wc, lc, tr, cl, tm, ms) (yl, yc, yt, co, pa, su, sc) mc) ++ ((oa, .inl (cJ, 1, .inr (.inl (vp_updL yo 0 (((yl k)).toInt64))))) :: (zWM cI cJ cZ h2 0 (n, L) ((zcb kt pt), (zcb km pm), (zcb kl pl)) mc (run, wc, nu, lc, le, af, tr, ms, cl, tm) (co, yn, yh, pa)))) H := zswapP (A := (zWM cI cJ cZ h2 0 (n, L) ((zcb kt pt), (zcb km pm), (zcb kl pl)) mc (run, wc, nu, lc, le, af, tr, ms, cl, tm) (co, yn, yh, pa))) (Bw := (zWT cI cJ h (n, L) (kt, km, kl) (pt, pm, pl) (nu, le, ow, fo, run, wc, lc, tr, cl, tm, ms) (yl, yc, yt, co, pa, su, sc) mc) ++ [(oa, .inl (cJ, 1, .inr (.inl (vp_updL yo 0 (((yl k)).toInt64)))))]) hP
  have hD : va_D (zAb s.heap.size) ((zWT cI cJ h (n, L) (kt, km, kl) (pt, pm, pl) (nu, le, ow, fo, run, wc, lc, tr, cl, tm, ms) (yl, yc, yt, co, pa, su, sc) mc) ++ ((oa, .inl (cJ, 1, .inr (.inl (vp_updL yo 0 (((yl k)).toInt64))))) :: (zWM cI cJ cZ h2 0 (n, L) ((zcb kt pt), (zcb km pm), (zcb kl pl)) mc (run, wc, nu, lc, le, af, tr, ms, cl, tm) (co, yn, yh, pa)))) := zswapD (A := (zWM cI cJ cZ h2 0 (n, L) ((zcb kt pt), (zcb km pm), (zcb kl pl)) mc (run, wc, nu, lc, le, af, tr, ms, cl, tm) (co, yn, yh, pa))) (Bw := (zWT cI cJ h (n, L) (kt, km, kl) (pt, pm, pl) (nu, le, ow, fo, run, wc, lc, tr, cl, tm, ms) (yl, yc, yt, co, pa, su, sc) mc) ++ [(oa, .inl (cJ, 1, .inr (.inl (vp_updL yo 0 (((yl k)).toInt64)))))]) hD
  refine lv_istore (lv' := [(6, .int (yl k)), (5, .int 0), (0, .ref b), (1, .ref (h 0)), (2, .ref (h2 0)), (3, .ref oa), (4, .int (nI (4 * j)))]) hx hb dL_law_1077 hl (by decide) rfl (fun ls hl => ?_)
  refine lv_aload_n hx hb dL_law_1079 rfl (lv_at hl 4 rfl) ?_
  have hP9 : va_P D vwCl ((zWM cI cJ cZ h2 0 (n, L) ((zcb kt pt), (zcb km pm), (zcb kl pl)) mc (run, wc, nu, lc, le, af, tr, ms, cl, tm) (co, yn, yh, pa)) ++ ((zWT cI cJ h (n, L) (kt, km, kl) (pt, pm, pl) (nu, le, ow, fo, run, wc, lc, tr, cl, tm, ms) (yl, yc, yt, co, pa, su, sc) mc) ++ [(oa, .inl (cJ, 1, .inr (.inl (vp_updL yo 0 (((yl k)).toInt64)))))])) H := zswapP (A := (zWT cI cJ h (n, L) (kt, km, kl) (pt, pm, pl) (nu, le, ow, fo, run, wc, lc, tr, cl, tm, ms) (yl, yc, yt, co, pa, su, sc) mc) ++ [(oa, .inl (cJ, 1, .inr (.inl (vp_updL yo 0 (((yl k)).toInt64)))))]) (Bw := (zWM cI cJ cZ h2 0 (n, L) ((zcb kt pt), (zcb km pm), (zcb kl pl)) mc (run, wc, nu, lc, le, af, tr, ms, cl, tm) (co, yn, yh, pa))) hP
  have hD9 : va_D (zAb s.heap.size) ((zWM cI cJ cZ h2 0 (n, L) ((zcb kt pt), (zcb km pm), (zcb kl pl)) mc (run, wc, nu, lc, le, af, tr, ms, cl, tm) (co, yn, yh, pa)) ++ ((zWT cI cJ h (n, L) (kt, km, kl) (pt, pm, pl) (nu, le, ow, fo, run, wc, lc, tr, cl, tm, ms) (yl, yc, yt, co, pa, su, sc) mc) ++ [(oa, .inl (cJ, 1, .inr (.inl (vp_updL yo 0 (((yl k)).toInt64)))))])) := zswapD (A := (zWT cI cJ h (n, L) (kt, km, kl) (pt, pm, pl) (nu, le, ow, fo, run, wc, lc, tr, cl, tm, ms) (yl, yc, yt, co, pa, su, sc) mc) ++ [(oa, .inl (cJ, 1, .inr (.inl (vp_updL yo 0 (((yl k)).toInt64)))))]) (Bw := (zWM cI cJ cZ h2 0 (n, L) ((zcb kt pt), (zcb km pm), (zcb kl pl)) mc (run, wc, nu, lc, le, af, tr, ms, cl, tm) (co, yn, yh, pa))) hD
  refine zci (zrV (As := []) (rest := []) ⟨hx, hb, hml, hown, hts⟩ (zV 0 hP9 hD9 hK hE hB hS rfl rfl) (c_X5_thrown  ) (cwV 0 hts gL_law_X5_thrown rfl rfl rfl hdv_X5_thrown ⟨Nat.le_of_ble_eq_true rfl, Nat.le_of_ble_eq_true rfl⟩) rfl rfl hl.1 rfl (lv_room (Nat.le_of_ble_eq_true rfl)) dL_law_1080 ⟨(show cc + 0 + 0 + 0 ≤ 601024 by omega), (show ss + 0 + 0 + 0 ≤ 7293034 by omega)⟩) hS (fun H locs hP hD hS => ?_)
  have hP : va_P D vwCl ((zWT cI cJ h (n, L) (kt, km, kl) (pt, pm, pl) (nu, le, ow, fo, run, wc, lc, tr, cl, tm, ms) (yl, yc, yt, co, pa, su, sc) mc) ++ ((oa, .inl (cJ, 1, .inr (.inl (vp_updL yo 0 (((yl k)).toInt64))))) :: (zWM cI cJ cZ h2 0 (n, L) ((zcb kt pt), (zcb km pm), (zcb kl pl)) mc (run, wc, nu, lc, le, af, tr, ms, cl, tm) (co, yn, yh, pa)))) H := zswapP (A := (zWM cI cJ cZ h2 0 (n, L) ((zcb kt pt), (zcb km pm), (zcb kl pl)) mc (run, wc, nu, lc, le, af, tr, ms, cl, tm) (co, yn, yh, pa))) (Bw := (zWT cI cJ h (n, L) (kt, km, kl) (pt, pm, pl) (nu, le, ow, fo, run, wc, lc, tr, cl, tm, ms) (yl, yc, yt, co, pa, su, sc) mc) ++ [(oa, .inl (cJ, 1, .inr (.inl (vp_updL yo 0 (((yl k)).toInt64)))))]) hP
  have hD : va_D (zAb s.heap.size) ((zWT cI cJ h (n, L) (kt, km, kl) (pt, pm, pl) (nu, le, ow, fo, run, wc, lc, tr, cl, tm, ms) (yl, yc, yt, co, pa, su, sc) mc) ++ ((oa, .inl (cJ, 1, .inr (.inl (vp_updL yo 0 (((yl k)).toInt64))))) :: (zWM cI cJ cZ h2 0 (n, L) ((zcb kt pt), (zcb km pm), (zcb kl pl)) mc (run, wc, nu, lc, le, af, tr, ms, cl, tm) (co, yn, yh, pa)))) := zswapD (A := (zWM cI cJ cZ h2 0 (n, L) ((zcb kt pt), (zcb km pm), (zcb kl pl)) mc (run, wc, nu, lc, le, af, tr, ms, cl, tm) (co, yn, yh, pa))) (Bw := (zWT cI cJ h (n, L) (kt, km, kl) (pt, pm, pl) (nu, le, ow, fo, run, wc, lc, tr, cl, tm, ms) (yl, yc, yt, co, pa, su, sc) mc) ++ [(oa, .inl (cJ, 1, .inr (.inl (vp_updL yo 0 (((yl k)).toInt64)))))]) hD
  refine lv_iload hx hb dL_law_1083 (lv_at hl 1 rfl) ?_
  refine lv_icmp_eq (tgt := 1090) hx hb dL_law_1085 (by decide) (fun c_9 => ?_) (fun c_9 => ?_)
  · skip
    refine lv_iload hx hb dL_law_1090 (lv_at hl 1 rfl) ?_
    refine lv_if_ne (tgt := 1107) hx hb dL_law_1092 (by decide) (fun c_10 => ?_) (fun c_10 => ?_)
    · skip
      exfalso; first | omega | (revert c_10; decide) | (exact absurd rfl c_10) | simp_all
    · skip
      refine lv_aload_n hx hb dL_law_1095 rfl (lv_at hl 5 rfl) ?_
      refine lv_iconst (v := 0) hx hb dL_law_1096 (by decide) ?_
      refine va_lald hx hb hK hP 21 1 rfl rfl (vp_in_nI (n := 0) (N := 1) (by omega) (by omega)) dL_law_1097 ?_
      refine lv_topl (fun v_11 ev_11 => ?_)
      obtain rfl : (((yl k)).toInt64) = v_11 := (ev_11.trans (pk_uLs (f := yo) (k := 0) (x := (((yl k)).toInt64)))).symm
      refine lv_iload hx hb dL_law_1098 (lv_at hl 0 rfl) ?_
      refine lv_i2l (v := ((yl k)).toInt64) hx hb dL_law_1100 rfl ?_
      refine W.lcmp hx hb dL_law_1101 ?_
      refine lv_if_eq (tgt := 1107) hx hb dL_law_1102 (by decide) (fun c_12 => ?_) (fun c_12 => ?_)
      · skip
        have c_12 : (((yl k)).toInt64) = (((yl k)).toInt64) := (lg_cmp_eq _ _).mp c_12
        refine lv_goto (tgt := 1191) hx hb dL_law_1107 (by decide) ?_
        refine W.widen (k := cc + 2) (n := ss + 1542) (show cc + 0 + 0 + 0 ≤ cc + 2 by omega) (show ss + 0 + 0 + 0 ≤ ss + 1542 by omega) ?_
        exact kont h h2 oa (vp_updL yo 0 (((yl k)).toInt64)) 0 n L kt km kl pt pm pl nu le ow fo run wc lc tr cl tm ms yl yc yt co pa su sc mc af yn yh (hI.mono) _ _ _ hP hD hS (lv_sub hl [2, 3, 4, 5, 6] rfl)
      · skip
        have c_12 : ¬ (((yl k)).toInt64) = (((yl k)).toInt64) := fun hh => c_12 ((lg_cmp_eq _ _).mpr hh)
        exact absurd rfl c_12
  · skip
    exfalso; first | omega | (revert c_9; decide) | (exact absurd rfl c_9) | simp_all

set_option maxHeartbeats 1000000 in
set_option maxRecDepth 100000 in
theorem law_lesson_1 {p : Program} {l : Launch} {e : Env} {s : State} {m : MethodId} {below : List Frame} {meth : Method} {c : Code} {b L9 : Nat} {xs : Nat → Int32} {D : va_G} {cI cJ cZ : ClassId} {kr kp j cc ss : Nat} {h h2 : Nat → Nat} {oa : Nat} {yo : Nat → Int64} {th : Int32} {n : Nat} {L : Nat → Int64} {kt : Nat → Int32} {km : Nat → Int32} {kl : Nat → Int32} {pt : Nat → Int32} {pm : Nat → Int32} {pl : Nat → Int32} {nu : Nat → Int32} {le : Nat → Int32} {ow : Nat → Int32} {fo : Nat → Int32} {run : Bool} {wc : Nat} {lc : Nat} {tr : Nat} {cl : Nat} {tm : Nat} {ms : Nat} {yl : Nat → Int32} {yc : Nat → Int32} {yt : Nat → Int32} {co : Nat} {pa : Int32} {su : Nat} {sc : Nat} {mc : Nat → Int32} {af : Nat → Int32} {yn : Nat} {yh : Nat → Int32} {k : Nat} (C : zLw p l s m meth c b L9 xs D cI cJ cZ kr kp) (hj : 4 * j + 4 ≤ L9) (hcc : cc + 2 ≤ 601024) (hss : ss + 1542 ≤ 7293034) (kont : zKt p l e s m below meth c b D cI cJ cZ j cc ss) (hI : zInv j n L pt le ow af run wc lc tr cl tm ms yl yc yt co yn su sc yh) (ea1 : xs (4 * j + 1) = nI k) (ea2 : xs (4 * j + 2) = 1) (hk : k < co) {H : Heap} {locs : List Loc} {ls : Array Slot} (hP : va_P D vwCl ((zWT cI cJ h (n, L) (kt, km, kl) (pt, pm, pl) (nu, le, ow, fo, run, wc, lc, tr, cl, tm, ms) (yl, yc, yt, co, pa, su, sc) mc) ++ ((oa, .inl (cJ, 1, .inr (.inl yo))) :: (zWM cI cJ cZ h2 th (n, L) ((zcb kt pt), (zcb km pm), (zcb kl pl)) mc (run, wc, nu, lc, le, af, tr, ms, cl, tm) (co, yn, yh, pa)))) H) (hD : va_D (zAb s.heap.size) ((zWT cI cJ h (n, L) (kt, km, kl) (pt, pm, pl) (nu, le, ow, fo, run, wc, lc, tr, cl, tm, ms) (yl, yc, yt, co, pa, su, sc) mc) ++ ((oa, .inl (cJ, 1, .inr (.inl yo))) :: (zWM cI cJ cZ h2 th (n, L) ((zcb kt pt), (zcb km pm), (zcb kl pl)) mc (run, wc, nu, lc, le, af, tr, ms, cl, tm) (co, yn, yh, pa))))) (hS : va_S (zAb s.heap.size) s.heap H locs) (hl : lv_has ls 9 [(0, .ref b), (1, .ref (h 0)), (2, .ref (h2 0)), (3, .ref oa), (4, .int (nI (4 * j)))]) : W p l e room_1 s m #[Value.ref b] below meth c H locs cc ss (lw_Z below #[Value.ref b] s) (F0 m 1042 ls []) := by
  obtain ⟨C0, hls, hK, hE, hL9⟩ := C
  obtain ⟨hx, hb, hr, hml, hown, hts0, hX, hbl, hlocks, hgv⟩ := C0
  have hts : ∀ w ∈ wsL_law, w.before #[Value.ref b] s = true := fun w h => hts0 w (wsL_law_in w h)
  have hbA : ¬ zAb s.heap.size b := Nat.not_le.mpr hbl
  have hB : s.heap.size ≤ s.heap.size := Nat.le_refl _
  have hn40 := hI.1.1
  have hzk := hI.1.2
  obtain ⟨hwc6, hlc48, htrl, hclt, hms1⟩ := hI.2.1
  have hrt := hI.2.2.1
  have hle := hI.2.2.2.1
  have hMk := hI.2.2.2.2.1
  have hct := hI.2.2.2.2.2.1
  have hHi := hI.2.2.2.2.2.2.1
  have hsu := hI.2.2.2.2.2.2.2.2.1
  have hj5 : j ≤ 511 := by omega
  have hco : co < 256 := by have := hct.1; omega
  have hco6 : co ≤ 256 := Nat.le_of_lt hco
  have hsl : su < 2147483648 := by have := hsu.2.2; omega
  have hpt := hI.hpt (Nat.le_succ_of_le hj5)
  refine lv_aload_n hx hb dL_law_1042 rfl (lv_at hl 1 rfl) ?_
  refine lv_aload_n hx hb dL_law_1043 rfl (lv_at hl 0 rfl) ?_
  refine lv_iload hx hb dL_law_1044 (lv_at hl 4 rfl) ?_
  refine lv_iconst (v := 1) hx hb dL_law_1046 (by decide) ?_
  refine lv_iadd hx hb dL_law_1047 ?_
  refine lv_topi (fun v_1 ev_1 => ?_)
  obtain rfl : v_1 = (nI ((4 * j) + 1)) := ev_1.trans (nI_add (4 * j) 1)
  refine va_sld hx hb hX hbl hbA hS (vp_in_nI (n := ((4 * j) + 1)) (N := L9) (by omega) (by omega)) dL_law_1048 ?_
  refine lv_topi (fun v_2 ev_2 => ?_)
  obtain rfl : (nI k) = v_2 := (ev_2.trans ((congrArg xs (nI_clamp (by omega))).trans ea1)).symm
  refine lv_aload_n hx hb dL_law_1049 rfl (lv_at hl 0 rfl) ?_
  refine lv_iload hx hb dL_law_1050 (lv_at hl 4 rfl) ?_
  refine lv_iconst (v := 2) hx hb dL_law_1052 (by decide) ?_
  refine lv_iadd hx hb dL_law_1053 ?_
  refine lv_topi (fun v_3 ev_3 => ?_)
  obtain rfl : v_3 = (nI ((4 * j) + 2)) := ev_3.trans (nI_add (4 * j) 2)
  refine va_sld hx hb hX hbl hbA hS (vp_in_nI (n := ((4 * j) + 2)) (N := L9) (by omega) (by omega)) dL_law_1054 ?_
  refine lv_topi (fun v_4 ev_4 => ?_)
  obtain rfl : 1 = v_4 := (ev_4.trans ((congrArg xs (nI_clamp (by omega))).trans ea2)).symm
  refine lv_aload_n hx hb dL_law_1055 rfl (lv_at hl 3 rfl) ?_
  refine zci (vx_runSW (As := [.ref (h 0), .int (nI k), .int 1, .ref oa]) (rest := []) ⟨hx, hb, hml, hown, hts⟩ (c_L_lesson_1 (k := k) (hk) (hco6)) (vx_cwSW 4 hts gL_law_L_lesson rfl rfl rfl hds_L_lesson ⟨Nat.le_of_ble_eq_true rfl, Nat.le_of_ble_eq_true rfl⟩) (zS hP hD hK hE hB hS) rfl rfl hl.1 rfl (lv_room (Nat.le_of_ble_eq_true rfl)) dL_law_1056 ⟨(show cc + 0 ≤ 601024 by omega), (show ss + 0 ≤ 7293034 by omega)⟩) hS (fun H locs hP hD hS => ?_)
  have hP : va_P D vwCl ((zWT cI cJ h (n, L) (kt, km, kl) (pt, pm, pl) (nu, le, ow, fo, run, wc, lc, tr, cl, tm, ms) (yl, yc, yt, co, pa, su, sc) mc) ++ ((oa, .inl (cJ, 1, .inr (.inl (vp_updL yo 0 (((yc k)).toInt64))))) :: (zWM cI cJ cZ h2 th (n, L) ((zcb kt pt), (zcb km pm), (zcb kl pl)) mc (run, wc, nu, lc, le, af, tr, ms, cl, tm) (co, yn, yh, pa)))) H := hP
  have hD : va_D (zAb s.heap.size) ((zWT cI cJ h (n, L) (kt, km, kl) (pt, pm, pl) (nu, le, ow, fo, run, wc, lc, tr, cl, tm, ms) (yl, yc, yt, co, pa, su, sc) mc) ++ ((oa, .inl (cJ, 1, .inr (.inl (vp_updL yo 0 (((yc k)).toInt64))))) :: (zWM cI cJ cZ h2 th (n, L) ((zcb kt pt), (zcb km pm), (zcb kl pl)) mc (run, wc, nu, lc, le, af, tr, ms, cl, tm) (co, yn, yh, pa)))) := hD
  refine lv_istore (lv' := [(5, .int 0), (0, .ref b), (1, .ref (h 0)), (2, .ref (h2 0)), (3, .ref oa), (4, .int (nI (4 * j)))]) hx hb dL_law_1059 hl (by decide) rfl (fun ls hl => ?_)
  refine lv_aload_n hx hb dL_law_1061 rfl (lv_at hl 3 rfl) ?_
  refine lv_aload_n hx hb dL_law_1062 rfl (lv_at hl 1 rfl) ?_
  refine lv_iload hx hb dL_law_1063 (lv_at hl 5 rfl) ?_
  refine lv_iconst (v := 1) hx hb dL_law_1065 (by decide) ?_
  refine lv_iadd hx hb dL_law_1066 ?_
  refine lv_topi (fun v_5 ev_5 => ?_)
  obtain rfl : v_5 = (nI ((4 * j) + 1)) := ev_5.trans (nI_add (4 * j) 1)
  refine va_sld hx hb hX hbl hbA hS (vp_in_nI (n := ((4 * j) + 1)) (N := L9) (by omega) (by omega)) dL_law_1067 ?_
  refine lv_topi (fun v_6 ev_6 => ?_)
  obtain rfl : (nI k) = v_6 := (ev_6.trans ((congrArg xs (nI_clamp (by omega))).trans ea1)).symm
  refine lv_aload_n hx hb dL_law_1068 rfl (lv_at hl 1 rfl) ?_
  refine lv_iload hx hb dL_law_1069 (lv_at hl 5 rfl) ?_
  refine lv_iconst (v := 2) hx hb dL_law_1071 (by decide) ?_
  refine lv_iadd hx hb dL_law_1072 ?_
  refine lv_topi (fun v_7 ev_7 => ?_)
  obtain rfl : v_7 = (nI ((4 * j) + 2)) := ev_7.trans (nI_add (4 * j) 2)
  refine va_sld hx hb hX hbl hbA hS (vp_in_nI (n := ((4 * j) + 2)) (N := L9) (by omega) (by omega)) dL_law_1073 ?_
  refine lv_topi (fun v_8 ev_8 => ?_)
  obtain rfl : 1 = v_8 := (ev_8.trans ((congrArg xs (nI_clamp (by omega))).trans ea2)).symm
  have hP9 : va_P D vwCl ((zWM cI cJ cZ h2 th (n, L) ((zcb kt pt), (zcb km pm), (zcb kl pl)) mc (run, wc, nu, lc, le, af, tr, ms, cl, tm) (co, yn, yh, pa)) ++ ((zWT cI cJ h (n, L) (kt, km, kl) (pt, pm, pl) (nu, le, ow, fo, run, wc, lc, tr, cl, tm, ms) (yl, yc, yt, co, pa, su, sc) mc) ++ [(oa, .inl (cJ, 1, .inr (.inl (vp_updL yo 0 (((yc k)).toInt64)))))])) H := zswapP (A := (zWT cI cJ h (n, L) (kt, km, kl) (pt, pm, pl) (nu, le, ow, fo, run, wc, lc, tr, cl, tm, ms) (yl, yc, yt, co, pa, su, sc) mc) ++ [(oa, .inl (cJ, 1, .inr (.inl (vp_updL yo 0 (((yc k)).toInt64)))))]) (Bw := (zWM cI cJ cZ h2 th (n, L) ((zcb kt pt), (zcb km pm), (zcb kl pl)) mc (run, wc, nu, lc, le, af, tr, ms, cl, tm) (co, yn, yh, pa))) hP
  have hD9 : va_D (zAb s.heap.size) ((zWM cI cJ cZ h2 th (n, L) ((zcb kt pt), (zcb km pm), (zcb kl pl)) mc (run, wc, nu, lc, le, af, tr, ms, cl, tm) (co, yn, yh, pa)) ++ ((zWT cI cJ h (n, L) (kt, km, kl) (pt, pm, pl) (nu, le, ow, fo, run, wc, lc, tr, cl, tm, ms) (yl, yc, yt, co, pa, su, sc) mc) ++ [(oa, .inl (cJ, 1, .inr (.inl (vp_updL yo 0 (((yc k)).toInt64)))))])) := zswapD (A := (zWT cI cJ h (n, L) (kt, km, kl) (pt, pm, pl) (nu, le, ow, fo, run, wc, lc, tr, cl, tm, ms) (yl, yc, yt, co, pa, su, sc) mc) ++ [(oa, .inl (cJ, 1, .inr (.inl (vp_updL yo 0 (((yc k)).toInt64)))))]) (Bw := (zWM cI cJ cZ h2 th (n, L) ((zcb kt pt), (zcb km pm), (zcb kl pl)) mc (run, wc, nu, lc, le, af, tr, ms, cl, tm) (co, yn, yh, pa))) hD
  refine zci (zrV (As := [.int (nI k), .int 1]) (rest := []) ⟨hx, hb, hml, hown, hts⟩ (zV 0 hP9 hD9 hK hE hB hS rfl rfl) (c_X5_lesson_1 (k := k) (yl := yl) (yc := yc) (yt := yt) (hHi.1) (hk) (hHi.2.1) (hHi.2.2.1)) (cwV 2 hts gL_law_X5_lesson rfl rfl rfl hdv_X5_lesson ⟨Nat.le_of_ble_eq_true rfl, Nat.le_of_ble_eq_true rfl⟩) rfl rfl hl.1 rfl (lv_room (Nat.le_of_ble_eq_true rfl)) dL_law_1074 ⟨(show cc + 0 + 0 ≤ 601024 by omega), (show ss + 0 + 0 ≤ 7293034 by omega)⟩) hS (fun H locs hP hD hS => ?_)
  have hP : va_P D vwCl ((zWT cI cJ h (n, L) (kt, km, kl) (pt, pm, pl) (nu, le, ow, fo, run, wc, lc, tr, cl, tm, ms) (yl, yc, yt, co, pa, su, sc) mc) ++ ((oa, .inl (cJ, 1, .inr (.inl (vp_updL yo 0 (((yc k)).toInt64))))) :: (zWM cI cJ cZ h2 0 (n, L) ((zcb kt pt), (zcb km pm), (zcb kl pl)) mc (run, wc, nu, lc, le, af, tr, ms, cl, tm) (co, yn, yh, pa)))) H := zswapP (A := (zWM cI cJ cZ h2 0 (n, L) ((zcb kt pt), (zcb km pm), (zcb kl pl)) mc (run, wc, nu, lc, le, af, tr, ms, cl, tm) (co, yn, yh, pa))) (Bw := (zWT cI cJ h (n, L) (kt, km, kl) (pt, pm, pl) (nu, le, ow, fo, run, wc, lc, tr, cl, tm, ms) (yl, yc, yt, co, pa, su, sc) mc) ++ [(oa, .inl (cJ, 1, .inr (.inl (vp_updL yo 0 (((yc k)).toInt64)))))]) hP
  have hD : va_D (zAb s.heap.size) ((zWT cI cJ h (n, L) (kt, km, kl) (pt, pm, pl) (nu, le, ow, fo, run, wc, lc, tr, cl, tm, ms) (yl, yc, yt, co, pa, su, sc) mc) ++ ((oa, .inl (cJ, 1, .inr (.inl (vp_updL yo 0 (((yc k)).toInt64))))) :: (zWM cI cJ cZ h2 0 (n, L) ((zcb kt pt), (zcb km pm), (zcb kl pl)) mc (run, wc, nu, lc, le, af, tr, ms, cl, tm) (co, yn, yh, pa)))) := zswapD (A := (zWM cI cJ cZ h2 0 (n, L) ((zcb kt pt), (zcb km pm), (zcb kl pl)) mc (run, wc, nu, lc, le, af, tr, ms, cl, tm) (co, yn, yh, pa))) (Bw := (zWT cI cJ h (n, L) (kt, km, kl) (pt, pm, pl) (nu, le, ow, fo, run, wc, lc, tr, cl, tm, ms) (yl, yc, yt, co, pa, su, sc) mc) ++ [(oa, .inl (cJ, 1, .inr (.inl (vp_updL yo 0 (((yc k)).toInt64)))))]) hD
  refine lv_istore (lv' := [(6, .int (yc k)), (5, .int 0), (0, .ref b), (1, .ref (h 0)), (2, .ref (h2 0)), (3, .ref oa), (4, .int (nI (4 * j)))]) hx hb dL_law_1077 hl (by decide) rfl (fun ls hl => ?_)
  refine lv_aload_n hx hb dL_law_1079 rfl (lv_at hl 4 rfl) ?_
  have hP9 : va_P D vwCl ((zWM cI cJ cZ h2 0 (n, L) ((zcb kt pt), (zcb km pm), (zcb kl pl)) mc (run, wc, nu, lc, le, af, tr, ms, cl, tm) (co, yn, yh, pa)) ++ ((zWT cI cJ h (n, L) (kt, km, kl) (pt, pm, pl) (nu, le, ow, fo, run, wc, lc, tr, cl, tm, ms) (yl, yc, yt, co, pa, su, sc) mc) ++ [(oa, .inl (cJ, 1, .inr (.inl (vp_updL yo 0 (((yc k)).toInt64)))))])) H := zswapP (A := (zWT cI cJ h (n, L) (kt, km, kl) (pt, pm, pl) (nu, le, ow, fo, run, wc, lc, tr, cl, tm, ms) (yl, yc, yt, co, pa, su, sc) mc) ++ [(oa, .inl (cJ, 1, .inr (.inl (vp_updL yo 0 (((yc k)).toInt64)))))]) (Bw := (zWM cI cJ cZ h2 0 (n, L) ((zcb kt pt), (zcb km pm), (zcb kl pl)) mc (run, wc, nu, lc, le, af, tr, ms, cl, tm) (co, yn, yh, pa))) hP
  have hD9 : va_D (zAb s.heap.size) ((zWM cI cJ cZ h2 0 (n, L) ((zcb kt pt), (zcb km pm), (zcb kl pl)) mc (run, wc, nu, lc, le, af, tr, ms, cl, tm) (co, yn, yh, pa)) ++ ((zWT cI cJ h (n, L) (kt, km, kl) (pt, pm, pl) (nu, le, ow, fo, run, wc, lc, tr, cl, tm, ms) (yl, yc, yt, co, pa, su, sc) mc) ++ [(oa, .inl (cJ, 1, .inr (.inl (vp_updL yo 0 (((yc k)).toInt64)))))])) := zswapD (A := (zWT cI cJ h (n, L) (kt, km, kl) (pt, pm, pl) (nu, le, ow, fo, run, wc, lc, tr, cl, tm, ms) (yl, yc, yt, co, pa, su, sc) mc) ++ [(oa, .inl (cJ, 1, .inr (.inl (vp_updL yo 0 (((yc k)).toInt64)))))]) (Bw := (zWM cI cJ cZ h2 0 (n, L) ((zcb kt pt), (zcb km pm), (zcb kl pl)) mc (run, wc, nu, lc, le, af, tr, ms, cl, tm) (co, yn, yh, pa))) hD
  refine zci (zrV (As := []) (rest := []) ⟨hx, hb, hml, hown, hts⟩ (zV 0 hP9 hD9 hK hE hB hS rfl rfl) (c_X5_thrown  ) (cwV 0 hts gL_law_X5_thrown rfl rfl rfl hdv_X5_thrown ⟨Nat.le_of_ble_eq_true rfl, Nat.le_of_ble_eq_true rfl⟩) rfl rfl hl.1 rfl (lv_room (Nat.le_of_ble_eq_true rfl)) dL_law_1080 ⟨(show cc + 0 + 0 + 0 ≤ 601024 by omega), (show ss + 0 + 0 + 0 ≤ 7293034 by omega)⟩) hS (fun H locs hP hD hS => ?_)
  have hP : va_P D vwCl ((zWT cI cJ h (n, L) (kt, km, kl) (pt, pm, pl) (nu, le, ow, fo, run, wc, lc, tr, cl, tm, ms) (yl, yc, yt, co, pa, su, sc) mc) ++ ((oa, .inl (cJ, 1, .inr (.inl (vp_updL yo 0 (((yc k)).toInt64))))) :: (zWM cI cJ cZ h2 0 (n, L) ((zcb kt pt), (zcb km pm), (zcb kl pl)) mc (run, wc, nu, lc, le, af, tr, ms, cl, tm) (co, yn, yh, pa)))) H := zswapP (A := (zWM cI cJ cZ h2 0 (n, L) ((zcb kt pt), (zcb km pm), (zcb kl pl)) mc (run, wc, nu, lc, le, af, tr, ms, cl, tm) (co, yn, yh, pa))) (Bw := (zWT cI cJ h (n, L) (kt, km, kl) (pt, pm, pl) (nu, le, ow, fo, run, wc, lc, tr, cl, tm, ms) (yl, yc, yt, co, pa, su, sc) mc) ++ [(oa, .inl (cJ, 1, .inr (.inl (vp_updL yo 0 (((yc k)).toInt64)))))]) hP
  have hD : va_D (zAb s.heap.size) ((zWT cI cJ h (n, L) (kt, km, kl) (pt, pm, pl) (nu, le, ow, fo, run, wc, lc, tr, cl, tm, ms) (yl, yc, yt, co, pa, su, sc) mc) ++ ((oa, .inl (cJ, 1, .inr (.inl (vp_updL yo 0 (((yc k)).toInt64))))) :: (zWM cI cJ cZ h2 0 (n, L) ((zcb kt pt), (zcb km pm), (zcb kl pl)) mc (run, wc, nu, lc, le, af, tr, ms, cl, tm) (co, yn, yh, pa)))) := zswapD (A := (zWM cI cJ cZ h2 0 (n, L) ((zcb kt pt), (zcb km pm), (zcb kl pl)) mc (run, wc, nu, lc, le, af, tr, ms, cl, tm) (co, yn, yh, pa))) (Bw := (zWT cI cJ h (n, L) (kt, km, kl) (pt, pm, pl) (nu, le, ow, fo, run, wc, lc, tr, cl, tm, ms) (yl, yc, yt, co, pa, su, sc) mc) ++ [(oa, .inl (cJ, 1, .inr (.inl (vp_updL yo 0 (((yc k)).toInt64)))))]) hD
  refine lv_iload hx hb dL_law_1083 (lv_at hl 1 rfl) ?_
  refine lv_icmp_eq (tgt := 1090) hx hb dL_law_1085 (by decide) (fun c_9 => ?_) (fun c_9 => ?_)
  · skip
    refine lv_iload hx hb dL_law_1090 (lv_at hl 1 rfl) ?_
    refine lv_if_ne (tgt := 1107) hx hb dL_law_1092 (by decide) (fun c_10 => ?_) (fun c_10 => ?_)
    · skip
      exfalso; first | omega | (revert c_10; decide) | (exact absurd rfl c_10) | simp_all
    · skip
      refine lv_aload_n hx hb dL_law_1095 rfl (lv_at hl 5 rfl) ?_
      refine lv_iconst (v := 0) hx hb dL_law_1096 (by decide) ?_
      refine va_lald hx hb hK hP 21 1 rfl rfl (vp_in_nI (n := 0) (N := 1) (by omega) (by omega)) dL_law_1097 ?_
      refine lv_topl (fun v_11 ev_11 => ?_)
      obtain rfl : (((yc k)).toInt64) = v_11 := (ev_11.trans (pk_uLs (f := yo) (k := 0) (x := (((yc k)).toInt64)))).symm
      refine lv_iload hx hb dL_law_1098 (lv_at hl 0 rfl) ?_
      refine lv_i2l (v := ((yc k)).toInt64) hx hb dL_law_1100 rfl ?_
      refine W.lcmp hx hb dL_law_1101 ?_
      refine lv_if_eq (tgt := 1107) hx hb dL_law_1102 (by decide) (fun c_12 => ?_) (fun c_12 => ?_)
      · skip
        have c_12 : (((yc k)).toInt64) = (((yc k)).toInt64) := (lg_cmp_eq _ _).mp c_12
        refine lv_goto (tgt := 1191) hx hb dL_law_1107 (by decide) ?_
        refine W.widen (k := cc + 2) (n := ss + 1542) (show cc + 0 + 0 + 0 ≤ cc + 2 by omega) (show ss + 0 + 0 + 0 ≤ ss + 1542 by omega) ?_
        exact kont h h2 oa (vp_updL yo 0 (((yc k)).toInt64)) 0 n L kt km kl pt pm pl nu le ow fo run wc lc tr cl tm ms yl yc yt co pa su sc mc af yn yh (hI.mono) _ _ _ hP hD hS (lv_sub hl [2, 3, 4, 5, 6] rfl)
      · skip
        have c_12 : ¬ (((yc k)).toInt64) = (((yc k)).toInt64) := fun hh => c_12 ((lg_cmp_eq _ _).mpr hh)
        exact absurd rfl c_12
  · skip
    exfalso; first | omega | (revert c_9; decide) | (exact absurd rfl c_9) | simp_all

set_option maxHeartbeats 1000000 in
set_option maxRecDepth 100000 in
theorem law_lesson_2 {p : Program} {l : Launch} {e : Env} {s : State} {m : MethodId} {below : List Frame} {meth : Method} {c : Code} {b L9 : Nat} {xs : Nat → Int32} {D : va_G} {cI cJ cZ : ClassId} {kr kp j cc ss : Nat} {h h2 : Nat → Nat} {oa : Nat} {yo : Nat → Int64} {th : Int32} {n : Nat} {L : Nat → Int64} {kt : Nat → Int32} {km : Nat → Int32} {kl : Nat → Int32} {pt : Nat → Int32} {pm : Nat → Int32} {pl : Nat → Int32} {nu : Nat → Int32} {le : Nat → Int32} {ow : Nat → Int32} {fo : Nat → Int32} {run : Bool} {wc : Nat} {lc : Nat} {tr : Nat} {cl : Nat} {tm : Nat} {ms : Nat} {yl : Nat → Int32} {yc : Nat → Int32} {yt : Nat → Int32} {co : Nat} {pa : Int32} {su : Nat} {sc : Nat} {mc : Nat → Int32} {af : Nat → Int32} {yn : Nat} {yh : Nat → Int32} {k : Nat} (C : zLw p l s m meth c b L9 xs D cI cJ cZ kr kp) (hj : 4 * j + 4 ≤ L9) (hcc : cc + 2 ≤ 601024) (hss : ss + 1542 ≤ 7293034) (kont : zKt p l e s m below meth c b D cI cJ cZ j cc ss) (hI : zInv j n L pt le ow af run wc lc tr cl tm ms yl yc yt co yn su sc yh) (ea1 : xs (4 * j + 1) = nI k) (ea2 : xs (4 * j + 2) = 2) (hk : k < co) {H : Heap} {locs : List Loc} {ls : Array Slot} (hP : va_P D vwCl ((zWT cI cJ h (n, L) (kt, km, kl) (pt, pm, pl) (nu, le, ow, fo, run, wc, lc, tr, cl, tm, ms) (yl, yc, yt, co, pa, su, sc) mc) ++ ((oa, .inl (cJ, 1, .inr (.inl yo))) :: (zWM cI cJ cZ h2 th (n, L) ((zcb kt pt), (zcb km pm), (zcb kl pl)) mc (run, wc, nu, lc, le, af, tr, ms, cl, tm) (co, yn, yh, pa)))) H) (hD : va_D (zAb s.heap.size) ((zWT cI cJ h (n, L) (kt, km, kl) (pt, pm, pl) (nu, le, ow, fo, run, wc, lc, tr, cl, tm, ms) (yl, yc, yt, co, pa, su, sc) mc) ++ ((oa, .inl (cJ, 1, .inr (.inl yo))) :: (zWM cI cJ cZ h2 th (n, L) ((zcb kt pt), (zcb km pm), (zcb kl pl)) mc (run, wc, nu, lc, le, af, tr, ms, cl, tm) (co, yn, yh, pa))))) (hS : va_S (zAb s.heap.size) s.heap H locs) (hl : lv_has ls 9 [(0, .ref b), (1, .ref (h 0)), (2, .ref (h2 0)), (3, .ref oa), (4, .int (nI (4 * j)))]) : W p l e room_1 s m #[Value.ref b] below meth c H locs cc ss (lw_Z below #[Value.ref b] s) (F0 m 1042 ls []) := by
  obtain ⟨C0, hls, hK, hE, hL9⟩ := C
  obtain ⟨hx, hb, hr, hml, hown, hts0, hX, hbl, hlocks, hgv⟩ := C0
  have hts : ∀ w ∈ wsL_law, w.before #[Value.ref b] s = true := fun w h => hts0 w (wsL_law_in w h)
  have hbA : ¬ zAb s.heap.size b := Nat.not_le.mpr hbl
  have hB : s.heap.size ≤ s.heap.size := Nat.le_refl _
  have hn40 := hI.1.1
  have hzk := hI.1.2
  obtain ⟨hwc6, hlc48, htrl, hclt, hms1⟩ := hI.2.1
  have hrt := hI.2.2.1
  have hle := hI.2.2.2.1
  have hMk := hI.2.2.2.2.1
  have hct := hI.2.2.2.2.2.1
  have hHi := hI.2.2.2.2.2.2.1
  have hsu := hI.2.2.2.2.2.2.2.2.1
  have hj5 : j ≤ 511 := by omega
  have hco : co < 256 := by have := hct.1; omega
  have hco6 : co ≤ 256 := Nat.le_of_lt hco
  have hsl : su < 2147483648 := by have := hsu.2.2; omega
  have hpt := hI.hpt (Nat.le_succ_of_le hj5)
  refine lv_aload_n hx hb dL_law_1042 rfl (lv_at hl 1 rfl) ?_
  refine lv_aload_n hx hb dL_law_1043 rfl (lv_at hl 0 rfl) ?_
  refine lv_iload hx hb dL_law_1044 (lv_at hl 4 rfl) ?_
  refine lv_iconst (v := 1) hx hb dL_law_1046 (by decide) ?_
  refine lv_iadd hx hb dL_law_1047 ?_
  refine lv_topi (fun v_1 ev_1 => ?_)
  obtain rfl : v_1 = (nI ((4 * j) + 1)) := ev_1.trans (nI_add (4 * j) 1)
  refine va_sld hx hb hX hbl hbA hS (vp_in_nI (n := ((4 * j) + 1)) (N := L9) (by omega) (by omega)) dL_law_1048 ?_
  refine lv_topi (fun v_2 ev_2 => ?_)
  obtain rfl : (nI k) = v_2 := (ev_2.trans ((congrArg xs (nI_clamp (by omega))).trans ea1)).symm
  refine lv_aload_n hx hb dL_law_1049 rfl (lv_at hl 0 rfl) ?_
  refine lv_iload hx hb dL_law_1050 (lv_at hl 4 rfl) ?_
  refine lv_iconst (v := 2) hx hb dL_law_1052 (by decide) ?_
  refine lv_iadd hx hb dL_law_1053 ?_
  refine lv_topi (fun v_3 ev_3 => ?_)
  obtain rfl : v_3 = (nI ((4 * j) + 2)) := ev_3.trans (nI_add (4 * j) 2)
  refine va_sld hx hb hX hbl hbA hS (vp_in_nI (n := ((4 * j) + 2)) (N := L9) (by omega) (by omega)) dL_law_1054 ?_
  refine lv_topi (fun v_4 ev_4 => ?_)
  obtain rfl : 2 = v_4 := (ev_4.trans ((congrArg xs (nI_clamp (by omega))).trans ea2)).symm
  refine lv_aload_n hx hb dL_law_1055 rfl (lv_at hl 3 rfl) ?_
  refine zci (vx_runSW (As := [.ref (h 0), .int (nI k), .int 2, .ref oa]) (rest := []) ⟨hx, hb, hml, hown, hts⟩ (c_L_lesson_2 (k := k) (hk) (hco6)) (vx_cwSW 4 hts gL_law_L_lesson rfl rfl rfl hds_L_lesson ⟨Nat.le_of_ble_eq_true rfl, Nat.le_of_ble_eq_true rfl⟩) (zS hP hD hK hE hB hS) rfl rfl hl.1 rfl (lv_room (Nat.le_of_ble_eq_true rfl)) dL_law_1056 ⟨(show cc + 0 ≤ 601024 by omega), (show ss + 0 ≤ 7293034 by omega)⟩) hS (fun H locs hP hD hS => ?_)
  have hP : va_P D vwCl ((zWT cI cJ h (n, L) (kt, km, kl) (pt, pm, pl) (nu, le, ow, fo, run, wc, lc, tr, cl, tm, ms) (yl, yc, yt, co, pa, su, sc) mc) ++ ((oa, .inl (cJ, 1, .inr (.inl (vp_updL yo 0 (((yt k)).toInt64))))) :: (zWM cI cJ cZ h2 th (n, L) ((zcb kt pt), (zcb km pm), (zcb kl pl)) mc (run, wc, nu, lc, le, af, tr, ms, cl, tm) (co, yn, yh, pa)))) H := hP
  have hD : va_D (zAb s.heap.size) ((zWT cI cJ h (n, L) (kt, km, kl) (pt, pm, pl) (nu, le, ow, fo, run, wc, lc, tr, cl, tm, ms) (yl, yc, yt, co, pa, su, sc) mc) ++ ((oa, .inl (cJ, 1, .inr (.inl (vp_updL yo 0 (((yt k)).toInt64))))) :: (zWM cI cJ cZ h2 th (n, L) ((zcb kt pt), (zcb km pm), (zcb kl pl)) mc (run, wc, nu, lc, le, af, tr, ms, cl, tm) (co, yn, yh, pa)))) := hD
  refine lv_istore (lv' := [(5, .int 0), (0, .ref b), (1, .ref (h 0)), (2, .ref (h2 0)), (3, .ref oa), (4, .int (nI (4 * j)))]) hx hb dL_law_1059 hl (by decide) rfl (fun ls hl => ?_)
  refine lv_aload_n hx hb dL_law_1061 rfl (lv_at hl 3 rfl) ?_
  refine lv_aload_n hx hb dL_law_1062 rfl (lv_at hl 1 rfl) ?_
  refine lv_iload hx hb dL_law_1063 (lv_at hl 5 rfl) ?_
  refine lv_iconst (v := 1) hx hb dL_law_1065 (by decide) ?_
  refine lv_iadd hx hb dL_law_1066 ?_
  refine lv_topi (fun v_5 ev_5 => ?_)
  obtain rfl : v_5 = (nI ((4 * j) + 1)) := ev_5.trans (nI_add (4 * j) 1)
  refine va_sld hx hb hX hbl hbA hS (vp_in_nI (n := ((4 * j) + 1)) (N := L9) (by omega) (by omega)) dL_law_1067 ?_
  refine lv_topi (fun v_6 ev_6 => ?_)
  obtain rfl : (nI k) = v_6 := (ev_6.trans ((congrArg xs (nI_clamp (by omega))).trans ea1)).symm
  refine lv_aload_n hx hb dL_law_1068 rfl (lv_at hl 1 rfl) ?_
  refine lv_iload hx hb dL_law_1069 (lv_at hl 5 rfl) ?_
  refine lv_iconst (v := 2) hx hb dL_law_1071 (by decide) ?_
  refine lv_iadd hx hb dL_law_1072 ?_
  refine lv_topi (fun v_7 ev_7 => ?_)
  obtain rfl : v_7 = (nI ((4 * j) + 2)) := ev_7.trans (nI_add (4 * j) 2)
  refine va_sld hx hb hX hbl hbA hS (vp_in_nI (n := ((4 * j) + 2)) (N := L9) (by omega) (by omega)) dL_law_1073 ?_
  refine lv_topi (fun v_8 ev_8 => ?_)
  obtain rfl : 2 = v_8 := (ev_8.trans ((congrArg xs (nI_clamp (by omega))).trans ea2)).symm
  have hP9 : va_P D vwCl ((zWM cI cJ cZ h2 th (n, L) ((zcb kt pt), (zcb km pm), (zcb kl pl)) mc (run, wc, nu, lc, le, af, tr, ms, cl, tm) (co, yn, yh, pa)) ++ ((zWT cI cJ h (n, L) (kt, km, kl) (pt, pm, pl) (nu, le, ow, fo, run, wc, lc, tr, cl, tm, ms) (yl, yc, yt, co, pa, su, sc) mc) ++ [(oa, .inl (cJ, 1, .inr (.inl (vp_updL yo 0 (((yt k)).toInt64)))))])) H := zswapP (A := (zWT cI cJ h (n, L) (kt, km, kl) (pt, pm, pl) (nu, le, ow, fo, run, wc, lc, tr, cl, tm, ms) (yl, yc, yt, co, pa, su, sc) mc) ++ [(oa, .inl (cJ, 1, .inr (.inl (vp_updL yo 0 (((yt k)).toInt64)))))]) (Bw := (zWM cI cJ cZ h2 th (n, L) ((zcb kt pt), (zcb km pm), (zcb kl pl)) mc (run, wc, nu, lc, le, af, tr, ms, cl, tm) (co, yn, yh, pa))) hP
  have hD9 : va_D (zAb s.heap.size) ((zWM cI cJ cZ h2 th (n, L) ((zcb kt pt), (zcb km pm), (zcb kl pl)) mc (run, wc, nu, lc, le, af, tr, ms, cl, tm) (co, yn, yh, pa)) ++ ((zWT cI cJ h (n, L) (kt, km, kl) (pt, pm, pl) (nu, le, ow, fo, run, wc, lc, tr, cl, tm, ms) (yl, yc, yt, co, pa, su, sc) mc) ++ [(oa, .inl (cJ, 1, .inr (.inl (vp_updL yo 0 (((yt k)).toInt64)))))])) := zswapD (A := (zWT cI cJ h (n, L) (kt, km, kl) (pt, pm, pl) (nu, le, ow, fo, run, wc, lc, tr, cl, tm, ms) (yl, yc, yt, co, pa, su, sc) mc) ++ [(oa, .inl (cJ, 1, .inr (.inl (vp_updL yo 0 (((yt k)).toInt64)))))]) (Bw := (zWM cI cJ cZ h2 th (n, L) ((zcb kt pt), (zcb km pm), (zcb kl pl)) mc (run, wc, nu, lc, le, af, tr, ms, cl, tm) (co, yn, yh, pa))) hD
  refine zci (zrV (As := [.int (nI k), .int 2]) (rest := []) ⟨hx, hb, hml, hown, hts⟩ (zV 0 hP9 hD9 hK hE hB hS rfl rfl) (c_X5_lesson_2 (k := k) (yl := yl) (yc := yc) (yt := yt) (hHi.1) (hk) (hHi.2.1) (hHi.2.2.1)) (cwV 2 hts gL_law_X5_lesson rfl rfl rfl hdv_X5_lesson ⟨Nat.le_of_ble_eq_true rfl, Nat.le_of_ble_eq_true rfl⟩) rfl rfl hl.1 rfl (lv_room (Nat.le_of_ble_eq_true rfl)) dL_law_1074 ⟨(show cc + 0 + 0 ≤ 601024 by omega), (show ss + 0 + 0 ≤ 7293034 by omega)⟩) hS (fun H locs hP hD hS => ?_)
  have hP : va_P D vwCl ((zWT cI cJ h (n, L) (kt, km, kl) (pt, pm, pl) (nu, le, ow, fo, run, wc, lc, tr, cl, tm, ms) (yl, yc, yt, co, pa, su, sc) mc) ++ ((oa, .inl (cJ, 1, .inr (.inl (vp_updL yo 0 (((yt k)).toInt64))))) :: (zWM cI cJ cZ h2 0 (n, L) ((zcb kt pt), (zcb km pm), (zcb kl pl)) mc (run, wc, nu, lc, le, af, tr, ms, cl, tm) (co, yn, yh, pa)))) H := zswapP (A := (zWM cI cJ cZ h2 0 (n, L) ((zcb kt pt), (zcb km pm), (zcb kl pl)) mc (run, wc, nu, lc, le, af, tr, ms, cl, tm) (co, yn, yh, pa))) (Bw := (zWT cI cJ h (n, L) (kt, km, kl) (pt, pm, pl) (nu, le, ow, fo, run, wc, lc, tr, cl, tm, ms) (yl, yc, yt, co, pa, su, sc) mc) ++ [(oa, .inl (cJ, 1, .inr (.inl (vp_updL yo 0 (((yt k)).toInt64)))))]) hP
  have hD : va_D (zAb s.heap.size) ((zWT cI cJ h (n, L) (kt, km, kl) (pt, pm, pl) (nu, le, ow, fo, run, wc, lc, tr, cl, tm, ms) (yl, yc, yt, co, pa, su, sc) mc) ++ ((oa, .inl (cJ, 1, .inr (.inl (vp_updL yo 0 (((yt k)).toInt64))))) :: (zWM cI cJ cZ h2 0 (n, L) ((zcb kt pt), (zcb km pm), (zcb kl pl)) mc (run, wc, nu, lc, le, af, tr, ms, cl, tm) (co, yn, yh, pa)))) := zswapD (A := (zWM cI cJ cZ h2 0 (n, L) ((zcb kt pt), (zcb km pm), (zcb kl pl)) mc (run, wc, nu, lc, le, af, tr, ms, cl, tm) (co, yn, yh, pa))) (Bw := (zWT cI cJ h (n, L) (kt, km, kl) (pt, pm, pl) (nu, le, ow, fo, run, wc, lc, tr, cl, tm, ms) (yl, yc, yt, co, pa, su, sc) mc) ++ [(oa, .inl (cJ, 1, .inr (.inl (vp_updL yo 0 (((yt k)).toInt64)))))]) hD
  refine lv_istore (lv' := [(6, .int (yt k)), (5, .int 0), (0, .ref b), (1, .ref (h 0)), (2, .ref (h2 0)), (3, .ref oa), (4, .int (nI (4 * j)))]) hx hb dL_law_1077 hl (by decide) rfl (fun ls hl => ?_)
  refine lv_aload_n hx hb dL_law_1079 rfl (lv_at hl 4 rfl) ?_
  have hP9 : va_P D vwCl ((zWM cI cJ cZ h2 0 (n, L) ((zcb kt pt), (zcb km pm), (zcb kl pl)) mc (run, wc, nu, lc, le, af, tr, ms, cl, tm) (co, yn, yh, pa)) ++ ((zWT cI cJ h (n, L) (kt, km, kl) (pt, pm, pl) (nu, le, ow, fo, run, wc, lc, tr, cl, tm, ms) (yl, yc, yt, co, pa, su, sc) mc) ++ [(oa, .inl (cJ, 1, .inr (.inl (vp_updL yo 0 (((yt k)).toInt64)))))])) H := zswapP (A := (zWT cI cJ h (n, L) (kt, km, kl) (pt, pm, pl) (nu, le, ow, fo, run, wc, lc, tr, cl, tm, ms) (yl, yc, yt, co, pa, su, sc) mc) ++ [(oa, .inl (cJ, 1, .inr (.inl (vp_updL yo 0 (((yt k)).toInt64)))))]) (Bw := (zWM cI cJ cZ h2 0 (n, L) ((zcb kt pt), (zcb km pm), (zcb kl pl)) mc (run, wc, nu, lc, le, af, tr, ms, cl, tm) (co, yn, yh, pa))) hP
  have hD9 : va_D (zAb s.heap.size) ((zWM cI cJ cZ h2 0 (n, L) ((zcb kt pt), (zcb km pm), (zcb kl pl)) mc (run, wc, nu, lc, le, af, tr, ms, cl, tm) (co, yn, yh, pa)) ++ ((zWT cI cJ h (n, L) (kt, km, kl) (pt, pm, pl) (nu, le, ow, fo, run, wc, lc, tr, cl, tm, ms) (yl, yc, yt, co, pa, su, sc) mc) ++ [(oa, .inl (cJ, 1, .inr (.inl (vp_updL yo 0 (((yt k)).toInt64)))))])) := zswapD (A := (zWT cI cJ h (n, L) (kt, km, kl) (pt, pm, pl) (nu, le, ow, fo, run, wc, lc, tr, cl, tm, ms) (yl, yc, yt, co, pa, su, sc) mc) ++ [(oa, .inl (cJ, 1, .inr (.inl (vp_updL yo 0 (((yt k)).toInt64)))))]) (Bw := (zWM cI cJ cZ h2 0 (n, L) ((zcb kt pt), (zcb km pm), (zcb kl pl)) mc (run, wc, nu, lc, le, af, tr, ms, cl, tm) (co, yn, yh, pa))) hD
  refine zci (zrV (As := []) (rest := []) ⟨hx, hb, hml, hown, hts⟩ (zV 0 hP9 hD9 hK hE hB hS rfl rfl) (c_X5_thrown  ) (cwV 0 hts gL_law_X5_thrown rfl rfl rfl hdv_X5_thrown ⟨Nat.le_of_ble_eq_true rfl, Nat.le_of_ble_eq_true rfl⟩) rfl rfl hl.1 rfl (lv_room (Nat.le_of_ble_eq_true rfl)) dL_law_1080 ⟨(show cc + 0 + 0 + 0 ≤ 601024 by omega), (show ss + 0 + 0 + 0 ≤ 7293034 by omega)⟩) hS (fun H locs hP hD hS => ?_)
  have hP : va_P D vwCl ((zWT cI cJ h (n, L) (kt, km, kl) (pt, pm, pl) (nu, le, ow, fo, run, wc, lc, tr, cl, tm, ms) (yl, yc, yt, co, pa, su, sc) mc) ++ ((oa, .inl (cJ, 1, .inr (.inl (vp_updL yo 0 (((yt k)).toInt64))))) :: (zWM cI cJ cZ h2 0 (n, L) ((zcb kt pt), (zcb km pm), (zcb kl pl)) mc (run, wc, nu, lc, le, af, tr, ms, cl, tm) (co, yn, yh, pa)))) H := zswapP (A := (zWM cI cJ cZ h2 0 (n, L) ((zcb kt pt), (zcb km pm), (zcb kl pl)) mc (run, wc, nu, lc, le, af, tr, ms, cl, tm) (co, yn, yh, pa))) (Bw := (zWT cI cJ h (n, L) (kt, km, kl) (pt, pm, pl) (nu, le, ow, fo, run, wc, lc, tr, cl, tm, ms) (yl, yc, yt, co, pa, su, sc) mc) ++ [(oa, .inl (cJ, 1, .inr (.inl (vp_updL yo 0 (((yt k)).toInt64)))))]) hP
  have hD : va_D (zAb s.heap.size) ((zWT cI cJ h (n, L) (kt, km, kl) (pt, pm, pl) (nu, le, ow, fo, run, wc, lc, tr, cl, tm, ms) (yl, yc, yt, co, pa, su, sc) mc) ++ ((oa, .inl (cJ, 1, .inr (.inl (vp_updL yo 0 (((yt k)).toInt64))))) :: (zWM cI cJ cZ h2 0 (n, L) ((zcb kt pt), (zcb km pm), (zcb kl pl)) mc (run, wc, nu, lc, le, af, tr, ms, cl, tm) (co, yn, yh, pa)))) := zswapD (A := (zWM cI cJ cZ h2 0 (n, L) ((zcb kt pt), (zcb km pm), (zcb kl pl)) mc (run, wc, nu, lc, le, af, tr, ms, cl, tm) (co, yn, yh, pa))) (Bw := (zWT cI cJ h (n, L) (kt, km, kl) (pt, pm, pl) (nu, le, ow, fo, run, wc, lc, tr, cl, tm, ms) (yl, yc, yt, co, pa, su, sc) mc) ++ [(oa, .inl (cJ, 1, .inr (.inl (vp_updL yo 0 (((yt k)).toInt64)))))]) hD
  refine lv_iload hx hb dL_law_1083 (lv_at hl 1 rfl) ?_
  refine lv_icmp_eq (tgt := 1090) hx hb dL_law_1085 (by decide) (fun c_9 => ?_) (fun c_9 => ?_)
  · skip
    refine lv_iload hx hb dL_law_1090 (lv_at hl 1 rfl) ?_
    refine lv_if_ne (tgt := 1107) hx hb dL_law_1092 (by decide) (fun c_10 => ?_) (fun c_10 => ?_)
    · skip
      exfalso; first | omega | (revert c_10; decide) | (exact absurd rfl c_10) | simp_all
    · skip
      refine lv_aload_n hx hb dL_law_1095 rfl (lv_at hl 5 rfl) ?_
      refine lv_iconst (v := 0) hx hb dL_law_1096 (by decide) ?_
      refine va_lald hx hb hK hP 21 1 rfl rfl (vp_in_nI (n := 0) (N := 1) (by omega) (by omega)) dL_law_1097 ?_
      refine lv_topl (fun v_11 ev_11 => ?_)
      obtain rfl : (((yt k)).toInt64) = v_11 := (ev_11.trans (pk_uLs (f := yo) (k := 0) (x := (((yt k)).toInt64)))).symm
      refine lv_iload hx hb dL_law_1098 (lv_at hl 0 rfl) ?_
      refine lv_i2l (v := ((yt k)).toInt64) hx hb dL_law_1100 rfl ?_
      refine W.lcmp hx hb dL_law_1101 ?_
      refine lv_if_eq (tgt := 1107) hx hb dL_law_1102 (by decide) (fun c_12 => ?_) (fun c_12 => ?_)
      · skip
        have c_12 : (((yt k)).toInt64) = (((yt k)).toInt64) := (lg_cmp_eq _ _).mp c_12
        refine lv_goto (tgt := 1191) hx hb dL_law_1107 (by decide) ?_
        refine W.widen (k := cc + 2) (n := ss + 1542) (show cc + 0 + 0 + 0 ≤ cc + 2 by omega) (show ss + 0 + 0 + 0 ≤ ss + 1542 by omega) ?_
        exact kont h h2 oa (vp_updL yo 0 (((yt k)).toInt64)) 0 n L kt km kl pt pm pl nu le ow fo run wc lc tr cl tm ms yl yc yt co pa su sc mc af yn yh (hI.mono) _ _ _ hP hD hS (lv_sub hl [2, 3, 4, 5, 6] rfl)
      · skip
        have c_12 : ¬ (((yt k)).toInt64) = (((yt k)).toInt64) := fun hh => c_12 ((lg_cmp_eq _ _).mpr hh)
        exact absurd rfl c_12
  · skip
    exfalso; first | omega | (revert c_9; decide) | (exact absurd rfl c_9) | simp_all

set_option maxHeartbeats 1000000 in
set_option maxRecDepth 100000 in
theorem law_lesson_3 {p : Program} {l : Launch} {e : Env} {s : State} {m : MethodId} {below : List Frame} {meth : Method} {c : Code} {b L9 : Nat} {xs : Nat → Int32} {D : va_G} {cI cJ cZ : ClassId} {kr kp j cc ss : Nat} {h h2 : Nat → Nat} {oa : Nat} {yo : Nat → Int64} {th : Int32} {n : Nat} {L : Nat → Int64} {kt : Nat → Int32} {km : Nat → Int32} {kl : Nat → Int32} {pt : Nat → Int32} {pm : Nat → Int32} {pl : Nat → Int32} {nu : Nat → Int32} {le : Nat → Int32} {ow : Nat → Int32} {fo : Nat → Int32} {run : Bool} {wc : Nat} {lc : Nat} {tr : Nat} {cl : Nat} {tm : Nat} {ms : Nat} {yl : Nat → Int32} {yc : Nat → Int32} {yt : Nat → Int32} {co : Nat} {pa : Int32} {su : Nat} {sc : Nat} {mc : Nat → Int32} {af : Nat → Int32} {yn : Nat} {yh : Nat → Int32} {k : Nat} (C : zLw p l s m meth c b L9 xs D cI cJ cZ kr kp) (hj : 4 * j + 4 ≤ L9) (hcc : cc + 2 ≤ 601024) (hss : ss + 1542 ≤ 7293034) (kont : zKt p l e s m below meth c b D cI cJ cZ j cc ss) (hI : zInv j n L pt le ow af run wc lc tr cl tm ms yl yc yt co yn su sc yh) (ea1 : xs (4 * j + 1) = nI k) (ea2 : xs (4 * j + 2) = 3) (hk : k < co) {H : Heap} {locs : List Loc} {ls : Array Slot} (hP : va_P D vwCl ((zWT cI cJ h (n, L) (kt, km, kl) (pt, pm, pl) (nu, le, ow, fo, run, wc, lc, tr, cl, tm, ms) (yl, yc, yt, co, pa, su, sc) mc) ++ ((oa, .inl (cJ, 1, .inr (.inl yo))) :: (zWM cI cJ cZ h2 th (n, L) ((zcb kt pt), (zcb km pm), (zcb kl pl)) mc (run, wc, nu, lc, le, af, tr, ms, cl, tm) (co, yn, yh, pa)))) H) (hD : va_D (zAb s.heap.size) ((zWT cI cJ h (n, L) (kt, km, kl) (pt, pm, pl) (nu, le, ow, fo, run, wc, lc, tr, cl, tm, ms) (yl, yc, yt, co, pa, su, sc) mc) ++ ((oa, .inl (cJ, 1, .inr (.inl yo))) :: (zWM cI cJ cZ h2 th (n, L) ((zcb kt pt), (zcb km pm), (zcb kl pl)) mc (run, wc, nu, lc, le, af, tr, ms, cl, tm) (co, yn, yh, pa))))) (hS : va_S (zAb s.heap.size) s.heap H locs) (hl : lv_has ls 9 [(0, .ref b), (1, .ref (h 0)), (2, .ref (h2 0)), (3, .ref oa), (4, .int (nI (4 * j)))]) : W p l e room_1 s m #[Value.ref b] below meth c H locs cc ss (lw_Z below #[Value.ref b] s) (F0 m 1042 ls []) := by
  obtain ⟨C0, hls, hK, hE, hL9⟩ := C
  obtain ⟨hx, hb, hr, hml, hown, hts0, hX, hbl, hlocks, hgv⟩ := C0
  have hts : ∀ w ∈ wsL_law, w.before #[Value.ref b] s = true := fun w h => hts0 w (wsL_law_in w h)
  have hbA : ¬ zAb s.heap.size b := Nat.not_le.mpr hbl
  have hB : s.heap.size ≤ s.heap.size := Nat.le_refl _
  have hn40 := hI.1.1
  have hzk := hI.1.2
  obtain ⟨hwc6, hlc48, htrl, hclt, hms1⟩ := hI.2.1
  have hrt := hI.2.2.1
  have hle := hI.2.2.2.1
  have hMk := hI.2.2.2.2.1
  have hct := hI.2.2.2.2.2.1
  have hHi := hI.2.2.2.2.2.2.1
  have hsu := hI.2.2.2.2.2.2.2.2.1
  have hj5 : j ≤ 511 := by omega
  have hco : co < 256 := by have := hct.1; omega
  have hco6 : co ≤ 256 := Nat.le_of_lt hco
  have hsl : su < 2147483648 := by have := hsu.2.2; omega
  have hpt := hI.hpt (Nat.le_succ_of_le hj5)
  refine lv_aload_n hx hb dL_law_1042 rfl (lv_at hl 1 rfl) ?_
  refine lv_aload_n hx hb dL_law_1043 rfl (lv_at hl 0 rfl) ?_
  refine lv_iload hx hb dL_law_1044 (lv_at hl 4 rfl) ?_
  refine lv_iconst (v := 1) hx hb dL_law_1046 (by decide) ?_
  refine lv_iadd hx hb dL_law_1047 ?_
  refine lv_topi (fun v_1 ev_1 => ?_)
  obtain rfl : v_1 = (nI ((4 * j) + 1)) := ev_1.trans (nI_add (4 * j) 1)
  refine va_sld hx hb hX hbl hbA hS (vp_in_nI (n := ((4 * j) + 1)) (N := L9) (by omega) (by omega)) dL_law_1048 ?_
  refine lv_topi (fun v_2 ev_2 => ?_)
  obtain rfl : (nI k) = v_2 := (ev_2.trans ((congrArg xs (nI_clamp (by omega))).trans ea1)).symm
  refine lv_aload_n hx hb dL_law_1049 rfl (lv_at hl 0 rfl) ?_
  refine lv_iload hx hb dL_law_1050 (lv_at hl 4 rfl) ?_
  refine lv_iconst (v := 2) hx hb dL_law_1052 (by decide) ?_
  refine lv_iadd hx hb dL_law_1053 ?_
  refine lv_topi (fun v_3 ev_3 => ?_)
  obtain rfl : v_3 = (nI ((4 * j) + 2)) := ev_3.trans (nI_add (4 * j) 2)
  refine va_sld hx hb hX hbl hbA hS (vp_in_nI (n := ((4 * j) + 2)) (N := L9) (by omega) (by omega)) dL_law_1054 ?_
  refine lv_topi (fun v_4 ev_4 => ?_)
  obtain rfl : 3 = v_4 := (ev_4.trans ((congrArg xs (nI_clamp (by omega))).trans ea2)).symm
  refine lv_aload_n hx hb dL_law_1055 rfl (lv_at hl 3 rfl) ?_
  refine zci (vx_runSW (As := [.ref (h 0), .int (nI k), .int 3, .ref oa]) (rest := []) ⟨hx, hb, hml, hown, hts⟩ (c_L_lesson_3 (k := k) (hk) (hco6)) (vx_cwSW 4 hts gL_law_L_lesson rfl rfl rfl hds_L_lesson ⟨Nat.le_of_ble_eq_true rfl, Nat.le_of_ble_eq_true rfl⟩) (zS hP hD hK hE hB hS) rfl rfl hl.1 rfl (lv_room (Nat.le_of_ble_eq_true rfl)) dL_law_1056 ⟨(show cc + 0 ≤ 601024 by omega), (show ss + 0 ≤ 7293034 by omega)⟩) hS (fun H locs hP hD hS => ?_)
  have hP : va_P D vwCl ((zWT cI cJ h (n, L) (kt, km, kl) (pt, pm, pl) (nu, le, ow, fo, run, wc, lc, tr, cl, tm, ms) (yl, yc, yt, co, pa, su, sc) mc) ++ ((oa, .inl (cJ, 1, .inr (.inl (vp_updL yo 0 (((zsp yl yt k)).toInt64))))) :: (zWM cI cJ cZ h2 th (n, L) ((zcb kt pt), (zcb km pm), (zcb kl pl)) mc (run, wc, nu, lc, le, af, tr, ms, cl, tm) (co, yn, yh, pa)))) H := hP
  have hD : va_D (zAb s.heap.size) ((zWT cI cJ h (n, L) (kt, km, kl) (pt, pm, pl) (nu, le, ow, fo, run, wc, lc, tr, cl, tm, ms) (yl, yc, yt, co, pa, su, sc) mc) ++ ((oa, .inl (cJ, 1, .inr (.inl (vp_updL yo 0 (((zsp yl yt k)).toInt64))))) :: (zWM cI cJ cZ h2 th (n, L) ((zcb kt pt), (zcb km pm), (zcb kl pl)) mc (run, wc, nu, lc, le, af, tr, ms, cl, tm) (co, yn, yh, pa)))) := hD
  refine lv_istore (lv' := [(5, .int 0), (0, .ref b), (1, .ref (h 0)), (2, .ref (h2 0)), (3, .ref oa), (4, .int (nI (4 * j)))]) hx hb dL_law_1059 hl (by decide) rfl (fun ls hl => ?_)
  refine lv_aload_n hx hb dL_law_1061 rfl (lv_at hl 3 rfl) ?_
  refine lv_aload_n hx hb dL_law_1062 rfl (lv_at hl 1 rfl) ?_
  refine lv_iload hx hb dL_law_1063 (lv_at hl 5 rfl) ?_
  refine lv_iconst (v := 1) hx hb dL_law_1065 (by decide) ?_
  refine lv_iadd hx hb dL_law_1066 ?_
  refine lv_topi (fun v_5 ev_5 => ?_)
  obtain rfl : v_5 = (nI ((4 * j) + 1)) := ev_5.trans (nI_add (4 * j) 1)
  refine va_sld hx hb hX hbl hbA hS (vp_in_nI (n := ((4 * j) + 1)) (N := L9) (by omega) (by omega)) dL_law_1067 ?_
  refine lv_topi (fun v_6 ev_6 => ?_)
  obtain rfl : (nI k) = v_6 := (ev_6.trans ((congrArg xs (nI_clamp (by omega))).trans ea1)).symm
  refine lv_aload_n hx hb dL_law_1068 rfl (lv_at hl 1 rfl) ?_
  refine lv_iload hx hb dL_law_1069 (lv_at hl 5 rfl) ?_
  refine lv_iconst (v := 2) hx hb dL_law_1071 (by decide) ?_
  refine lv_iadd hx hb dL_law_1072 ?_
  refine lv_topi (fun v_7 ev_7 => ?_)
  obtain rfl : v_7 = (nI ((4 * j) + 2)) := ev_7.trans (nI_add (4 * j) 2)
  refine va_sld hx hb hX hbl hbA hS (vp_in_nI (n := ((4 * j) + 2)) (N := L9) (by omega) (by omega)) dL_law_1073 ?_
  refine lv_topi (fun v_8 ev_8 => ?_)
  obtain rfl : 3 = v_8 := (ev_8.trans ((congrArg xs (nI_clamp (by omega))).trans ea2)).symm
  have hP9 : va_P D vwCl ((zWM cI cJ cZ h2 th (n, L) ((zcb kt pt), (zcb km pm), (zcb kl pl)) mc (run, wc, nu, lc, le, af, tr, ms, cl, tm) (co, yn, yh, pa)) ++ ((zWT cI cJ h (n, L) (kt, km, kl) (pt, pm, pl) (nu, le, ow, fo, run, wc, lc, tr, cl, tm, ms) (yl, yc, yt, co, pa, su, sc) mc) ++ [(oa, .inl (cJ, 1, .inr (.inl (vp_updL yo 0 (((zsp yl yt k)).toInt64)))))])) H := zswapP (A := (zWT cI cJ h (n, L) (kt, km, kl) (pt, pm, pl) (nu, le, ow, fo, run, wc, lc, tr, cl, tm, ms) (yl, yc, yt, co, pa, su, sc) mc) ++ [(oa, .inl (cJ, 1, .inr (.inl (vp_updL yo 0 (((zsp yl yt k)).toInt64)))))]) (Bw := (zWM cI cJ cZ h2 th (n, L) ((zcb kt pt), (zcb km pm), (zcb kl pl)) mc (run, wc, nu, lc, le, af, tr, ms, cl, tm) (co, yn, yh, pa))) hP
  have hD9 : va_D (zAb s.heap.size) ((zWM cI cJ cZ h2 th (n, L) ((zcb kt pt), (zcb km pm), (zcb kl pl)) mc (run, wc, nu, lc, le, af, tr, ms, cl, tm) (co, yn, yh, pa)) ++ ((zWT cI cJ h (n, L) (kt, km, kl) (pt, pm, pl) (nu, le, ow, fo, run, wc, lc, tr, cl, tm, ms) (yl, yc, yt, co, pa, su, sc) mc) ++ [(oa, .inl (cJ, 1, .inr (.inl (vp_updL yo 0 (((zsp yl yt k)).toInt64)))))])) := zswapD (A := (zWT cI cJ h (n, L) (kt, km, kl) (pt, pm, pl) (nu, le, ow, fo, run, wc, lc, tr, cl, tm, ms) (yl, yc, yt, co, pa, su, sc) mc) ++ [(oa, .inl (cJ, 1, .inr (.inl (vp_updL yo 0 (((zsp yl yt k)).toInt64)))))]) (Bw := (zWM cI cJ cZ h2 th (n, L) ((zcb kt pt), (zcb km pm), (zcb kl pl)) mc (run, wc, nu, lc, le, af, tr, ms, cl, tm) (co, yn, yh, pa))) hD
  refine zci (zrV (As := [.int (nI k), .int 3]) (rest := []) ⟨hx, hb, hml, hown, hts⟩ (zV 0 hP9 hD9 hK hE hB hS rfl rfl) (c_X5_lesson_3 (k := k) (yl := yl) (yc := yc) (yt := yt) (hHi.1) (hk) (hHi.2.1) (hHi.2.2.1)) (cwV 2 hts gL_law_X5_lesson rfl rfl rfl hdv_X5_lesson ⟨Nat.le_of_ble_eq_true rfl, Nat.le_of_ble_eq_true rfl⟩) rfl rfl hl.1 rfl (lv_room (Nat.le_of_ble_eq_true rfl)) dL_law_1074 ⟨(show cc + 0 + 0 ≤ 601024 by omega), (show ss + 0 + 0 ≤ 7293034 by omega)⟩) hS (fun H locs hP hD hS => ?_)
  have hP : va_P D vwCl ((zWT cI cJ h (n, L) (kt, km, kl) (pt, pm, pl) (nu, le, ow, fo, run, wc, lc, tr, cl, tm, ms) (yl, yc, yt, co, pa, su, sc) mc) ++ ((oa, .inl (cJ, 1, .inr (.inl (vp_updL yo 0 (((zsp yl yt k)).toInt64))))) :: (zWM cI cJ cZ h2 0 (n, L) ((zcb kt pt), (zcb km pm), (zcb kl pl)) mc (run, wc, nu, lc, le, af, tr, ms, cl, tm) (co, yn, yh, pa)))) H := zswapP (A := (zWM cI cJ cZ h2 0 (n, L) ((zcb kt pt), (zcb km pm), (zcb kl pl)) mc (run, wc, nu, lc, le, af, tr, ms, cl, tm) (co, yn, yh, pa))) (Bw := (zWT cI cJ h (n, L) (kt, km, kl) (pt, pm, pl) (nu, le, ow, fo, run, wc, lc, tr, cl, tm, ms) (yl, yc, yt, co, pa, su, sc) mc) ++ [(oa, .inl (cJ, 1, .inr (.inl (vp_updL yo 0 (((zsp yl yt k)).toInt64)))))]) hP
  have hD : va_D (zAb s.heap.size) ((zWT cI cJ h (n, L) (kt, km, kl) (pt, pm, pl) (nu, le, ow, fo, run, wc, lc, tr, cl, tm, ms) (yl, yc, yt, co, pa, su, sc) mc) ++ ((oa, .inl (cJ, 1, .inr (.inl (vp_updL yo 0 (((zsp yl yt k)).toInt64))))) :: (zWM cI cJ cZ h2 0 (n, L) ((zcb kt pt), (zcb km pm), (zcb kl pl)) mc (run, wc, nu, lc, le, af, tr, ms, cl, tm) (co, yn, yh, pa)))) := zswapD (A := (zWM cI cJ cZ h2 0 (n, L) ((zcb kt pt), (zcb km pm), (zcb kl pl)) mc (run, wc, nu, lc, le, af, tr, ms, cl, tm) (co, yn, yh, pa))) (Bw := (zWT cI cJ h (n, L) (kt, km, kl) (pt, pm, pl) (nu, le, ow, fo, run, wc, lc, tr, cl, tm, ms) (yl, yc, yt, co, pa, su, sc) mc) ++ [(oa, .inl (cJ, 1, .inr (.inl (vp_updL yo 0 (((zsp yl yt k)).toInt64)))))]) hD
  refine lv_istore (lv' := [(6, .int (zsp yl yt k)), (5, .int 0), (0, .ref b), (1, .ref (h 0)), (2, .ref (h2 0)), (3, .ref oa), (4, .int (nI (4 * j)))]) hx hb dL_law_1077 hl (by decide) rfl (fun ls hl => ?_)
  refine lv_aload_n hx hb dL_law_1079 rfl (lv_at hl 4 rfl) ?_
  have hP9 : va_P D vwCl ((zWM cI cJ cZ h2 0 (n, L) ((zcb kt pt), (zcb km pm), (zcb kl pl)) mc (run, wc, nu, lc, le, af, tr, ms, cl, tm) (co, yn, yh, pa)) ++ ((zWT cI cJ h (n, L) (kt, km, kl) (pt, pm, pl) (nu, le, ow, fo, run, wc, lc, tr, cl, tm, ms) (yl, yc, yt, co, pa, su, sc) mc) ++ [(oa, .inl (cJ, 1, .inr (.inl (vp_updL yo 0 (((zsp yl yt k)).toInt64)))))])) H := zswapP (A := (zWT cI cJ h (n, L) (kt, km, kl) (pt, pm, pl) (nu, le, ow, fo, run, wc, lc, tr, cl, tm, ms) (yl, yc, yt, co, pa, su, sc) mc) ++ [(oa, .inl (cJ, 1, .inr (.inl (vp_updL yo 0 (((zsp yl yt k)).toInt64)))))]) (Bw := (zWM cI cJ cZ h2 0 (n, L) ((zcb kt pt), (zcb km pm), (zcb kl pl)) mc (run, wc, nu, lc, le, af, tr, ms, cl, tm) (co, yn, yh, pa))) hP
  have hD9 : va_D (zAb s.heap.size) ((zWM cI cJ cZ h2 0 (n, L) ((zcb kt pt), (zcb km pm), (zcb kl pl)) mc (run, wc, nu, lc, le, af, tr, ms, cl, tm) (co, yn, yh, pa)) ++ ((zWT cI cJ h (n, L) (kt, km, kl) (pt, pm, pl) (nu, le, ow, fo, run, wc, lc, tr, cl, tm, ms) (yl, yc, yt, co, pa, su, sc) mc) ++ [(oa, .inl (cJ, 1, .inr (.inl (vp_updL yo 0 (((zsp yl yt k)).toInt64)))))])) := zswapD (A := (zWT cI cJ h (n, L) (kt, km, kl) (pt, pm, pl) (nu, le, ow, fo, run, wc, lc, tr, cl, tm, ms) (yl, yc, yt, co, pa, su, sc) mc) ++ [(oa, .inl (cJ, 1, .inr (.inl (vp_updL yo 0 (((zsp yl yt k)).toInt64)))))]) (Bw := (zWM cI cJ cZ h2 0 (n, L) ((zcb kt pt), (zcb km pm), (zcb kl pl)) mc (run, wc, nu, lc, le, af, tr, ms, cl, tm) (co, yn, yh, pa))) hD
  refine zci (zrV (As := []) (rest := []) ⟨hx, hb, hml, hown, hts⟩ (zV 0 hP9 hD9 hK hE hB hS rfl rfl) (c_X5_thrown  ) (cwV 0 hts gL_law_X5_thrown rfl rfl rfl hdv_X5_thrown ⟨Nat.le_of_ble_eq_true rfl, Nat.le_of_ble_eq_true rfl⟩) rfl rfl hl.1 rfl (lv_room (Nat.le_of_ble_eq_true rfl)) dL_law_1080 ⟨(show cc + 0 + 0 + 0 ≤ 601024 by omega), (show ss + 0 + 0 + 0 ≤ 7293034 by omega)⟩) hS (fun H locs hP hD hS => ?_)
  have hP : va_P D vwCl ((zWT cI cJ h (n, L) (kt, km, kl) (pt, pm, pl) (nu, le, ow, fo, run, wc, lc, tr, cl, tm, ms) (yl, yc, yt, co, pa, su, sc) mc) ++ ((oa, .inl (cJ, 1, .inr (.inl (vp_updL yo 0 (((zsp yl yt k)).toInt64))))) :: (zWM cI cJ cZ h2 0 (n, L) ((zcb kt pt), (zcb km pm), (zcb kl pl)) mc (run, wc, nu, lc, le, af, tr, ms, cl, tm) (co, yn, yh, pa)))) H := zswapP (A := (zWM cI cJ cZ h2 0 (n, L) ((zcb kt pt), (zcb km pm), (zcb kl pl)) mc (run, wc, nu, lc, le, af, tr, ms, cl, tm) (co, yn, yh, pa))) (Bw := (zWT cI cJ h (n, L) (kt, km, kl) (pt, pm, pl) (nu, le, ow, fo, run, wc, lc, tr, cl, tm, ms) (yl, yc, yt, co, pa, su, sc) mc) ++ [(oa, .inl (cJ, 1, .inr (.inl (vp_updL yo 0 (((zsp yl yt k)).toInt64)))))]) hP
  have hD : va_D (zAb s.heap.size) ((zWT cI cJ h (n, L) (kt, km, kl) (pt, pm, pl) (nu, le, ow, fo, run, wc, lc, tr, cl, tm, ms) (yl, yc, yt, co, pa, su, sc) mc) ++ ((oa, .inl (cJ, 1, .inr (.inl (vp_updL yo 0 (((zsp yl yt k)).toInt64))))) :: (zWM cI cJ cZ h2 0 (n, L) ((zcb kt pt), (zcb km pm), (zcb kl pl)) mc (run, wc, nu, lc, le, af, tr, ms, cl, tm) (co, yn, yh, pa)))) := zswapD (A := (zWM cI cJ cZ h2 0 (n, L) ((zcb kt pt), (zcb km pm), (zcb kl pl)) mc (run, wc, nu, lc, le, af, tr, ms, cl, tm) (co, yn, yh, pa))) (Bw := (zWT cI cJ h (n, L) (kt, km, kl) (pt, pm, pl) (nu, le, ow, fo, run, wc, lc, tr, cl, tm, ms) (yl, yc, yt, co, pa, su, sc) mc) ++ [(oa, .inl (cJ, 1, .inr (.inl (vp_updL yo 0 (((zsp yl yt k)).toInt64)))))]) hD
  refine lv_iload hx hb dL_law_1083 (lv_at hl 1 rfl) ?_
  refine lv_icmp_eq (tgt := 1090) hx hb dL_law_1085 (by decide) (fun c_9 => ?_) (fun c_9 => ?_)
  · skip
    refine lv_iload hx hb dL_law_1090 (lv_at hl 1 rfl) ?_
    refine lv_if_ne (tgt := 1107) hx hb dL_law_1092 (by decide) (fun c_10 => ?_) (fun c_10 => ?_)
    · skip
      exfalso; first | omega | (revert c_10; decide) | (exact absurd rfl c_10) | simp_all
    · skip
      refine lv_aload_n hx hb dL_law_1095 rfl (lv_at hl 5 rfl) ?_
      refine lv_iconst (v := 0) hx hb dL_law_1096 (by decide) ?_
      refine va_lald hx hb hK hP 21 1 rfl rfl (vp_in_nI (n := 0) (N := 1) (by omega) (by omega)) dL_law_1097 ?_
      refine lv_topl (fun v_11 ev_11 => ?_)
      obtain rfl : (((zsp yl yt k)).toInt64) = v_11 := (ev_11.trans (pk_uLs (f := yo) (k := 0) (x := (((zsp yl yt k)).toInt64)))).symm
      refine lv_iload hx hb dL_law_1098 (lv_at hl 0 rfl) ?_
      refine lv_i2l (v := ((zsp yl yt k)).toInt64) hx hb dL_law_1100 rfl ?_
      refine W.lcmp hx hb dL_law_1101 ?_
      refine lv_if_eq (tgt := 1107) hx hb dL_law_1102 (by decide) (fun c_12 => ?_) (fun c_12 => ?_)
      · skip
        have c_12 : (((zsp yl yt k)).toInt64) = (((zsp yl yt k)).toInt64) := (lg_cmp_eq _ _).mp c_12
        refine lv_goto (tgt := 1191) hx hb dL_law_1107 (by decide) ?_
        refine W.widen (k := cc + 2) (n := ss + 1542) (show cc + 0 + 0 + 0 ≤ cc + 2 by omega) (show ss + 0 + 0 + 0 ≤ ss + 1542 by omega) ?_
        exact kont h h2 oa (vp_updL yo 0 (((zsp yl yt k)).toInt64)) 0 n L kt km kl pt pm pl nu le ow fo run wc lc tr cl tm ms yl yc yt co pa su sc mc af yn yh (hI.mono) _ _ _ hP hD hS (lv_sub hl [2, 3, 4, 5, 6] rfl)
      · skip
        have c_12 : ¬ (((zsp yl yt k)).toInt64) = (((zsp yl yt k)).toInt64) := fun hh => c_12 ((lg_cmp_eq _ _).mpr hh)
        exact absurd rfl c_12
  · skip
    exfalso; first | omega | (revert c_9; decide) | (exact absurd rfl c_9) | simp_all

set_option maxHeartbeats 1000000 in
set_option maxRecDepth 100000 in
theorem law_lesson_x {p : Program} {l : Launch} {e : Env} {s : State} {m : MethodId} {below : List Frame} {meth : Method} {c : Code} {b L9 : Nat} {xs : Nat → Int32} {D : va_G} {cI cJ cZ : ClassId} {kr kp j cc ss : Nat} {h h2 : Nat → Nat} {oa : Nat} {yo : Nat → Int64} {th : Int32} {n : Nat} {L : Nat → Int64} {kt : Nat → Int32} {km : Nat → Int32} {kl : Nat → Int32} {pt : Nat → Int32} {pm : Nat → Int32} {pl : Nat → Int32} {nu : Nat → Int32} {le : Nat → Int32} {ow : Nat → Int32} {fo : Nat → Int32} {run : Bool} {wc : Nat} {lc : Nat} {tr : Nat} {cl : Nat} {tm : Nat} {ms : Nat} {yl : Nat → Int32} {yc : Nat → Int32} {yt : Nat → Int32} {co : Nat} {pa : Int32} {su : Nat} {sc : Nat} {mc : Nat → Int32} {af : Nat → Int32} {yn : Nat} {yh : Nat → Int32} {i : Int32} {i2 : Int32} (C : zLw p l s m meth c b L9 xs D cI cJ cZ kr kp) (hj : 4 * j + 4 ≤ L9) (hcc : cc + 2 ≤ 601024) (hss : ss + 1542 ≤ 7293034) (kont : zKt p l e s m below meth c b D cI cJ cZ j cc ss) (hI : zInv j n L pt le ow af run wc lc tr cl tm ms yl yc yt co yn su sc yh) (ea1 : xs (4 * j + 1) = i) (ea2 : xs (4 * j + 2) = i2) (h1 : ¬ (¬ i < 0 ∧ ¬ nI co ≤ i ∧ ¬ i2 < 0 ∧ i2 ≤ 3)) {H : Heap} {locs : List Loc} {ls : Array Slot} (hP : va_P D vwCl ((zWT cI cJ h (n, L) (kt, km, kl) (pt, pm, pl) (nu, le, ow, fo, run, wc, lc, tr, cl, tm, ms) (yl, yc, yt, co, pa, su, sc) mc) ++ ((oa, .inl (cJ, 1, .inr (.inl yo))) :: (zWM cI cJ cZ h2 th (n, L) ((zcb kt pt), (zcb km pm), (zcb kl pl)) mc (run, wc, nu, lc, le, af, tr, ms, cl, tm) (co, yn, yh, pa)))) H) (hD : va_D (zAb s.heap.size) ((zWT cI cJ h (n, L) (kt, km, kl) (pt, pm, pl) (nu, le, ow, fo, run, wc, lc, tr, cl, tm, ms) (yl, yc, yt, co, pa, su, sc) mc) ++ ((oa, .inl (cJ, 1, .inr (.inl yo))) :: (zWM cI cJ cZ h2 th (n, L) ((zcb kt pt), (zcb km pm), (zcb kl pl)) mc (run, wc, nu, lc, le, af, tr, ms, cl, tm) (co, yn, yh, pa))))) (hS : va_S (zAb s.heap.size) s.heap H locs) (hl : lv_has ls 9 [(0, .ref b), (1, .ref (h 0)), (2, .ref (h2 0)), (3, .ref oa), (4, .int (nI (4 * j)))]) : W p l e room_1 s m #[Value.ref b] below meth c H locs cc ss (lw_Z below #[Value.ref b] s) (F0 m 1042 ls []) := by
  obtain ⟨C0, hls, hK, hE, hL9⟩ := C
  obtain ⟨hx, hb, hr, hml, hown, hts0, hX, hbl, hlocks, hgv⟩ := C0
  have hts : ∀ w ∈ wsL_law, w.before #[Value.ref b] s = true := fun w h => hts0 w (wsL_law_in w h)
  have hbA : ¬ zAb s.heap.size b := Nat.not_le.mpr hbl
  have hB : s.heap.size ≤ s.heap.size := Nat.le_refl _
  have hn40 := hI.1.1
  have hzk := hI.1.2
  obtain ⟨hwc6, hlc48, htrl, hclt, hms1⟩ := hI.2.1
  have hrt := hI.2.2.1
  have hle := hI.2.2.2.1
  have hMk := hI.2.2.2.2.1
  have hct := hI.2.2.2.2.2.1
  have hHi := hI.2.2.2.2.2.2.1
  have hsu := hI.2.2.2.2.2.2.2.2.1
  have hj5 : j ≤ 511 := by omega
  have hco : co < 256 := by have := hct.1; omega
  have hco6 : co ≤ 256 := Nat.le_of_lt hco
  have hsl : su < 2147483648 := by have := hsu.2.2; omega
  have hpt := hI.hpt (Nat.le_succ_of_le hj5)
  refine lv_aload_n hx hb dL_law_1042 rfl (lv_at hl 1 rfl) ?_
  refine lv_aload_n hx hb dL_law_1043 rfl (lv_at hl 0 rfl) ?_
  refine lv_iload hx hb dL_law_1044 (lv_at hl 4 rfl) ?_
  refine lv_iconst (v := 1) hx hb dL_law_1046 (by decide) ?_
  refine lv_iadd hx hb dL_law_1047 ?_
  refine lv_topi (fun v_1 ev_1 => ?_)
  obtain rfl : v_1 = (nI ((4 * j) + 1)) := ev_1.trans (nI_add (4 * j) 1)
  refine va_sld hx hb hX hbl hbA hS (vp_in_nI (n := ((4 * j) + 1)) (N := L9) (by omega) (by omega)) dL_law_1048 ?_
  refine lv_topi (fun v_2 ev_2 => ?_)
  obtain rfl : i = v_2 := (ev_2.trans ((congrArg xs (nI_clamp (by omega))).trans ea1)).symm
  refine lv_aload_n hx hb dL_law_1049 rfl (lv_at hl 0 rfl) ?_
  refine lv_iload hx hb dL_law_1050 (lv_at hl 4 rfl) ?_
  refine lv_iconst (v := 2) hx hb dL_law_1052 (by decide) ?_
  refine lv_iadd hx hb dL_law_1053 ?_
  refine lv_topi (fun v_3 ev_3 => ?_)
  obtain rfl : v_3 = (nI ((4 * j) + 2)) := ev_3.trans (nI_add (4 * j) 2)
  refine va_sld hx hb hX hbl hbA hS (vp_in_nI (n := ((4 * j) + 2)) (N := L9) (by omega) (by omega)) dL_law_1054 ?_
  refine lv_topi (fun v_4 ev_4 => ?_)
  obtain rfl : i2 = v_4 := (ev_4.trans ((congrArg xs (nI_clamp (by omega))).trans ea2)).symm
  refine lv_aload_n hx hb dL_law_1055 rfl (lv_at hl 3 rfl) ?_
  refine zci (vx_runSW (As := [.ref (h 0), .int i, .int i2, .ref oa]) (rest := []) ⟨hx, hb, hml, hown, hts⟩ (c_L_lesson_x  hls (h1)) (vx_cwSW 4 hts gL_law_L_lesson rfl rfl rfl hds_L_lesson ⟨Nat.le_of_ble_eq_true rfl, Nat.le_of_ble_eq_true rfl⟩) (zS hP hD hK hE hB hS) rfl rfl hl.1 rfl (lv_room (Nat.le_of_ble_eq_true rfl)) dL_law_1056 ⟨(show cc + 1 ≤ 601024 by omega), (show ss + 6 ≤ 7293034 by omega)⟩) hS (fun H locs hP hD hS => ?_)
  have hP : va_P D vwCl ((zWT cI cJ h (n, L) (kt, km, kl) (pt, pm, pl) (nu, le, ow, fo, run, wc, lc, tr, cl, tm, ms) (yl, yc, yt, co, pa, su, sc) mc) ++ ((oa, .inl (cJ, 1, .inr (.inl yo))) :: (zWM cI cJ cZ h2 th (n, L) ((zcb kt pt), (zcb km pm), (zcb kl pl)) mc (run, wc, nu, lc, le, af, tr, ms, cl, tm) (co, yn, yh, pa)))) H := hP
  have hD : va_D (zAb s.heap.size) ((zWT cI cJ h (n, L) (kt, km, kl) (pt, pm, pl) (nu, le, ow, fo, run, wc, lc, tr, cl, tm, ms) (yl, yc, yt, co, pa, su, sc) mc) ++ ((oa, .inl (cJ, 1, .inr (.inl yo))) :: (zWM cI cJ cZ h2 th (n, L) ((zcb kt pt), (zcb km pm), (zcb kl pl)) mc (run, wc, nu, lc, le, af, tr, ms, cl, tm) (co, yn, yh, pa)))) := hD
  refine lv_istore (lv' := [(5, .int 1), (0, .ref b), (1, .ref (h 0)), (2, .ref (h2 0)), (3, .ref oa), (4, .int (nI (4 * j)))]) hx hb dL_law_1059 hl (by decide) rfl (fun ls hl => ?_)
  refine lv_aload_n hx hb dL_law_1061 rfl (lv_at hl 3 rfl) ?_
  refine lv_aload_n hx hb dL_law_1062 rfl (lv_at hl 1 rfl) ?_
  refine lv_iload hx hb dL_law_1063 (lv_at hl 5 rfl) ?_
  refine lv_iconst (v := 1) hx hb dL_law_1065 (by decide) ?_
  refine lv_iadd hx hb dL_law_1066 ?_
  refine lv_topi (fun v_5 ev_5 => ?_)
  obtain rfl : v_5 = (nI ((4 * j) + 1)) := ev_5.trans (nI_add (4 * j) 1)
  refine va_sld hx hb hX hbl hbA hS (vp_in_nI (n := ((4 * j) + 1)) (N := L9) (by omega) (by omega)) dL_law_1067 ?_
  refine lv_topi (fun v_6 ev_6 => ?_)
  obtain rfl : i = v_6 := (ev_6.trans ((congrArg xs (nI_clamp (by omega))).trans ea1)).symm
  refine lv_aload_n hx hb dL_law_1068 rfl (lv_at hl 1 rfl) ?_
  refine lv_iload hx hb dL_law_1069 (lv_at hl 5 rfl) ?_
  refine lv_iconst (v := 2) hx hb dL_law_1071 (by decide) ?_
  refine lv_iadd hx hb dL_law_1072 ?_
  refine lv_topi (fun v_7 ev_7 => ?_)
  obtain rfl : v_7 = (nI ((4 * j) + 2)) := ev_7.trans (nI_add (4 * j) 2)
  refine va_sld hx hb hX hbl hbA hS (vp_in_nI (n := ((4 * j) + 2)) (N := L9) (by omega) (by omega)) dL_law_1073 ?_
  refine lv_topi (fun v_8 ev_8 => ?_)
  obtain rfl : i2 = v_8 := (ev_8.trans ((congrArg xs (nI_clamp (by omega))).trans ea2)).symm
  have hP9 : va_P D vwCl ((zWM cI cJ cZ h2 th (n, L) ((zcb kt pt), (zcb km pm), (zcb kl pl)) mc (run, wc, nu, lc, le, af, tr, ms, cl, tm) (co, yn, yh, pa)) ++ ((zWT cI cJ h (n, L) (kt, km, kl) (pt, pm, pl) (nu, le, ow, fo, run, wc, lc, tr, cl, tm, ms) (yl, yc, yt, co, pa, su, sc) mc) ++ [(oa, .inl (cJ, 1, .inr (.inl yo)))])) H := zswapP (A := (zWT cI cJ h (n, L) (kt, km, kl) (pt, pm, pl) (nu, le, ow, fo, run, wc, lc, tr, cl, tm, ms) (yl, yc, yt, co, pa, su, sc) mc) ++ [(oa, .inl (cJ, 1, .inr (.inl yo)))]) (Bw := (zWM cI cJ cZ h2 th (n, L) ((zcb kt pt), (zcb km pm), (zcb kl pl)) mc (run, wc, nu, lc, le, af, tr, ms, cl, tm) (co, yn, yh, pa))) hP
  have hD9 : va_D (zAb s.heap.size) ((zWM cI cJ cZ h2 th (n, L) ((zcb kt pt), (zcb km pm), (zcb kl pl)) mc (run, wc, nu, lc, le, af, tr, ms, cl, tm) (co, yn, yh, pa)) ++ ((zWT cI cJ h (n, L) (kt, km, kl) (pt, pm, pl) (nu, le, ow, fo, run, wc, lc, tr, cl, tm, ms) (yl, yc, yt, co, pa, su, sc) mc) ++ [(oa, .inl (cJ, 1, .inr (.inl yo)))])) := zswapD (A := (zWT cI cJ h (n, L) (kt, km, kl) (pt, pm, pl) (nu, le, ow, fo, run, wc, lc, tr, cl, tm, ms) (yl, yc, yt, co, pa, su, sc) mc) ++ [(oa, .inl (cJ, 1, .inr (.inl yo)))]) (Bw := (zWM cI cJ cZ h2 th (n, L) ((zcb kt pt), (zcb km pm), (zcb kl pl)) mc (run, wc, nu, lc, le, af, tr, ms, cl, tm) (co, yn, yh, pa))) hD
  refine zci (zrV (As := [.int i, .int i2]) (rest := []) ⟨hx, hb, hml, hown, hts⟩ (zV 0 hP9 hD9 hK hE hB hS rfl rfl) (c_X5_lesson_x  (h1)) (cwV 2 hts gL_law_X5_lesson rfl rfl rfl hdv_X5_lesson ⟨Nat.le_of_ble_eq_true rfl, Nat.le_of_ble_eq_true rfl⟩) rfl rfl hl.1 rfl (lv_room (Nat.le_of_ble_eq_true rfl)) dL_law_1074 ⟨(show cc + 1 + 0 ≤ 601024 by omega), (show ss + 6 + 0 ≤ 7293034 by omega)⟩) hS (fun H locs hP hD hS => ?_)
  have hP : va_P D vwCl ((zWT cI cJ h (n, L) (kt, km, kl) (pt, pm, pl) (nu, le, ow, fo, run, wc, lc, tr, cl, tm, ms) (yl, yc, yt, co, pa, su, sc) mc) ++ ((oa, .inl (cJ, 1, .inr (.inl yo))) :: (zWM cI cJ cZ h2 1 (n, L) ((zcb kt pt), (zcb km pm), (zcb kl pl)) mc (run, wc, nu, lc, le, af, tr, ms, cl, tm) (co, yn, yh, pa)))) H := zswapP (A := (zWM cI cJ cZ h2 1 (n, L) ((zcb kt pt), (zcb km pm), (zcb kl pl)) mc (run, wc, nu, lc, le, af, tr, ms, cl, tm) (co, yn, yh, pa))) (Bw := (zWT cI cJ h (n, L) (kt, km, kl) (pt, pm, pl) (nu, le, ow, fo, run, wc, lc, tr, cl, tm, ms) (yl, yc, yt, co, pa, su, sc) mc) ++ [(oa, .inl (cJ, 1, .inr (.inl yo)))]) hP
  have hD : va_D (zAb s.heap.size) ((zWT cI cJ h (n, L) (kt, km, kl) (pt, pm, pl) (nu, le, ow, fo, run, wc, lc, tr, cl, tm, ms) (yl, yc, yt, co, pa, su, sc) mc) ++ ((oa, .inl (cJ, 1, .inr (.inl yo))) :: (zWM cI cJ cZ h2 1 (n, L) ((zcb kt pt), (zcb km pm), (zcb kl pl)) mc (run, wc, nu, lc, le, af, tr, ms, cl, tm) (co, yn, yh, pa)))) := zswapD (A := (zWM cI cJ cZ h2 1 (n, L) ((zcb kt pt), (zcb km pm), (zcb kl pl)) mc (run, wc, nu, lc, le, af, tr, ms, cl, tm) (co, yn, yh, pa))) (Bw := (zWT cI cJ h (n, L) (kt, km, kl) (pt, pm, pl) (nu, le, ow, fo, run, wc, lc, tr, cl, tm, ms) (yl, yc, yt, co, pa, su, sc) mc) ++ [(oa, .inl (cJ, 1, .inr (.inl yo)))]) hD
  refine lv_istore (lv' := [(6, .int 0), (5, .int 1), (0, .ref b), (1, .ref (h 0)), (2, .ref (h2 0)), (3, .ref oa), (4, .int (nI (4 * j)))]) hx hb dL_law_1077 hl (by decide) rfl (fun ls hl => ?_)
  refine lv_aload_n hx hb dL_law_1079 rfl (lv_at hl 4 rfl) ?_
  have hP9 : va_P D vwCl ((zWM cI cJ cZ h2 1 (n, L) ((zcb kt pt), (zcb km pm), (zcb kl pl)) mc (run, wc, nu, lc, le, af, tr, ms, cl, tm) (co, yn, yh, pa)) ++ ((zWT cI cJ h (n, L) (kt, km, kl) (pt, pm, pl) (nu, le, ow, fo, run, wc, lc, tr, cl, tm, ms) (yl, yc, yt, co, pa, su, sc) mc) ++ [(oa, .inl (cJ, 1, .inr (.inl yo)))])) H := zswapP (A := (zWT cI cJ h (n, L) (kt, km, kl) (pt, pm, pl) (nu, le, ow, fo, run, wc, lc, tr, cl, tm, ms) (yl, yc, yt, co, pa, su, sc) mc) ++ [(oa, .inl (cJ, 1, .inr (.inl yo)))]) (Bw := (zWM cI cJ cZ h2 1 (n, L) ((zcb kt pt), (zcb km pm), (zcb kl pl)) mc (run, wc, nu, lc, le, af, tr, ms, cl, tm) (co, yn, yh, pa))) hP
  have hD9 : va_D (zAb s.heap.size) ((zWM cI cJ cZ h2 1 (n, L) ((zcb kt pt), (zcb km pm), (zcb kl pl)) mc (run, wc, nu, lc, le, af, tr, ms, cl, tm) (co, yn, yh, pa)) ++ ((zWT cI cJ h (n, L) (kt, km, kl) (pt, pm, pl) (nu, le, ow, fo, run, wc, lc, tr, cl, tm, ms) (yl, yc, yt, co, pa, su, sc) mc) ++ [(oa, .inl (cJ, 1, .inr (.inl yo)))])) := zswapD (A := (zWT cI cJ h (n, L) (kt, km, kl) (pt, pm, pl) (nu, le, ow, fo, run, wc, lc, tr, cl, tm, ms) (yl, yc, yt, co, pa, su, sc) mc) ++ [(oa, .inl (cJ, 1, .inr (.inl yo)))]) (Bw := (zWM cI cJ cZ h2 1 (n, L) ((zcb kt pt), (zcb km pm), (zcb kl pl)) mc (run, wc, nu, lc, le, af, tr, ms, cl, tm) (co, yn, yh, pa))) hD
  refine zci (zrV (As := []) (rest := []) ⟨hx, hb, hml, hown, hts⟩ (zV 0 hP9 hD9 hK hE hB hS rfl rfl) (c_X5_thrown  ) (cwV 0 hts gL_law_X5_thrown rfl rfl rfl hdv_X5_thrown ⟨Nat.le_of_ble_eq_true rfl, Nat.le_of_ble_eq_true rfl⟩) rfl rfl hl.1 rfl (lv_room (Nat.le_of_ble_eq_true rfl)) dL_law_1080 ⟨(show cc + 1 + 0 + 0 ≤ 601024 by omega), (show ss + 6 + 0 + 0 ≤ 7293034 by omega)⟩) hS (fun H locs hP hD hS => ?_)
  have hP : va_P D vwCl ((zWT cI cJ h (n, L) (kt, km, kl) (pt, pm, pl) (nu, le, ow, fo, run, wc, lc, tr, cl, tm, ms) (yl, yc, yt, co, pa, su, sc) mc) ++ ((oa, .inl (cJ, 1, .inr (.inl yo))) :: (zWM cI cJ cZ h2 1 (n, L) ((zcb kt pt), (zcb km pm), (zcb kl pl)) mc (run, wc, nu, lc, le, af, tr, ms, cl, tm) (co, yn, yh, pa)))) H := zswapP (A := (zWM cI cJ cZ h2 1 (n, L) ((zcb kt pt), (zcb km pm), (zcb kl pl)) mc (run, wc, nu, lc, le, af, tr, ms, cl, tm) (co, yn, yh, pa))) (Bw := (zWT cI cJ h (n, L) (kt, km, kl) (pt, pm, pl) (nu, le, ow, fo, run, wc, lc, tr, cl, tm, ms) (yl, yc, yt, co, pa, su, sc) mc) ++ [(oa, .inl (cJ, 1, .inr (.inl yo)))]) hP
  have hD : va_D (zAb s.heap.size) ((zWT cI cJ h (n, L) (kt, km, kl) (pt, pm, pl) (nu, le, ow, fo, run, wc, lc, tr, cl, tm, ms) (yl, yc, yt, co, pa, su, sc) mc) ++ ((oa, .inl (cJ, 1, .inr (.inl yo))) :: (zWM cI cJ cZ h2 1 (n, L) ((zcb kt pt), (zcb km pm), (zcb kl pl)) mc (run, wc, nu, lc, le, af, tr, ms, cl, tm) (co, yn, yh, pa)))) := zswapD (A := (zWM cI cJ cZ h2 1 (n, L) ((zcb kt pt), (zcb km pm), (zcb kl pl)) mc (run, wc, nu, lc, le, af, tr, ms, cl, tm) (co, yn, yh, pa))) (Bw := (zWT cI cJ h (n, L) (kt, km, kl) (pt, pm, pl) (nu, le, ow, fo, run, wc, lc, tr, cl, tm, ms) (yl, yc, yt, co, pa, su, sc) mc) ++ [(oa, .inl (cJ, 1, .inr (.inl yo)))]) hD
  refine lv_iload hx hb dL_law_1083 (lv_at hl 1 rfl) ?_
  refine lv_icmp_eq (tgt := 1090) hx hb dL_law_1085 (by decide) (fun c_9 => ?_) (fun c_9 => ?_)
  · skip
    refine lv_iload hx hb dL_law_1090 (lv_at hl 1 rfl) ?_
    refine lv_if_ne (tgt := 1107) hx hb dL_law_1092 (by decide) (fun c_10 => ?_) (fun c_10 => ?_)
    · skip
      refine lv_goto (tgt := 1191) hx hb dL_law_1107 (by decide) ?_
      refine W.widen (k := cc + 2) (n := ss + 1542) (show cc + 1 + 0 + 0 ≤ cc + 2 by omega) (show ss + 6 + 0 + 0 ≤ ss + 1542 by omega) ?_
      exact kont h h2 oa yo 1 n L kt km kl pt pm pl nu le ow fo run wc lc tr cl tm ms yl yc yt co pa su sc mc af yn yh (hI.mono) _ _ _ hP hD hS (lv_sub hl [2, 3, 4, 5, 6] rfl)
    · skip
      exfalso; first | omega | (revert c_10; decide) | (exact absurd rfl c_10) | simp_all
  · skip
    exfalso; first | omega | (revert c_9; decide) | (exact absurd rfl c_9) | simp_all

set_option maxHeartbeats 1000000 in
set_option maxRecDepth 100000 in
theorem law_pace {p : Program} {l : Launch} {e : Env} {s : State} {m : MethodId} {below : List Frame} {meth : Method} {c : Code} {b L9 : Nat} {xs : Nat → Int32} {D : va_G} {cI cJ cZ : ClassId} {kr kp j cc ss : Nat} {h h2 : Nat → Nat} {oa : Nat} {yo : Nat → Int64} {th : Int32} {n : Nat} {L : Nat → Int64} {kt : Nat → Int32} {km : Nat → Int32} {kl : Nat → Int32} {pt : Nat → Int32} {pm : Nat → Int32} {pl : Nat → Int32} {nu : Nat → Int32} {le : Nat → Int32} {ow : Nat → Int32} {fo : Nat → Int32} {run : Bool} {wc : Nat} {lc : Nat} {tr : Nat} {cl : Nat} {tm : Nat} {ms : Nat} {yl : Nat → Int32} {yc : Nat → Int32} {yt : Nat → Int32} {co : Nat} {pa : Int32} {su : Nat} {sc : Nat} {mc : Nat → Int32} {af : Nat → Int32} {yn : Nat} {yh : Nat → Int32}  (C : zLw p l s m meth c b L9 xs D cI cJ cZ kr kp) (hj : 4 * j + 4 ≤ L9) (hcc : cc + 2 ≤ 601024) (hss : ss + 1542 ≤ 7293034) (kont : zKt p l e s m below meth c b D cI cJ cZ j cc ss) (hI : zInv j n L pt le ow af run wc lc tr cl tm ms yl yc yt co yn su sc yh)  {H : Heap} {locs : List Loc} {ls : Array Slot} (hP : va_P D vwCl ((zWT cI cJ h (n, L) (kt, km, kl) (pt, pm, pl) (nu, le, ow, fo, run, wc, lc, tr, cl, tm, ms) (yl, yc, yt, co, pa, su, sc) mc) ++ ((oa, .inl (cJ, 1, .inr (.inl yo))) :: (zWM cI cJ cZ h2 th (n, L) ((zcb kt pt), (zcb km pm), (zcb kl pl)) mc (run, wc, nu, lc, le, af, tr, ms, cl, tm) (co, yn, yh, pa)))) H) (hD : va_D (zAb s.heap.size) ((zWT cI cJ h (n, L) (kt, km, kl) (pt, pm, pl) (nu, le, ow, fo, run, wc, lc, tr, cl, tm, ms) (yl, yc, yt, co, pa, su, sc) mc) ++ ((oa, .inl (cJ, 1, .inr (.inl yo))) :: (zWM cI cJ cZ h2 th (n, L) ((zcb kt pt), (zcb km pm), (zcb kl pl)) mc (run, wc, nu, lc, le, af, tr, ms, cl, tm) (co, yn, yh, pa))))) (hS : va_S (zAb s.heap.size) s.heap H locs) (hl : lv_has ls 9 [(0, .ref b), (1, .ref (h 0)), (2, .ref (h2 0)), (3, .ref oa), (4, .int (nI (4 * j)))]) : W p l e room_1 s m #[Value.ref b] below meth c H locs cc ss (lw_Z below #[Value.ref b] s) (F0 m 1110 ls []) := by
  obtain ⟨C0, hls, hK, hE, hL9⟩ := C
  obtain ⟨hx, hb, hr, hml, hown, hts0, hX, hbl, hlocks, hgv⟩ := C0
  have hts : ∀ w ∈ wsL_law, w.before #[Value.ref b] s = true := fun w h => hts0 w (wsL_law_in w h)
  have hbA : ¬ zAb s.heap.size b := Nat.not_le.mpr hbl
  have hB : s.heap.size ≤ s.heap.size := Nat.le_refl _
  have hn40 := hI.1.1
  have hzk := hI.1.2
  obtain ⟨hwc6, hlc48, htrl, hclt, hms1⟩ := hI.2.1
  have hrt := hI.2.2.1
  have hle := hI.2.2.2.1
  have hMk := hI.2.2.2.2.1
  have hct := hI.2.2.2.2.2.1
  have hHi := hI.2.2.2.2.2.2.1
  have hsu := hI.2.2.2.2.2.2.2.2.1
  have hj5 : j ≤ 511 := by omega
  have hco : co < 256 := by have := hct.1; omega
  have hco6 : co ≤ 256 := Nat.le_of_lt hco
  have hsl : su < 2147483648 := by have := hsu.2.2; omega
  have hpt := hI.hpt (Nat.le_succ_of_le hj5)
  refine lv_aload_n hx hb dL_law_1110 rfl (lv_at hl 1 rfl) ?_
  refine zci (zrV (As := []) (rest := []) ⟨hx, hb, hml, hown, hts⟩ (zV 0 hP hD hK hE hB hS rfl rfl) (c_X4_pace  ) (cwV 0 hts gL_law_X4_pace rfl rfl rfl hdv_X4_pace ⟨Nat.le_of_ble_eq_true rfl, Nat.le_of_ble_eq_true rfl⟩) rfl rfl hl.1 rfl (lv_room (Nat.le_of_ble_eq_true rfl)) dL_law_1111 ⟨(show cc + 0 ≤ 601024 by omega), (show ss + 0 ≤ 7293034 by omega)⟩) hS (fun H locs hP hD hS => ?_)
  have hP : va_P D vwCl ((zWT cI cJ h (n, L) (kt, km, kl) (pt, pm, pl) (nu, le, ow, fo, run, wc, lc, tr, cl, tm, ms) (yl, yc, yt, co, pa, su, sc) mc) ++ ((oa, .inl (cJ, 1, .inr (.inl yo))) :: (zWM cI cJ cZ h2 th (n, L) ((zcb kt pt), (zcb km pm), (zcb kl pl)) mc (run, wc, nu, lc, le, af, tr, ms, cl, tm) (co, yn, yh, pa)))) H := hP
  have hD : va_D (zAb s.heap.size) ((zWT cI cJ h (n, L) (kt, km, kl) (pt, pm, pl) (nu, le, ow, fo, run, wc, lc, tr, cl, tm, ms) (yl, yc, yt, co, pa, su, sc) mc) ++ ((oa, .inl (cJ, 1, .inr (.inl yo))) :: (zWM cI cJ cZ h2 th (n, L) ((zcb kt pt), (zcb km pm), (zcb kl pl)) mc (run, wc, nu, lc, le, af, tr, ms, cl, tm) (co, yn, yh, pa)))) := hD
  refine lv_aload_n hx hb dL_law_1114 rfl (lv_at hl 2 rfl) ?_
  have hP9 : va_P D vwCl ((zWM cI cJ cZ h2 th (n, L) ((zcb kt pt), (zcb km pm), (zcb kl pl)) mc (run, wc, nu, lc, le, af, tr, ms, cl, tm) (co, yn, yh, pa)) ++ ((zWT cI cJ h (n, L) (kt, km, kl) (pt, pm, pl) (nu, le, ow, fo, run, wc, lc, tr, cl, tm, ms) (yl, yc, yt, co, pa, su, sc) mc) ++ [(oa, .inl (cJ, 1, .inr (.inl yo)))])) H := zswapP (A := (zWT cI cJ h (n, L) (kt, km, kl) (pt, pm, pl) (nu, le, ow, fo, run, wc, lc, tr, cl, tm, ms) (yl, yc, yt, co, pa, su, sc) mc) ++ [(oa, .inl (cJ, 1, .inr (.inl yo)))]) (Bw := (zWM cI cJ cZ h2 th (n, L) ((zcb kt pt), (zcb km pm), (zcb kl pl)) mc (run, wc, nu, lc, le, af, tr, ms, cl, tm) (co, yn, yh, pa))) hP
  have hD9 : va_D (zAb s.heap.size) ((zWM cI cJ cZ h2 th (n, L) ((zcb kt pt), (zcb km pm), (zcb kl pl)) mc (run, wc, nu, lc, le, af, tr, ms, cl, tm) (co, yn, yh, pa)) ++ ((zWT cI cJ h (n, L) (kt, km, kl) (pt, pm, pl) (nu, le, ow, fo, run, wc, lc, tr, cl, tm, ms) (yl, yc, yt, co, pa, su, sc) mc) ++ [(oa, .inl (cJ, 1, .inr (.inl yo)))])) := zswapD (A := (zWT cI cJ h (n, L) (kt, km, kl) (pt, pm, pl) (nu, le, ow, fo, run, wc, lc, tr, cl, tm, ms) (yl, yc, yt, co, pa, su, sc) mc) ++ [(oa, .inl (cJ, 1, .inr (.inl yo)))]) (Bw := (zWM cI cJ cZ h2 th (n, L) ((zcb kt pt), (zcb km pm), (zcb kl pl)) mc (run, wc, nu, lc, le, af, tr, ms, cl, tm) (co, yn, yh, pa))) hD
  refine zci (zrV (As := []) (rest := [.int pa]) ⟨hx, hb, hml, hown, hts⟩ (zV 0 hP9 hD9 hK hE hB hS rfl rfl) (c_X5_pace  ) (cwV 0 hts gL_law_X5_pace rfl rfl rfl hdv_X5_pace ⟨Nat.le_of_ble_eq_true rfl, Nat.le_of_ble_eq_true rfl⟩) rfl rfl hl.1 rfl (lv_room (Nat.le_of_ble_eq_true rfl)) dL_law_1115 ⟨(show cc + 0 + 0 ≤ 601024 by omega), (show ss + 0 + 0 ≤ 7293034 by omega)⟩) hS (fun H locs hP hD hS => ?_)
  have hP : va_P D vwCl ((zWT cI cJ h (n, L) (kt, km, kl) (pt, pm, pl) (nu, le, ow, fo, run, wc, lc, tr, cl, tm, ms) (yl, yc, yt, co, pa, su, sc) mc) ++ ((oa, .inl (cJ, 1, .inr (.inl yo))) :: (zWM cI cJ cZ h2 0 (n, L) ((zcb kt pt), (zcb km pm), (zcb kl pl)) mc (run, wc, nu, lc, le, af, tr, ms, cl, tm) (co, yn, yh, pa)))) H := zswapP (A := (zWM cI cJ cZ h2 0 (n, L) ((zcb kt pt), (zcb km pm), (zcb kl pl)) mc (run, wc, nu, lc, le, af, tr, ms, cl, tm) (co, yn, yh, pa))) (Bw := (zWT cI cJ h (n, L) (kt, km, kl) (pt, pm, pl) (nu, le, ow, fo, run, wc, lc, tr, cl, tm, ms) (yl, yc, yt, co, pa, su, sc) mc) ++ [(oa, .inl (cJ, 1, .inr (.inl yo)))]) hP
  have hD : va_D (zAb s.heap.size) ((zWT cI cJ h (n, L) (kt, km, kl) (pt, pm, pl) (nu, le, ow, fo, run, wc, lc, tr, cl, tm, ms) (yl, yc, yt, co, pa, su, sc) mc) ++ ((oa, .inl (cJ, 1, .inr (.inl yo))) :: (zWM cI cJ cZ h2 0 (n, L) ((zcb kt pt), (zcb km pm), (zcb kl pl)) mc (run, wc, nu, lc, le, af, tr, ms, cl, tm) (co, yn, yh, pa)))) := zswapD (A := (zWM cI cJ cZ h2 0 (n, L) ((zcb kt pt), (zcb km pm), (zcb kl pl)) mc (run, wc, nu, lc, le, af, tr, ms, cl, tm) (co, yn, yh, pa))) (Bw := (zWT cI cJ h (n, L) (kt, km, kl) (pt, pm, pl) (nu, le, ow, fo, run, wc, lc, tr, cl, tm, ms) (yl, yc, yt, co, pa, su, sc) mc) ++ [(oa, .inl (cJ, 1, .inr (.inl yo)))]) hD
  refine lv_icmp_eq (tgt := 1191) hx hb dL_law_1118 (by decide) (fun c_1 => ?_) (fun c_1 => ?_)
  · skip
    refine W.widen (k := cc + 2) (n := ss + 1542) (show cc + 0 + 0 ≤ cc + 2 by omega) (show ss + 0 + 0 ≤ ss + 1542 by omega) ?_
    exact kont h h2 oa yo 0 n L kt km kl pt pm pl nu le ow fo run wc lc tr cl tm ms yl yc yt co pa su sc mc af yn yh (hI.mono) _ _ _ hP hD hS (lv_sub hl [0, 1, 2, 3, 4] rfl)
  · skip
    exact absurd rfl c_1

set_option maxHeartbeats 1000000 in
set_option maxRecDepth 100000 in
theorem law_isPlateau {p : Program} {l : Launch} {e : Env} {s : State} {m : MethodId} {below : List Frame} {meth : Method} {c : Code} {b L9 : Nat} {xs : Nat → Int32} {D : va_G} {cI cJ cZ : ClassId} {kr kp j cc ss : Nat} {h h2 : Nat → Nat} {oa : Nat} {yo : Nat → Int64} {th : Int32} {n : Nat} {L : Nat → Int64} {kt : Nat → Int32} {km : Nat → Int32} {kl : Nat → Int32} {pt : Nat → Int32} {pm : Nat → Int32} {pl : Nat → Int32} {nu : Nat → Int32} {le : Nat → Int32} {ow : Nat → Int32} {fo : Nat → Int32} {run : Bool} {wc : Nat} {lc : Nat} {tr : Nat} {cl : Nat} {tm : Nat} {ms : Nat} {yl : Nat → Int32} {yc : Nat → Int32} {yt : Nat → Int32} {co : Nat} {pa : Int32} {su : Nat} {sc : Nat} {mc : Nat → Int32} {af : Nat → Int32} {yn : Nat} {yh : Nat → Int32}  (C : zLw p l s m meth c b L9 xs D cI cJ cZ kr kp) (hj : 4 * j + 4 ≤ L9) (hcc : cc + 2 ≤ 601024) (hss : ss + 1542 ≤ 7293034) (kont : zKt p l e s m below meth c b D cI cJ cZ j cc ss) (hI : zInv j n L pt le ow af run wc lc tr cl tm ms yl yc yt co yn su sc yh)  {H : Heap} {locs : List Loc} {ls : Array Slot} (hP : va_P D vwCl ((zWT cI cJ h (n, L) (kt, km, kl) (pt, pm, pl) (nu, le, ow, fo, run, wc, lc, tr, cl, tm, ms) (yl, yc, yt, co, pa, su, sc) mc) ++ ((oa, .inl (cJ, 1, .inr (.inl yo))) :: (zWM cI cJ cZ h2 th (n, L) ((zcb kt pt), (zcb km pm), (zcb kl pl)) mc (run, wc, nu, lc, le, af, tr, ms, cl, tm) (co, yn, yh, pa)))) H) (hD : va_D (zAb s.heap.size) ((zWT cI cJ h (n, L) (kt, km, kl) (pt, pm, pl) (nu, le, ow, fo, run, wc, lc, tr, cl, tm, ms) (yl, yc, yt, co, pa, su, sc) mc) ++ ((oa, .inl (cJ, 1, .inr (.inl yo))) :: (zWM cI cJ cZ h2 th (n, L) ((zcb kt pt), (zcb km pm), (zcb kl pl)) mc (run, wc, nu, lc, le, af, tr, ms, cl, tm) (co, yn, yh, pa))))) (hS : va_S (zAb s.heap.size) s.heap H locs) (hl : lv_has ls 9 [(0, .ref b), (1, .ref (h 0)), (2, .ref (h2 0)), (3, .ref oa), (4, .int (nI (4 * j)))]) : W p l e room_1 s m #[Value.ref b] below meth c H locs cc ss (lw_Z below #[Value.ref b] s) (F0 m 1123 ls []) := by
  obtain ⟨C0, hls, hK, hE, hL9⟩ := C
  obtain ⟨hx, hb, hr, hml, hown, hts0, hX, hbl, hlocks, hgv⟩ := C0
  have hts : ∀ w ∈ wsL_law, w.before #[Value.ref b] s = true := fun w h => hts0 w (wsL_law_in w h)
  have hbA : ¬ zAb s.heap.size b := Nat.not_le.mpr hbl
  have hB : s.heap.size ≤ s.heap.size := Nat.le_refl _
  have hn40 := hI.1.1
  have hzk := hI.1.2
  obtain ⟨hwc6, hlc48, htrl, hclt, hms1⟩ := hI.2.1
  have hrt := hI.2.2.1
  have hle := hI.2.2.2.1
  have hMk := hI.2.2.2.2.1
  have hct := hI.2.2.2.2.2.1
  have hHi := hI.2.2.2.2.2.2.1
  have hsu := hI.2.2.2.2.2.2.2.2.1
  have hj5 : j ≤ 511 := by omega
  have hco : co < 256 := by have := hct.1; omega
  have hco6 : co ≤ 256 := Nat.le_of_lt hco
  have hsl : su < 2147483648 := by have := hsu.2.2; omega
  have hpt := hI.hpt (Nat.le_succ_of_le hj5)
  refine lv_aload_n hx hb dL_law_1123 rfl (lv_at hl 1 rfl) ?_
  refine zci (zrV (As := []) (rest := []) ⟨hx, hb, hml, hown, hts⟩ (zV 0 hP hD hK hE hB hS rfl rfl) (c_X4_isPlateau  (hco6)) (cwV 0 hts gL_law_X4_isPlateau rfl rfl rfl hdv_X4_isPlateau ⟨Nat.le_of_ble_eq_true rfl, Nat.le_of_ble_eq_true rfl⟩) rfl rfl hl.1 rfl (lv_room (Nat.le_of_ble_eq_true rfl)) dL_law_1124 ⟨(show cc + 0 ≤ 601024 by omega), (show ss + 0 ≤ 7293034 by omega)⟩) hS (fun H locs hP hD hS => ?_)
  have hP : va_P D vwCl ((zWT cI cJ h (n, L) (kt, km, kl) (pt, pm, pl) (nu, le, ow, fo, run, wc, lc, tr, cl, tm, ms) (yl, yc, yt, co, pa, su, sc) mc) ++ ((oa, .inl (cJ, 1, .inr (.inl yo))) :: (zWM cI cJ cZ h2 th (n, L) ((zcb kt pt), (zcb km pm), (zcb kl pl)) mc (run, wc, nu, lc, le, af, tr, ms, cl, tm) (co, yn, yh, pa)))) H := hP
  have hD : va_D (zAb s.heap.size) ((zWT cI cJ h (n, L) (kt, km, kl) (pt, pm, pl) (nu, le, ow, fo, run, wc, lc, tr, cl, tm, ms) (yl, yc, yt, co, pa, su, sc) mc) ++ ((oa, .inl (cJ, 1, .inr (.inl yo))) :: (zWM cI cJ cZ h2 th (n, L) ((zcb kt pt), (zcb km pm), (zcb kl pl)) mc (run, wc, nu, lc, le, af, tr, ms, cl, tm) (co, yn, yh, pa)))) := hD
  refine lv_aload_n hx hb dL_law_1127 rfl (lv_at hl 2 rfl) ?_
  have hP9 : va_P D vwCl ((zWM cI cJ cZ h2 th (n, L) ((zcb kt pt), (zcb km pm), (zcb kl pl)) mc (run, wc, nu, lc, le, af, tr, ms, cl, tm) (co, yn, yh, pa)) ++ ((zWT cI cJ h (n, L) (kt, km, kl) (pt, pm, pl) (nu, le, ow, fo, run, wc, lc, tr, cl, tm, ms) (yl, yc, yt, co, pa, su, sc) mc) ++ [(oa, .inl (cJ, 1, .inr (.inl yo)))])) H := zswapP (A := (zWT cI cJ h (n, L) (kt, km, kl) (pt, pm, pl) (nu, le, ow, fo, run, wc, lc, tr, cl, tm, ms) (yl, yc, yt, co, pa, su, sc) mc) ++ [(oa, .inl (cJ, 1, .inr (.inl yo)))]) (Bw := (zWM cI cJ cZ h2 th (n, L) ((zcb kt pt), (zcb km pm), (zcb kl pl)) mc (run, wc, nu, lc, le, af, tr, ms, cl, tm) (co, yn, yh, pa))) hP
  have hD9 : va_D (zAb s.heap.size) ((zWM cI cJ cZ h2 th (n, L) ((zcb kt pt), (zcb km pm), (zcb kl pl)) mc (run, wc, nu, lc, le, af, tr, ms, cl, tm) (co, yn, yh, pa)) ++ ((zWT cI cJ h (n, L) (kt, km, kl) (pt, pm, pl) (nu, le, ow, fo, run, wc, lc, tr, cl, tm, ms) (yl, yc, yt, co, pa, su, sc) mc) ++ [(oa, .inl (cJ, 1, .inr (.inl yo)))])) := zswapD (A := (zWT cI cJ h (n, L) (kt, km, kl) (pt, pm, pl) (nu, le, ow, fo, run, wc, lc, tr, cl, tm, ms) (yl, yc, yt, co, pa, su, sc) mc) ++ [(oa, .inl (cJ, 1, .inr (.inl yo)))]) (Bw := (zWM cI cJ cZ h2 th (n, L) ((zcb kt pt), (zcb km pm), (zcb kl pl)) mc (run, wc, nu, lc, le, af, tr, ms, cl, tm) (co, yn, yh, pa))) hD
  refine zci (zrV (As := []) (rest := [.int (zb (zpl yl yt co))]) ⟨hx, hb, hml, hown, hts⟩ (zV 0 hP9 hD9 hK hE hB hS rfl rfl) (c_X5_isPlateau (yl := yl) (yc := yc) (yt := yt) (hHi.1) (hHi.2.1) (hHi.2.2.1) (fun a h9 k h8 h7 => hI.sp (by omega))) (cwV 0 hts gL_law_X5_isPlateau rfl rfl rfl hdv_X5_isPlateau ⟨Nat.le_of_ble_eq_true rfl, Nat.le_of_ble_eq_true rfl⟩) rfl rfl hl.1 rfl (lv_room (Nat.le_of_ble_eq_true rfl)) dL_law_1128 ⟨(show cc + 0 + 0 ≤ 601024 by omega), (show ss + 0 + 0 ≤ 7293034 by omega)⟩) hS (fun H locs hP hD hS => ?_)
  have hP : va_P D vwCl ((zWT cI cJ h (n, L) (kt, km, kl) (pt, pm, pl) (nu, le, ow, fo, run, wc, lc, tr, cl, tm, ms) (yl, yc, yt, co, pa, su, sc) mc) ++ ((oa, .inl (cJ, 1, .inr (.inl yo))) :: (zWM cI cJ cZ h2 0 (n, L) ((zcb kt pt), (zcb km pm), (zcb kl pl)) mc (run, wc, nu, lc, le, af, tr, ms, cl, tm) (co, yn, yh, pa)))) H := zswapP (A := (zWM cI cJ cZ h2 0 (n, L) ((zcb kt pt), (zcb km pm), (zcb kl pl)) mc (run, wc, nu, lc, le, af, tr, ms, cl, tm) (co, yn, yh, pa))) (Bw := (zWT cI cJ h (n, L) (kt, km, kl) (pt, pm, pl) (nu, le, ow, fo, run, wc, lc, tr, cl, tm, ms) (yl, yc, yt, co, pa, su, sc) mc) ++ [(oa, .inl (cJ, 1, .inr (.inl yo)))]) hP
  have hD : va_D (zAb s.heap.size) ((zWT cI cJ h (n, L) (kt, km, kl) (pt, pm, pl) (nu, le, ow, fo, run, wc, lc, tr, cl, tm, ms) (yl, yc, yt, co, pa, su, sc) mc) ++ ((oa, .inl (cJ, 1, .inr (.inl yo))) :: (zWM cI cJ cZ h2 0 (n, L) ((zcb kt pt), (zcb km pm), (zcb kl pl)) mc (run, wc, nu, lc, le, af, tr, ms, cl, tm) (co, yn, yh, pa)))) := zswapD (A := (zWM cI cJ cZ h2 0 (n, L) ((zcb kt pt), (zcb km pm), (zcb kl pl)) mc (run, wc, nu, lc, le, af, tr, ms, cl, tm) (co, yn, yh, pa))) (Bw := (zWT cI cJ h (n, L) (kt, km, kl) (pt, pm, pl) (nu, le, ow, fo, run, wc, lc, tr, cl, tm, ms) (yl, yc, yt, co, pa, su, sc) mc) ++ [(oa, .inl (cJ, 1, .inr (.inl yo)))]) hD
  refine lv_icmp_eq (tgt := 1191) hx hb dL_law_1131 (by decide) (fun c_1 => ?_) (fun c_1 => ?_)
  · skip
    refine W.widen (k := cc + 2) (n := ss + 1542) (show cc + 0 + 0 ≤ cc + 2 by omega) (show ss + 0 + 0 ≤ ss + 1542 by omega) ?_
    exact kont h h2 oa yo 0 n L kt km kl pt pm pl nu le ow fo run wc lc tr cl tm ms yl yc yt co pa su sc mc af yn yh (hI.mono) _ _ _ hP hD hS (lv_sub hl [0, 1, 2, 3, 4] rfl)
  · skip
    exact absurd rfl c_1

set_option maxHeartbeats 1000000 in
set_option maxRecDepth 100000 in
theorem law_accuracy {p : Program} {l : Launch} {e : Env} {s : State} {m : MethodId} {below : List Frame} {meth : Method} {c : Code} {b L9 : Nat} {xs : Nat → Int32} {D : va_G} {cI cJ cZ : ClassId} {kr kp j cc ss : Nat} {h h2 : Nat → Nat} {oa : Nat} {yo : Nat → Int64} {th : Int32} {n : Nat} {L : Nat → Int64} {kt : Nat → Int32} {km : Nat → Int32} {kl : Nat → Int32} {pt : Nat → Int32} {pm : Nat → Int32} {pl : Nat → Int32} {nu : Nat → Int32} {le : Nat → Int32} {ow : Nat → Int32} {fo : Nat → Int32} {run : Bool} {wc : Nat} {lc : Nat} {tr : Nat} {cl : Nat} {tm : Nat} {ms : Nat} {yl : Nat → Int32} {yc : Nat → Int32} {yt : Nat → Int32} {co : Nat} {pa : Int32} {su : Nat} {sc : Nat} {mc : Nat → Int32} {af : Nat → Int32} {yn : Nat} {yh : Nat → Int32}  (C : zLw p l s m meth c b L9 xs D cI cJ cZ kr kp) (hj : 4 * j + 4 ≤ L9) (hcc : cc + 2 ≤ 601024) (hss : ss + 1542 ≤ 7293034) (kont : zKt p l e s m below meth c b D cI cJ cZ j cc ss) (hI : zInv j n L pt le ow af run wc lc tr cl tm ms yl yc yt co yn su sc yh)  {H : Heap} {locs : List Loc} {ls : Array Slot} (hP : va_P D vwCl ((zWT cI cJ h (n, L) (kt, km, kl) (pt, pm, pl) (nu, le, ow, fo, run, wc, lc, tr, cl, tm, ms) (yl, yc, yt, co, pa, su, sc) mc) ++ ((oa, .inl (cJ, 1, .inr (.inl yo))) :: (zWM cI cJ cZ h2 th (n, L) ((zcb kt pt), (zcb km pm), (zcb kl pl)) mc (run, wc, nu, lc, le, af, tr, ms, cl, tm) (co, yn, yh, pa)))) H) (hD : va_D (zAb s.heap.size) ((zWT cI cJ h (n, L) (kt, km, kl) (pt, pm, pl) (nu, le, ow, fo, run, wc, lc, tr, cl, tm, ms) (yl, yc, yt, co, pa, su, sc) mc) ++ ((oa, .inl (cJ, 1, .inr (.inl yo))) :: (zWM cI cJ cZ h2 th (n, L) ((zcb kt pt), (zcb km pm), (zcb kl pl)) mc (run, wc, nu, lc, le, af, tr, ms, cl, tm) (co, yn, yh, pa))))) (hS : va_S (zAb s.heap.size) s.heap H locs) (hl : lv_has ls 9 [(0, .ref b), (1, .ref (h 0)), (2, .ref (h2 0)), (3, .ref oa), (4, .int (nI (4 * j)))]) : W p l e room_1 s m #[Value.ref b] below meth c H locs cc ss (lw_Z below #[Value.ref b] s) (F0 m 1136 ls []) := by
  obtain ⟨C0, hls, hK, hE, hL9⟩ := C
  obtain ⟨hx, hb, hr, hml, hown, hts0, hX, hbl, hlocks, hgv⟩ := C0
  have hts : ∀ w ∈ wsL_law, w.before #[Value.ref b] s = true := fun w h => hts0 w (wsL_law_in w h)
  have hbA : ¬ zAb s.heap.size b := Nat.not_le.mpr hbl
  have hB : s.heap.size ≤ s.heap.size := Nat.le_refl _
  have hn40 := hI.1.1
  have hzk := hI.1.2
  obtain ⟨hwc6, hlc48, htrl, hclt, hms1⟩ := hI.2.1
  have hrt := hI.2.2.1
  have hle := hI.2.2.2.1
  have hMk := hI.2.2.2.2.1
  have hct := hI.2.2.2.2.2.1
  have hHi := hI.2.2.2.2.2.2.1
  have hsu := hI.2.2.2.2.2.2.2.2.1
  have hj5 : j ≤ 511 := by omega
  have hco : co < 256 := by have := hct.1; omega
  have hco6 : co ≤ 256 := Nat.le_of_lt hco
  have hsl : su < 2147483648 := by have := hsu.2.2; omega
  have hpt := hI.hpt (Nat.le_succ_of_le hj5)
  refine lv_aload_n hx hb dL_law_1136 rfl (lv_at hl 1 rfl) ?_
  refine zcd (zrV (As := []) (rest := []) ⟨hx, hb, hml, hown, hts⟩ (zV 0 hP hD hK hE hB hS rfl rfl) (c_X4_accuracy  (hsl)) (cwV 0 hts gL_law_X4_accuracy rfl rfl rfl hdv_X4_accuracy ⟨Nat.le_of_ble_eq_true rfl, Nat.le_of_ble_eq_true rfl⟩) rfl rfl hl.1 rfl (lv_room (Nat.le_of_ble_eq_true rfl)) dL_law_1137 ⟨(show cc + 0 ≤ 601024 by omega), (show ss + 0 ≤ 7293034 by omega)⟩) hS (fun H locs hP hD hS => ?_)
  have hP : va_P D vwCl ((zWT cI cJ h (n, L) (kt, km, kl) (pt, pm, pl) (nu, le, ow, fo, run, wc, lc, tr, cl, tm, ms) (yl, yc, yt, co, pa, su, sc) mc) ++ ((oa, .inl (cJ, 1, .inr (.inl yo))) :: (zWM cI cJ cZ h2 th (n, L) ((zcb kt pt), (zcb km pm), (zcb kl pl)) mc (run, wc, nu, lc, le, af, tr, ms, cl, tm) (co, yn, yh, pa)))) H := hP
  have hD : va_D (zAb s.heap.size) ((zWT cI cJ h (n, L) (kt, km, kl) (pt, pm, pl) (nu, le, ow, fo, run, wc, lc, tr, cl, tm, ms) (yl, yc, yt, co, pa, su, sc) mc) ++ ((oa, .inl (cJ, 1, .inr (.inl yo))) :: (zWM cI cJ cZ h2 th (n, L) ((zcb kt pt), (zcb km pm), (zcb kl pl)) mc (run, wc, nu, lc, le, af, tr, ms, cl, tm) (co, yn, yh, pa)))) := hD
  refine lv_dstore (lv' := [(5, .double (zac su sc)), (0, .ref b), (1, .ref (h 0)), (2, .ref (h2 0)), (3, .ref oa), (4, .int (nI (4 * j)))]) hx hb dL_law_1140 hl (by decide) rfl (fun ls hl => ?_)
  refine lv_aload_n hx hb dL_law_1142 rfl (lv_at hl 3 rfl) ?_
  have hP9 : va_P D vwCl ((zWM cI cJ cZ h2 th (n, L) ((zcb kt pt), (zcb km pm), (zcb kl pl)) mc (run, wc, nu, lc, le, af, tr, ms, cl, tm) (co, yn, yh, pa)) ++ ((zWT cI cJ h (n, L) (kt, km, kl) (pt, pm, pl) (nu, le, ow, fo, run, wc, lc, tr, cl, tm, ms) (yl, yc, yt, co, pa, su, sc) mc) ++ [(oa, .inl (cJ, 1, .inr (.inl yo)))])) H := zswapP (A := (zWT cI cJ h (n, L) (kt, km, kl) (pt, pm, pl) (nu, le, ow, fo, run, wc, lc, tr, cl, tm, ms) (yl, yc, yt, co, pa, su, sc) mc) ++ [(oa, .inl (cJ, 1, .inr (.inl yo)))]) (Bw := (zWM cI cJ cZ h2 th (n, L) ((zcb kt pt), (zcb km pm), (zcb kl pl)) mc (run, wc, nu, lc, le, af, tr, ms, cl, tm) (co, yn, yh, pa))) hP
  have hD9 : va_D (zAb s.heap.size) ((zWM cI cJ cZ h2 th (n, L) ((zcb kt pt), (zcb km pm), (zcb kl pl)) mc (run, wc, nu, lc, le, af, tr, ms, cl, tm) (co, yn, yh, pa)) ++ ((zWT cI cJ h (n, L) (kt, km, kl) (pt, pm, pl) (nu, le, ow, fo, run, wc, lc, tr, cl, tm, ms) (yl, yc, yt, co, pa, su, sc) mc) ++ [(oa, .inl (cJ, 1, .inr (.inl yo)))])) := zswapD (A := (zWT cI cJ h (n, L) (kt, km, kl) (pt, pm, pl) (nu, le, ow, fo, run, wc, lc, tr, cl, tm, ms) (yl, yc, yt, co, pa, su, sc) mc) ++ [(oa, .inl (cJ, 1, .inr (.inl yo)))]) (Bw := (zWM cI cJ cZ h2 th (n, L) ((zcb kt pt), (zcb km pm), (zcb kl pl)) mc (run, wc, nu, lc, le, af, tr, ms, cl, tm) (co, yn, yh, pa))) hD
  refine zcd (zrV (As := []) (rest := []) ⟨hx, hb, hml, hown, hts⟩ (zV 0 hP9 hD9 hK hE hB hS rfl rfl) (c_X5_accuracy (yl := yl) (yc := yc) (yt := yt) (su := su) (sc := sc) (hHi.1) (hHi.2.1) (hHi.2.2.1) (hsu.1) (hsu.2.1) (hsl)) (cwV 0 hts gL_law_X5_accuracy rfl rfl rfl hdv_X5_accuracy ⟨Nat.le_of_ble_eq_true rfl, Nat.le_of_ble_eq_true rfl⟩) rfl rfl hl.1 rfl (lv_room (Nat.le_of_ble_eq_true rfl)) dL_law_1143 ⟨(show cc + 0 + 0 ≤ 601024 by omega), (show ss + 0 + 0 ≤ 7293034 by omega)⟩) hS (fun H locs hP hD hS => ?_)
  have hP : va_P D vwCl ((zWT cI cJ h (n, L) (kt, km, kl) (pt, pm, pl) (nu, le, ow, fo, run, wc, lc, tr, cl, tm, ms) (yl, yc, yt, co, pa, su, sc) mc) ++ ((oa, .inl (cJ, 1, .inr (.inl yo))) :: (zWM cI cJ cZ h2 0 (n, L) ((zcb kt pt), (zcb km pm), (zcb kl pl)) mc (run, wc, nu, lc, le, af, tr, ms, cl, tm) (co, yn, yh, pa)))) H := zswapP (A := (zWM cI cJ cZ h2 0 (n, L) ((zcb kt pt), (zcb km pm), (zcb kl pl)) mc (run, wc, nu, lc, le, af, tr, ms, cl, tm) (co, yn, yh, pa))) (Bw := (zWT cI cJ h (n, L) (kt, km, kl) (pt, pm, pl) (nu, le, ow, fo, run, wc, lc, tr, cl, tm, ms) (yl, yc, yt, co, pa, su, sc) mc) ++ [(oa, .inl (cJ, 1, .inr (.inl yo)))]) hP
  have hD : va_D (zAb s.heap.size) ((zWT cI cJ h (n, L) (kt, km, kl) (pt, pm, pl) (nu, le, ow, fo, run, wc, lc, tr, cl, tm, ms) (yl, yc, yt, co, pa, su, sc) mc) ++ ((oa, .inl (cJ, 1, .inr (.inl yo))) :: (zWM cI cJ cZ h2 0 (n, L) ((zcb kt pt), (zcb km pm), (zcb kl pl)) mc (run, wc, nu, lc, le, af, tr, ms, cl, tm) (co, yn, yh, pa)))) := zswapD (A := (zWM cI cJ cZ h2 0 (n, L) ((zcb kt pt), (zcb km pm), (zcb kl pl)) mc (run, wc, nu, lc, le, af, tr, ms, cl, tm) (co, yn, yh, pa))) (Bw := (zWT cI cJ h (n, L) (kt, km, kl) (pt, pm, pl) (nu, le, ow, fo, run, wc, lc, tr, cl, tm, ms) (yl, yc, yt, co, pa, su, sc) mc) ++ [(oa, .inl (cJ, 1, .inr (.inl yo)))]) hD
  refine lv_dstore (lv' := [(7, .double (zac su sc)), (5, .double (zac su sc)), (0, .ref b), (1, .ref (h 0)), (2, .ref (h2 0)), (3, .ref oa), (4, .int (nI (4 * j)))]) hx hb dL_law_1146 hl (by decide) rfl (fun ls hl => ?_)
  refine lv_dload hx hb dL_law_1148 (lv_at hl 1 rfl) ?_
  refine lv_dload hx hb dL_law_1150 (lv_at hl 0 rfl) ?_
  refine lv_dcmp hx hb dL_law_1152 ?_
  refine lv_if_eq (tgt := 1174) hx hb dL_law_1153 (by decide) (fun c_1 => ?_) (fun c_1 => ?_)
  · skip
    refine lv_goto (tgt := 1191) hx hb dL_law_1174 (by decide) ?_
    refine W.widen (k := cc + 2) (n := ss + 1542) (show cc + 0 + 0 ≤ cc + 2 by omega) (show ss + 0 + 0 ≤ ss + 1542 by omega) ?_
    exact kont h h2 oa yo 0 n L kt km kl pt pm pl nu le ow fo run wc lc tr cl tm ms yl yc yt co pa su sc mc af yn yh (hI.mono) _ _ _ hP hD hS (lv_sub hl [2, 3, 4, 5, 6] rfl)
  · skip
    refine lv_dload hx hb dL_law_1156 (lv_at hl 1 rfl) ?_
    refine lv_dload hx hb dL_law_1158 (lv_at hl 1 rfl) ?_
    refine lv_dcmp hx hb dL_law_1160 ?_
    refine lv_if_eq (tgt := 1172) hx hb dL_law_1161 (by decide) (fun c_2 => ?_) (fun c_2 => ?_)
    · skip
      exact absurd c_2 c_1
    · skip
      refine lv_dload hx hb dL_law_1164 (lv_at hl 0 rfl) ?_
      refine lv_dload hx hb dL_law_1166 (lv_at hl 0 rfl) ?_
      refine lv_dcmp hx hb dL_law_1168 ?_
      refine lv_if_ne (tgt := 1174) hx hb dL_law_1169 (by decide) (fun c_3 => ?_) (fun c_3 => ?_)
      · skip
        refine lv_goto (tgt := 1191) hx hb dL_law_1174 (by decide) ?_
        refine W.widen (k := cc + 2) (n := ss + 1542) (show cc + 0 + 0 ≤ cc + 2 by omega) (show ss + 0 + 0 ≤ ss + 1542 by omega) ?_
        exact kont h h2 oa yo 0 n L kt km kl pt pm pl nu le ow fo run wc lc tr cl tm ms yl yc yt co pa su sc mc af yn yh (hI.mono) _ _ _ hP hD hS (lv_sub hl [2, 3, 4, 5, 6] rfl)
      · skip
        exact absurd c_3 c_1

set_option maxHeartbeats 1000000 in
set_option maxRecDepth 100000 in
theorem law_digest {p : Program} {l : Launch} {e : Env} {s : State} {m : MethodId} {below : List Frame} {meth : Method} {c : Code} {b L9 : Nat} {xs : Nat → Int32} {D : va_G} {cI cJ cZ : ClassId} {kr kp j cc ss : Nat} {h h2 : Nat → Nat} {oa : Nat} {yo : Nat → Int64} {th : Int32} {n : Nat} {L : Nat → Int64} {kt : Nat → Int32} {km : Nat → Int32} {kl : Nat → Int32} {pt : Nat → Int32} {pm : Nat → Int32} {pl : Nat → Int32} {nu : Nat → Int32} {le : Nat → Int32} {ow : Nat → Int32} {fo : Nat → Int32} {run : Bool} {wc : Nat} {lc : Nat} {tr : Nat} {cl : Nat} {tm : Nat} {ms : Nat} {yl : Nat → Int32} {yc : Nat → Int32} {yt : Nat → Int32} {co : Nat} {pa : Int32} {su : Nat} {sc : Nat} {mc : Nat → Int32} {af : Nat → Int32} {yn : Nat} {yh : Nat → Int32}  (C : zLw p l s m meth c b L9 xs D cI cJ cZ kr kp) (hj : 4 * j + 4 ≤ L9) (hcc : cc + 2 ≤ 601024) (hss : ss + 1542 ≤ 7293034) (kont : zKt p l e s m below meth c b D cI cJ cZ j cc ss) (hI : zInv j n L pt le ow af run wc lc tr cl tm ms yl yc yt co yn su sc yh)  {H : Heap} {locs : List Loc} {ls : Array Slot} (hP : va_P D vwCl ((zWT cI cJ h (n, L) (kt, km, kl) (pt, pm, pl) (nu, le, ow, fo, run, wc, lc, tr, cl, tm, ms) (yl, yc, yt, co, pa, su, sc) mc) ++ ((oa, .inl (cJ, 1, .inr (.inl yo))) :: (zWM cI cJ cZ h2 th (n, L) ((zcb kt pt), (zcb km pm), (zcb kl pl)) mc (run, wc, nu, lc, le, af, tr, ms, cl, tm) (co, yn, yh, pa)))) H) (hD : va_D (zAb s.heap.size) ((zWT cI cJ h (n, L) (kt, km, kl) (pt, pm, pl) (nu, le, ow, fo, run, wc, lc, tr, cl, tm, ms) (yl, yc, yt, co, pa, su, sc) mc) ++ ((oa, .inl (cJ, 1, .inr (.inl yo))) :: (zWM cI cJ cZ h2 th (n, L) ((zcb kt pt), (zcb km pm), (zcb kl pl)) mc (run, wc, nu, lc, le, af, tr, ms, cl, tm) (co, yn, yh, pa))))) (hS : va_S (zAb s.heap.size) s.heap H locs) (hl : lv_has ls 9 [(0, .ref b), (1, .ref (h 0)), (2, .ref (h2 0)), (3, .ref oa), (4, .int (nI (4 * j)))]) : W p l e room_1 s m #[Value.ref b] below meth c H locs cc ss (lw_Z below #[Value.ref b] s) (F0 m 1177 ls []) := by
  obtain ⟨C0, hls, hK, hE, hL9⟩ := C
  obtain ⟨hx, hb, hr, hml, hown, hts0, hX, hbl, hlocks, hgv⟩ := C0
  have hts : ∀ w ∈ wsL_law, w.before #[Value.ref b] s = true := fun w h => hts0 w (wsL_law_in w h)
  have hbA : ¬ zAb s.heap.size b := Nat.not_le.mpr hbl
  have hB : s.heap.size ≤ s.heap.size := Nat.le_refl _
  have hn40 := hI.1.1
  have hzk := hI.1.2
  obtain ⟨hwc6, hlc48, htrl, hclt, hms1⟩ := hI.2.1
  have hrt := hI.2.2.1
  have hle := hI.2.2.2.1
  have hMk := hI.2.2.2.2.1
  have hct := hI.2.2.2.2.2.1
  have hHi := hI.2.2.2.2.2.2.1
  have hsu := hI.2.2.2.2.2.2.2.2.1
  have hj5 : j ≤ 511 := by omega
  have hco : co < 256 := by have := hct.1; omega
  have hco6 : co ≤ 256 := Nat.le_of_lt hco
  have hsl : su < 2147483648 := by have := hsu.2.2; omega
  have hpt := hI.hpt (Nat.le_succ_of_le hj5)
  refine lv_aload_n hx hb dL_law_1177 rfl (lv_at hl 1 rfl) ?_
  refine zcl (zrV (As := []) (rest := []) ⟨hx, hb, hml, hown, hts⟩ (zV 0 hP hD hK hE hB hS rfl rfl) (c_X4_digest  (hn40) (hwc6) (hco6) (hpt)) (cwV 0 hts gL_law_X4_digest rfl rfl rfl hdv_X4_digest ⟨Nat.le_of_ble_eq_true rfl, Nat.le_of_ble_eq_true rfl⟩) rfl rfl hl.1 rfl (lv_room (Nat.le_of_ble_eq_true rfl)) dL_law_1178 ⟨(show cc + 0 ≤ 601024 by omega), (show ss + 0 ≤ 7293034 by omega)⟩) hS (fun H locs hP hD hS => ?_)
  have hP : va_P D vwCl ((zWT cI cJ h (n, L) (kt, km, kl) (pt, pm, pl) (nu, le, ow, fo, run, wc, lc, tr, cl, tm, ms) (yl, yc, yt, co, pa, su, sc) mc) ++ ((oa, .inl (cJ, 1, .inr (.inl yo))) :: (zWM cI cJ cZ h2 th (n, L) ((zcb kt pt), (zcb km pm), (zcb kl pl)) mc (run, wc, nu, lc, le, af, tr, ms, cl, tm) (co, yn, yh, pa)))) H := hP
  have hD : va_D (zAb s.heap.size) ((zWT cI cJ h (n, L) (kt, km, kl) (pt, pm, pl) (nu, le, ow, fo, run, wc, lc, tr, cl, tm, ms) (yl, yc, yt, co, pa, su, sc) mc) ++ ((oa, .inl (cJ, 1, .inr (.inl yo))) :: (zWM cI cJ cZ h2 th (n, L) ((zcb kt pt), (zcb km pm), (zcb kl pl)) mc (run, wc, nu, lc, le, af, tr, ms, cl, tm) (co, yn, yh, pa)))) := hD
  refine lv_aload_n hx hb dL_law_1181 rfl (lv_at hl 2 rfl) ?_
  have hP9 : va_P D vwCl ((zWM cI cJ cZ h2 th (n, L) ((zcb kt pt), (zcb km pm), (zcb kl pl)) mc (run, wc, nu, lc, le, af, tr, ms, cl, tm) (co, yn, yh, pa)) ++ ((zWT cI cJ h (n, L) (kt, km, kl) (pt, pm, pl) (nu, le, ow, fo, run, wc, lc, tr, cl, tm, ms) (yl, yc, yt, co, pa, su, sc) mc) ++ [(oa, .inl (cJ, 1, .inr (.inl yo)))])) H := zswapP (A := (zWT cI cJ h (n, L) (kt, km, kl) (pt, pm, pl) (nu, le, ow, fo, run, wc, lc, tr, cl, tm, ms) (yl, yc, yt, co, pa, su, sc) mc) ++ [(oa, .inl (cJ, 1, .inr (.inl yo)))]) (Bw := (zWM cI cJ cZ h2 th (n, L) ((zcb kt pt), (zcb km pm), (zcb kl pl)) mc (run, wc, nu, lc, le, af, tr, ms, cl, tm) (co, yn, yh, pa))) hP
  have hD9 : va_D (zAb s.heap.size) ((zWM cI cJ cZ h2 th (n, L) ((zcb kt pt), (zcb km pm), (zcb kl pl)) mc (run, wc, nu, lc, le, af, tr, ms, cl, tm) (co, yn, yh, pa)) ++ ((zWT cI cJ h (n, L) (kt, km, kl) (pt, pm, pl) (nu, le, ow, fo, run, wc, lc, tr, cl, tm, ms) (yl, yc, yt, co, pa, su, sc) mc) ++ [(oa, .inl (cJ, 1, .inr (.inl yo)))])) := zswapD (A := (zWT cI cJ h (n, L) (kt, km, kl) (pt, pm, pl) (nu, le, ow, fo, run, wc, lc, tr, cl, tm, ms) (yl, yc, yt, co, pa, su, sc) mc) ++ [(oa, .inl (cJ, 1, .inr (.inl yo)))]) (Bw := (zWM cI cJ cZ h2 th (n, L) ((zcb kt pt), (zcb km pm), (zcb kl pl)) mc (run, wc, nu, lc, le, af, tr, ms, cl, tm) (co, yn, yh, pa))) hD
  refine zcl (zrV (As := []) (rest := [.long (zmx (zdH yl yc yt (zmx (zdL run nu wc tr (zd4 mc (zdP pt pm pl (zdK kt km kl (zdW L (zmx 191 (nI n).toInt64) n) 26) 676))) (nI co).toInt64) co) pa.toInt64)]) ⟨hx, hb, hml, hown, hts⟩ (zV 0 hP9 hD9 hK hE hB hS rfl rfl) (c_X5_digest (yl := yl) (yc := yc) (yt := yt) (hn40) (hwc6) (hco6) (hHi.1) (hHi.2.1) (hHi.2.2.1)) (cwV 0 hts gL_law_X5_digest rfl rfl rfl hdv_X5_digest ⟨Nat.le_of_ble_eq_true rfl, Nat.le_of_ble_eq_true rfl⟩) rfl rfl hl.1 rfl (lv_room (Nat.le_of_ble_eq_true rfl)) dL_law_1182 ⟨(show cc + 0 + 0 ≤ 601024 by omega), (show ss + 0 + 0 ≤ 7293034 by omega)⟩) hS (fun H locs hP hD hS => ?_)
  have hP : va_P D vwCl ((zWT cI cJ h (n, L) (kt, km, kl) (pt, pm, pl) (nu, le, ow, fo, run, wc, lc, tr, cl, tm, ms) (yl, yc, yt, co, pa, su, sc) mc) ++ ((oa, .inl (cJ, 1, .inr (.inl yo))) :: (zWM cI cJ cZ h2 0 (n, L) ((zcb kt pt), (zcb km pm), (zcb kl pl)) mc (run, wc, nu, lc, le, af, tr, ms, cl, tm) (co, yn, yh, pa)))) H := zswapP (A := (zWM cI cJ cZ h2 0 (n, L) ((zcb kt pt), (zcb km pm), (zcb kl pl)) mc (run, wc, nu, lc, le, af, tr, ms, cl, tm) (co, yn, yh, pa))) (Bw := (zWT cI cJ h (n, L) (kt, km, kl) (pt, pm, pl) (nu, le, ow, fo, run, wc, lc, tr, cl, tm, ms) (yl, yc, yt, co, pa, su, sc) mc) ++ [(oa, .inl (cJ, 1, .inr (.inl yo)))]) hP
  have hD : va_D (zAb s.heap.size) ((zWT cI cJ h (n, L) (kt, km, kl) (pt, pm, pl) (nu, le, ow, fo, run, wc, lc, tr, cl, tm, ms) (yl, yc, yt, co, pa, su, sc) mc) ++ ((oa, .inl (cJ, 1, .inr (.inl yo))) :: (zWM cI cJ cZ h2 0 (n, L) ((zcb kt pt), (zcb km pm), (zcb kl pl)) mc (run, wc, nu, lc, le, af, tr, ms, cl, tm) (co, yn, yh, pa)))) := zswapD (A := (zWM cI cJ cZ h2 0 (n, L) ((zcb kt pt), (zcb km pm), (zcb kl pl)) mc (run, wc, nu, lc, le, af, tr, ms, cl, tm) (co, yn, yh, pa))) (Bw := (zWT cI cJ h (n, L) (kt, km, kl) (pt, pm, pl) (nu, le, ow, fo, run, wc, lc, tr, cl, tm, ms) (yl, yc, yt, co, pa, su, sc) mc) ++ [(oa, .inl (cJ, 1, .inr (.inl yo)))]) hD
  refine W.lcmp hx hb dL_law_1185 ?_
  refine lv_if_eq (tgt := 1191) hx hb dL_law_1186 (by decide) (fun c_1 => ?_) (fun c_1 => ?_)
  · skip
    have c_1 : (zmx (zdH yl yc yt (zmx (zdL run nu wc tr (zd4 mc (zdP pt pm pl (zdK kt km kl (zdW L (zmx 191 (nI n).toInt64) n) 26) 676))) (nI co).toInt64) co) pa.toInt64) = (zmx (zdH yl yc yt (zmx (zdL run nu wc tr (zd4 mc (zdP pt pm pl (zdK kt km kl (zdW L (zmx 191 (nI n).toInt64) n) 26) 676))) (nI co).toInt64) co) pa.toInt64) := (lg_cmp_eq _ _).mp c_1
    refine W.widen (k := cc + 2) (n := ss + 1542) (show cc + 0 + 0 ≤ cc + 2 by omega) (show ss + 0 + 0 ≤ ss + 1542 by omega) ?_
    exact kont h h2 oa yo 0 n L kt km kl pt pm pl nu le ow fo run wc lc tr cl tm ms yl yc yt co pa su sc mc af yn yh (hI.mono) _ _ _ hP hD hS (lv_sub hl [0, 1, 2, 3, 4] rfl)
  · skip
    have c_1 : ¬ (zmx (zdH yl yc yt (zmx (zdL run nu wc tr (zd4 mc (zdP pt pm pl (zdK kt km kl (zdW L (zmx 191 (nI n).toInt64) n) 26) 676))) (nI co).toInt64) co) pa.toInt64) = (zmx (zdH yl yc yt (zmx (zdL run nu wc tr (zd4 mc (zdP pt pm pl (zdK kt km kl (zdW L (zmx 191 (nI n).toInt64) n) 26) 676))) (nI co).toInt64) co) pa.toInt64) := fun hh => c_1 ((lg_cmp_eq _ _).mpr hh)
    exact absurd rfl c_1
