/-! the law: what holds at its loop, what a call leaves -/
theorem zswapP {D : va_G} {cl : List vw_C} {A Bw : va_W} {H : Heap} (h : va_P D cl (A ++ Bw) H) : va_P D cl (Bw ++ A) H := va_P.swap (a := []) h
theorem zswapD {A0 : Nat → Prop} {A Bw : va_W} (h : va_D A0 (A ++ Bw)) : va_D A0 (Bw ++ A) := va_D.swap (a := []) h
def zarg (x y : Int32) : Int64 := (x.toInt64 <<< ((32 : Int32).toInt64 &&& 63)) ||| (y.toInt64 &&& 4294967295)
def zLw (p : Program) (l : Launch) (s : State) (m : MethodId) (meth : Method) (c : Code) (b L9 : Nat) (xs : Nat → Int32) (D : va_G) (cI cJ cZ : ClassId) (kr kp : Nat) : Prop :=
  lw_At p s m meth c b L9 xs ∧ l.stackTraces = false ∧ va_K D vwCl (zTy cI cJ cZ) s ∧ zE s.heap.size kr kp s s.heap ∧ L9 ≤ 2048
theorem zlw_c : Cond.constantLong RL 71 (4294967295) ∈ wsL_law := List.mem_append_left _ (List.mem_append_left _ (List.mem_append_left _ (by decide +kernel)))
theorem zin26 {a : Nat} (h : a < 26) : ¬ nI a < 0 ∧ ¬ (26 : Int32) ≤ nI a := ⟨nI_pos (by omega), nI_ge h (by decide)⟩
theorem zopn_n {n : Nat} {L : Nat → Int64} {kl pt pl nu le ow fo : Nat → Int32} {k : Nat} (hn : n ≤ 40) (hz : ∀ j, j < n → zok (L j) = true) (h1 : 1 ≤ k) (h6 : k ≤ 6) (h0 : 0 < n) : (zoT L n kl pt pl (nu, le, ow, zfil 26 0 fo, 0, 0) k).2.2.2.2.1 ≤ 6 ∧ 0 < (zoT L n kl pt pl (nu, le, ow, zfil 26 0 fo, 0, 0) k).2.2.2.2.1 := by
  obtain ⟨-, -, e3, -⟩ := zRl_all (kl := kl) (pt := pt) (pl := pl) (nu := nu) (le := le) (ow := ow) (af := fun _ => 0) (fo := fo) hn hz k h6
  exact ⟨Nat.le_trans ((by have := zoT_wc (L := L) (n := n) (kl := kl) (pt := pt) (pl := pl) (s := (nu, le, ow, zfil 26 0 fo, 0, 0)) k; simpa using this)) h6, by rw [e3]; exact zRl_ge rfl h0 k h1⟩
def zKt (p : Program) (l : Launch) (e : Env) (s : State) (m : MethodId) (below : List Frame) (meth : Method) (c : Code) (b : Nat) (D : va_G) (cI cJ cZ : ClassId) (j cc ss : Nat) : Prop :=
  ∀ (h : Nat → Nat) (h2 : Nat → Nat) (oa : Nat) (yo : Nat → Int64) (th : Int32) (n : Nat) (L : Nat → Int64) (kt : Nat → Int32) (km : Nat → Int32) (kl : Nat → Int32) (pt : Nat → Int32) (pm : Nat → Int32) (pl : Nat → Int32) (nu : Nat → Int32) (le : Nat → Int32) (ow : Nat → Int32) (fo : Nat → Int32) (run : Bool) (wc : Nat) (lc : Nat) (tr : Nat) (cl : Nat) (tm : Nat) (ms : Nat) (yl : Nat → Int32) (yc : Nat → Int32) (yt : Nat → Int32) (co : Nat) (pa : Int32) (su : Nat) (sc : Nat) (mc : Nat → Int32) (af : Nat → Int32) (yn : Nat) (yh : Nat → Int32), zInv (j + 1) n L pt le ow af run wc lc tr cl tm ms yl yc yt co yn su sc yh → ∀ (H : Heap) (locs : List Loc) (ls : Array Slot), va_P D vwCl ((zWT cI cJ h (n, L) (kt, km, kl) (pt, pm, pl) (nu, le, ow, fo, run, wc, lc, tr, cl, tm, ms) (yl, yc, yt, co, pa, su, sc) mc) ++ ((oa, .inl (cJ, 1, .inr (.inl yo))) :: (zWM cI cJ cZ h2 th (n, L) ((zcb kt pt), (zcb km pm), (zcb kl pl)) mc (run, wc, nu, lc, le, af, tr, ms, cl, tm) (co, yn, yh, pa)))) H → va_D (zAb s.heap.size) ((zWT cI cJ h (n, L) (kt, km, kl) (pt, pm, pl) (nu, le, ow, fo, run, wc, lc, tr, cl, tm, ms) (yl, yc, yt, co, pa, su, sc) mc) ++ ((oa, .inl (cJ, 1, .inr (.inl yo))) :: (zWM cI cJ cZ h2 th (n, L) ((zcb kt pt), (zcb km pm), (zcb kl pl)) mc (run, wc, nu, lc, le, af, tr, ms, cl, tm) (co, yn, yh, pa)))) → va_S (zAb s.heap.size) s.heap H locs → lv_has ls 9 [(0, .ref b), (1, .ref (h 0)), (2, .ref (h2 0)), (3, .ref oa), (4, .int (nI (4 * j)))] → W p l e room_1 s m #[Value.ref b] below meth c H locs (cc + 2) (ss + 1542) (lw_Z below #[Value.ref b] s) (F0 m 1191 ls [])
theorem c_X5_open_t {l : Launch} {B kr kp : Nat} {D : va_G} {cI cJ cZ : ClassId} {h : Nat → Nat} {R : va_W} {th : Int32} {n : Nat} {L : Nat → Int64} {kt : Nat → Int32} {km : Nat → Int32} {kl : Nat → Int32} {pt : Nat → Int32} {pm : Nat → Int32} {pl : Nat → Int32} {nu : Nat → Int32} {le : Nat → Int32} {af : Nat → Int32} {run : Bool} {wc : Nat} {lc : Nat} {tr : Nat} {cl : Nat} {tm : Nat} {ms : Nat} {co : Nat} {yn : Nat} {yh : Nat → Int32} {pa : Int32} {mc : Nat → Int32} {words : Nat} {ow fo : Nat → Int32}   (hw1 : 1 ≤ words) (hw6 : words ≤ 6) (hrun : run = false) (hn0 : 0 < n) (hn : n ≤ 40) (hz : ∀ j, j < n → zok (L j) = true) : Met l yX5_open wsX5_open ({ frames := 3, cells := 0, slots := 0, locals := 69 }) (zPc B kr kp D (zTy cI cJ cZ) (zWM cI cJ cZ h th (n, L) ((zcb kt pt), (zcb km pm), (zcb kl pl)) mc (run, wc, nu, lc, le, af, tr, ms, cl, tm) (co, yn, yh, pa) ++ R) [.ref (h 0), .int (nI words)]) (zQi B D (zWM cI cJ cZ h 0 (n, L) ((zcb kt pt), (zcb km pm), (zcb kl pl)) mc (true, ((zoT L n kl pt pl (nu, le, ow, zfil 26 0 fo, 0, 0) words).2.2.2.2.1), ((zoT L n kl pt pl (nu, le, ow, zfil 26 0 fo, 0, 0) words).1), ((zoT L n kl pt pl (nu, le, ow, zfil 26 0 fo, 0, 0) words).2.2.2.2.2), ((zoT L n kl pt pl (nu, le, ow, zfil 26 0 fo, 0, 0) words).2.1), ((zoM L n kl pt pl (nu, le, af, 0, 0) words).2.2.1), 0, 0, 0, 0) (co, yn, yh, pa) ++ R) (nI ((zoT L n kl pt pl (nu, le, ow, zfil 26 0 fo, 0, 0) words).2.2.2.2.1))) 0 0 (zAb B) := by
  have h9 := c_X5_open (l := l) (B := B) (kr := kr) (kp := kp) (D := D) (cI := cI) (cJ := cJ) (cZ := cZ) (h := h) (R := R) (th := th) (kt := kt) (km := km) (kl := kl) (pt := pt) (pm := pm) (pl := pl) (nu := nu) (le := le) (af := af) (wc := wc) (lc := lc) (tr := tr) (cl := cl) (tm := tm) (ms := ms) (co := co) (yn := yn) (yh := yh) (pa := pa) (mc := mc) hw1 hw6 hrun hn0 hn hz
  obtain ⟨e1, e2, e3, e4, -⟩ := zRl_all (kl := kl) (pt := pt) (pl := pl) (nu := nu) (le := le) (ow := ow) (af := af) (fo := fo) hn hz words hw6
  rw [← e1, ← e2, ← e3, ← e4] at h9
  exact h9
set_option maxHeartbeats 1000000 in
set_option maxRecDepth 100000 in
theorem law_addWord {p : Program} {l : Launch} {e : Env} {s : State} {m : MethodId} {below : List Frame} {meth : Method} {c : Code} {b L9 : Nat} {xs : Nat → Int32} {D : va_G} {cI cJ cZ : ClassId} {kr kp j cc ss : Nat} {h h2 : Nat → Nat} {oa : Nat} {yo : Nat → Int64} {th : Int32} {n : Nat} {L : Nat → Int64} {kt : Nat → Int32} {km : Nat → Int32} {kl : Nat → Int32} {pt : Nat → Int32} {pm : Nat → Int32} {pl : Nat → Int32} {nu : Nat → Int32} {le : Nat → Int32} {ow : Nat → Int32} {fo : Nat → Int32} {run : Bool} {wc : Nat} {lc : Nat} {tr : Nat} {cl : Nat} {tm : Nat} {ms : Nat} {yl : Nat → Int32} {yc : Nat → Int32} {yt : Nat → Int32} {co : Nat} {pa : Int32} {su : Nat} {sc : Nat} {mc : Nat → Int32} {af : Nat → Int32} {yn : Nat} {yh : Nat → Int32} {w : Int64} (C : zLw p l s m meth c b L9 xs D cI cJ cZ kr kp) (hj : 4 * j + 4 ≤ L9) (hcc : cc + 2 ≤ 601024) (hss : ss + 1542 ≤ 7293034) (kont : zKt p l e s m below meth c b D cI cJ cZ j cc ss) (hI : zInv j n L pt le ow af run wc lc tr cl tm ms yl yc yt co yn su sc yh) (hw9 : zarg (xs (4 * j + 1)) (xs (4 * j + 2)) = w) (hz : zok w = true) (hn : n < 40) (hh9 : zhd L w n = false) {H : Heap} {locs : List Loc} {ls : Array Slot} (hP : va_P D vwCl ((zWT cI cJ h (n, L) (kt, km, kl) (pt, pm, pl) (nu, le, ow, fo, run, wc, lc, tr, cl, tm, ms) (yl, yc, yt, co, pa, su, sc) mc) ++ ((oa, .inl (cJ, 1, .inr (.inl yo))) :: (zWM cI cJ cZ h2 th (n, L) ((zcb kt pt), (zcb km pm), (zcb kl pl)) mc (run, wc, nu, lc, le, af, tr, ms, cl, tm) (co, yn, yh, pa)))) H) (hD : va_D (zAb s.heap.size) ((zWT cI cJ h (n, L) (kt, km, kl) (pt, pm, pl) (nu, le, ow, fo, run, wc, lc, tr, cl, tm, ms) (yl, yc, yt, co, pa, su, sc) mc) ++ ((oa, .inl (cJ, 1, .inr (.inl yo))) :: (zWM cI cJ cZ h2 th (n, L) ((zcb kt pt), (zcb km pm), (zcb kl pl)) mc (run, wc, nu, lc, le, af, tr, ms, cl, tm) (co, yn, yh, pa))))) (hS : va_S (zAb s.heap.size) s.heap H locs) (hl : lv_has ls 9 [(0, .ref b), (1, .ref (h 0)), (2, .ref (h2 0)), (3, .ref oa), (4, .int (nI (4 * j)))]) : W p l e room_1 s m #[Value.ref b] below meth c H locs cc ss (lw_Z below #[Value.ref b] s) (F0 m 144 ls []) := by
  obtain ⟨C0, hls, hK, hE, hL9⟩ := C
  obtain ⟨hx, hb, hr, hml, hown, hts0, hX, hbl, hlocks, hgv⟩ := C0
  have hts : ∀ w ∈ wsL_law, w.before #[Value.ref b] s = true := fun w h => hts0 w (wsL_law_in w h)
  have hbA : ¬ zAb s.heap.size b := Nat.not_le.mpr hbl
  have hB : s.heap.size ≤ s.heap.size := Nat.le_refl _
  have hn40 := hI.1.1
  have hzk := hI.1.2
  obtain ⟨hwc6, hlc48, htrl, hclt, hms1⟩ := hI.2.1
  have hrt := hI.2.2.1
  have hle := hI.2.2.2.1
  have hMk := hI.2.2.2.2.1
  have hct := hI.2.2.2.2.2.1
  have hHi := hI.2.2.2.2.2.2.1
  have hsu := hI.2.2.2.2.2.2.2.2.1
  have hj5 : j ≤ 511 := by omega
  have hco : co < 256 := by have := hct.1; omega
  have hco6 : co ≤ 256 := Nat.le_of_lt hco
  have hsl : su < 2147483648 := by have := hsu.2.2; omega
  have hpt := hI.hpt (Nat.le_succ_of_le hj5)
  refine lv_aload_n hx hb dL_law_144 rfl (lv_at hl 1 rfl) ?_
  refine lv_aload_n hx hb dL_law_145 rfl (lv_at hl 0 rfl) ?_
  refine lv_iload hx hb dL_law_146 (lv_at hl 4 rfl) ?_
  refine lv_iconst (v := 1) hx hb dL_law_148 (by decide) ?_
  refine lv_iadd hx hb dL_law_149 ?_
  refine lv_topi (fun v_1 ev_1 => ?_)
  obtain rfl : v_1 = (nI ((4 * j) + 1)) := ev_1.trans (nI_add (4 * j) 1)
  refine va_sld hx hb hX hbl hbA hS (vp_in_nI (n := ((4 * j) + 1)) (N := L9) (by omega) (by omega)) dL_law_150 ?_
  refine lv_topi (fun v_2 ev_2 => ?_)
  obtain rfl : (xs (4 * j + 1)) = v_2 := (ev_2.trans ((congrArg xs (nI_clamp (by omega))).trans rfl)).symm
  refine lv_i2l (v := ((xs (4 * j + 1))).toInt64) hx hb dL_law_151 rfl ?_
  refine lv_bipush (v := 32) hx hb dL_law_152 (by decide) ?_
  refine lv_lshl (v := (((xs (4 * j + 1))).toInt64) <<< ((32 : Int32).toInt64 &&& 63)) hx hb dL_law_154 rfl ?_
  refine lv_aload_n hx hb dL_law_155 rfl (lv_at hl 0 rfl) ?_
  refine lv_iload hx hb dL_law_156 (lv_at hl 4 rfl) ?_
  refine lv_iconst (v := 2) hx hb dL_law_158 (by decide) ?_
  refine lv_iadd hx hb dL_law_159 ?_
  refine lv_topi (fun v_3 ev_3 => ?_)
  obtain rfl : v_3 = (nI ((4 * j) + 2)) := ev_3.trans (nI_add (4 * j) 2)
  refine va_sld hx hb hX hbl hbA hS (vp_in_nI (n := ((4 * j) + 2)) (N := L9) (by omega) (by omega)) dL_law_160 ?_
  refine lv_topi (fun v_4 ev_4 => ?_)
  obtain rfl : (xs (4 * j + 2)) = v_4 := (ev_4.trans ((congrArg xs (nI_clamp (by omega))).trans rfl)).symm
  refine lv_i2l (v := ((xs (4 * j + 2))).toInt64) hx hb dL_law_161 rfl ?_
  refine lv_ldc2 hx hb hown (hts _ zlw_c) dL_law_162 ?_
  refine lv_land hx hb dL_law_165 ?_
  refine lv_lor hx hb dL_law_166 ?_
  refine lv_topl (fun v_5 ev_5 => ?_)
  obtain rfl : w = v_5 := (ev_5.trans hw9).symm
  refine lv_aload_n hx hb dL_law_167 rfl (lv_at hl 3 rfl) ?_
  refine zci (vx_runSW (As := [.ref (h 0), .long w, .ref oa]) (rest := []) ⟨hx, hb, hml, hown, hts⟩ (c_L_addWord  (hz) (hn) (hh9)) (vx_cwSW 3 hts gL_law_L_addWord rfl rfl rfl hds_L_addWord ⟨Nat.le_of_ble_eq_true rfl, Nat.le_of_ble_eq_true rfl⟩) (zS hP hD hK hE hB hS) rfl rfl hl.1 rfl (lv_room (Nat.le_of_ble_eq_true rfl)) dL_law_168 ⟨(show cc + 0 ≤ 601024 by omega), (show ss + 0 ≤ 7293034 by omega)⟩) hS (fun H locs hP hD hS => ?_)
  have hP : va_P D vwCl ((zWT cI cJ h ((n + 1), (vp_updL L n w)) (kt, km, kl) (pt, pm, pl) (nu, le, ow, fo, run, wc, lc, tr, cl, tm, ms) (yl, yc, yt, co, pa, su, sc) mc) ++ ((oa, .inl (cJ, 1, .inr (.inl (vp_updL yo 0 (((nI n)).toInt64))))) :: (zWM cI cJ cZ h2 th (n, L) ((zcb kt pt), (zcb km pm), (zcb kl pl)) mc (run, wc, nu, lc, le, af, tr, ms, cl, tm) (co, yn, yh, pa)))) H := hP
  have hD : va_D (zAb s.heap.size) ((zWT cI cJ h ((n + 1), (vp_updL L n w)) (kt, km, kl) (pt, pm, pl) (nu, le, ow, fo, run, wc, lc, tr, cl, tm, ms) (yl, yc, yt, co, pa, su, sc) mc) ++ ((oa, .inl (cJ, 1, .inr (.inl (vp_updL yo 0 (((nI n)).toInt64))))) :: (zWM cI cJ cZ h2 th (n, L) ((zcb kt pt), (zcb km pm), (zcb kl pl)) mc (run, wc, nu, lc, le, af, tr, ms, cl, tm) (co, yn, yh, pa)))) := hD
  refine lv_istore (lv' := [(5, .int 0), (0, .ref b), (1, .ref (h 0)), (2, .ref (h2 0)), (3, .ref oa), (4, .int (nI (4 * j)))]) hx hb dL_law_171 hl (by decide) rfl (fun ls hl => ?_)
  refine lv_aload_n hx hb dL_law_173 rfl (lv_at hl 3 rfl) ?_
  refine lv_aload_n hx hb dL_law_174 rfl (lv_at hl 1 rfl) ?_
  refine lv_iload hx hb dL_law_175 (lv_at hl 5 rfl) ?_
  refine lv_iconst (v := 1) hx hb dL_law_177 (by decide) ?_
  refine lv_iadd hx hb dL_law_178 ?_
  refine lv_topi (fun v_6 ev_6 => ?_)
  obtain rfl : v_6 = (nI ((4 * j) + 1)) := ev_6.trans (nI_add (4 * j) 1)
  refine va_sld hx hb hX hbl hbA hS (vp_in_nI (n := ((4 * j) + 1)) (N := L9) (by omega) (by omega)) dL_law_179 ?_
  refine lv_topi (fun v_7 ev_7 => ?_)
  obtain rfl : (xs (4 * j + 1)) = v_7 := (ev_7.trans ((congrArg xs (nI_clamp (by omega))).trans rfl)).symm
  refine lv_i2l (v := ((xs (4 * j + 1))).toInt64) hx hb dL_law_180 rfl ?_
  refine lv_bipush (v := 32) hx hb dL_law_181 (by decide) ?_
  refine lv_lshl (v := (((xs (4 * j + 1))).toInt64) <<< ((32 : Int32).toInt64 &&& 63)) hx hb dL_law_183 rfl ?_
  refine lv_aload_n hx hb dL_law_184 rfl (lv_at hl 1 rfl) ?_
  refine lv_iload hx hb dL_law_185 (lv_at hl 5 rfl) ?_
  refine lv_iconst (v := 2) hx hb dL_law_187 (by decide) ?_
  refine lv_iadd hx hb dL_law_188 ?_
  refine lv_topi (fun v_8 ev_8 => ?_)
  obtain rfl : v_8 = (nI ((4 * j) + 2)) := ev_8.trans (nI_add (4 * j) 2)
  refine va_sld hx hb hX hbl hbA hS (vp_in_nI (n := ((4 * j) + 2)) (N := L9) (by omega) (by omega)) dL_law_189 ?_
  refine lv_topi (fun v_9 ev_9 => ?_)
  obtain rfl : (xs (4 * j + 2)) = v_9 := (ev_9.trans ((congrArg xs (nI_clamp (by omega))).trans rfl)).symm
  refine lv_i2l (v := ((xs (4 * j + 2))).toInt64) hx hb dL_law_190 rfl ?_
  refine lv_ldc2 hx hb hown (hts _ zlw_c) dL_law_191 ?_
  refine lv_land hx hb dL_law_194 ?_
  refine lv_lor hx hb dL_law_195 ?_
  refine lv_topl (fun v_10 ev_10 => ?_)
  obtain rfl : w = v_10 := (ev_10.trans hw9).symm
  have hP9 : va_P D vwCl ((zWM cI cJ cZ h2 th (n, L) ((zcb kt pt), (zcb km pm), (zcb kl pl)) mc (run, wc, nu, lc, le, af, tr, ms, cl, tm) (co, yn, yh, pa)) ++ ((zWT cI cJ h ((n + 1), (vp_updL L n w)) (kt, km, kl) (pt, pm, pl) (nu, le, ow, fo, run, wc, lc, tr, cl, tm, ms) (yl, yc, yt, co, pa, su, sc) mc) ++ [(oa, .inl (cJ, 1, .inr (.inl (vp_updL yo 0 (((nI n)).toInt64)))))])) H := zswapP (A := (zWT cI cJ h ((n + 1), (vp_updL L n w)) (kt, km, kl) (pt, pm, pl) (nu, le, ow, fo, run, wc, lc, tr, cl, tm, ms) (yl, yc, yt, co, pa, su, sc) mc) ++ [(oa, .inl (cJ, 1, .inr (.inl (vp_updL yo 0 (((nI n)).toInt64)))))]) (Bw := (zWM cI cJ cZ h2 th (n, L) ((zcb kt pt), (zcb km pm), (zcb kl pl)) mc (run, wc, nu, lc, le, af, tr, ms, cl, tm) (co, yn, yh, pa))) hP
  have hD9 : va_D (zAb s.heap.size) ((zWM cI cJ cZ h2 th (n, L) ((zcb kt pt), (zcb km pm), (zcb kl pl)) mc (run, wc, nu, lc, le, af, tr, ms, cl, tm) (co, yn, yh, pa)) ++ ((zWT cI cJ h ((n + 1), (vp_updL L n w)) (kt, km, kl) (pt, pm, pl) (nu, le, ow, fo, run, wc, lc, tr, cl, tm, ms) (yl, yc, yt, co, pa, su, sc) mc) ++ [(oa, .inl (cJ, 1, .inr (.inl (vp_updL yo 0 (((nI n)).toInt64)))))])) := zswapD (A := (zWT cI cJ h ((n + 1), (vp_updL L n w)) (kt, km, kl) (pt, pm, pl) (nu, le, ow, fo, run, wc, lc, tr, cl, tm, ms) (yl, yc, yt, co, pa, su, sc) mc) ++ [(oa, .inl (cJ, 1, .inr (.inl (vp_updL yo 0 (((nI n)).toInt64)))))]) (Bw := (zWM cI cJ cZ h2 th (n, L) ((zcb kt pt), (zcb km pm), (zcb kl pl)) mc (run, wc, nu, lc, le, af, tr, ms, cl, tm) (co, yn, yh, pa))) hD
  refine zci (zrV (As := [.long w]) (rest := []) ⟨hx, hb, hml, hown, hts⟩ (zV 0 hP9 hD9 hK hE hB hS rfl rfl) (c_X5_addWord  (hz) (hn) (hh9)) (cwV 1 hts gL_law_X5_addWord rfl rfl rfl hdv_X5_addWord ⟨Nat.le_of_ble_eq_true rfl, Nat.le_of_ble_eq_true rfl⟩) rfl rfl hl.1 rfl (lv_room (Nat.le_of_ble_eq_true rfl)) dL_law_196 ⟨(show cc + 0 + 0 ≤ 601024 by omega), (show ss + 0 + 0 ≤ 7293034 by omega)⟩) hS (fun H locs hP hD hS => ?_)
  have hP : va_P D vwCl ((zWT cI cJ h ((n + 1), (vp_updL L n w)) (kt, km, kl) (pt, pm, pl) (nu, le, ow, fo, run, wc, lc, tr, cl, tm, ms) (yl, yc, yt, co, pa, su, sc) mc) ++ ((oa, .inl (cJ, 1, .inr (.inl (vp_updL yo 0 (((nI n)).toInt64))))) :: (zWM cI cJ cZ h2 0 ((n + 1), (vp_updL L n w)) ((zcb kt pt), (zcb km pm), (zcb kl pl)) mc (run, wc, nu, lc, le, af, tr, ms, cl, tm) (co, yn, yh, pa)))) H := zswapP (A := (zWM cI cJ cZ h2 0 ((n + 1), (vp_updL L n w)) ((zcb kt pt), (zcb km pm), (zcb kl pl)) mc (run, wc, nu, lc, le, af, tr, ms, cl, tm) (co, yn, yh, pa))) (Bw := (zWT cI cJ h ((n + 1), (vp_updL L n w)) (kt, km, kl) (pt, pm, pl) (nu, le, ow, fo, run, wc, lc, tr, cl, tm, ms) (yl, yc, yt, co, pa, su, sc) mc) ++ [(oa, .inl (cJ, 1, .inr (.inl (vp_updL yo 0 (((nI n)).toInt64)))))]) hP
  have hD : va_D (zAb s.heap.size) ((zWT cI cJ h ((n + 1), (vp_updL L n w)) (kt, km, kl) (pt, pm, pl) (nu, le, ow, fo, run, wc, lc, tr, cl, tm, ms) (yl, yc, yt, co, pa, su, sc) mc) ++ ((oa, .inl (cJ, 1, .inr (.inl (vp_updL yo 0 (((nI n)).toInt64))))) :: (zWM cI cJ cZ h2 0 ((n + 1), (vp_updL L n w)) ((zcb kt pt), (zcb km pm), (zcb kl pl)) mc (run, wc, nu, lc, le, af, tr, ms, cl, tm) (co, yn, yh, pa)))) := zswapD (A := (zWM cI cJ cZ h2 0 ((n + 1), (vp_updL L n w)) ((zcb kt pt), (zcb km pm), (zcb kl pl)) mc (run, wc, nu, lc, le, af, tr, ms, cl, tm) (co, yn, yh, pa))) (Bw := (zWT cI cJ h ((n + 1), (vp_updL L n w)) (kt, km, kl) (pt, pm, pl) (nu, le, ow, fo, run, wc, lc, tr, cl, tm, ms) (yl, yc, yt, co, pa, su, sc) mc) ++ [(oa, .inl (cJ, 1, .inr (.inl (vp_updL yo 0 (((nI n)).toInt64)))))]) hD
  refine lv_istore (lv' := [(6, .int (nI n)), (5, .int 0), (0, .ref b), (1, .ref (h 0)), (2, .ref (h2 0)), (3, .ref oa), (4, .int (nI (4 * j)))]) hx hb dL_law_199 hl (by decide) rfl (fun ls hl => ?_)
  refine lv_aload_n hx hb dL_law_201 rfl (lv_at hl 4 rfl) ?_
  have hP9 : va_P D vwCl ((zWM cI cJ cZ h2 0 ((n + 1), (vp_updL L n w)) ((zcb kt pt), (zcb km pm), (zcb kl pl)) mc (run, wc, nu, lc, le, af, tr, ms, cl, tm) (co, yn, yh, pa)) ++ ((zWT cI cJ h ((n + 1), (vp_updL L n w)) (kt, km, kl) (pt, pm, pl) (nu, le, ow, fo, run, wc, lc, tr, cl, tm, ms) (yl, yc, yt, co, pa, su, sc) mc) ++ [(oa, .inl (cJ, 1, .inr (.inl (vp_updL yo 0 (((nI n)).toInt64)))))])) H := zswapP (A := (zWT cI cJ h ((n + 1), (vp_updL L n w)) (kt, km, kl) (pt, pm, pl) (nu, le, ow, fo, run, wc, lc, tr, cl, tm, ms) (yl, yc, yt, co, pa, su, sc) mc) ++ [(oa, .inl (cJ, 1, .inr (.inl (vp_updL yo 0 (((nI n)).toInt64)))))]) (Bw := (zWM cI cJ cZ h2 0 ((n + 1), (vp_updL L n w)) ((zcb kt pt), (zcb km pm), (zcb kl pl)) mc (run, wc, nu, lc, le, af, tr, ms, cl, tm) (co, yn, yh, pa))) hP
  have hD9 : va_D (zAb s.heap.size) ((zWM cI cJ cZ h2 0 ((n + 1), (vp_updL L n w)) ((zcb kt pt), (zcb km pm), (zcb kl pl)) mc (run, wc, nu, lc, le, af, tr, ms, cl, tm) (co, yn, yh, pa)) ++ ((zWT cI cJ h ((n + 1), (vp_updL L n w)) (kt, km, kl) (pt, pm, pl) (nu, le, ow, fo, run, wc, lc, tr, cl, tm, ms) (yl, yc, yt, co, pa, su, sc) mc) ++ [(oa, .inl (cJ, 1, .inr (.inl (vp_updL yo 0 (((nI n)).toInt64)))))])) := zswapD (A := (zWT cI cJ h ((n + 1), (vp_updL L n w)) (kt, km, kl) (pt, pm, pl) (nu, le, ow, fo, run, wc, lc, tr, cl, tm, ms) (yl, yc, yt, co, pa, su, sc) mc) ++ [(oa, .inl (cJ, 1, .inr (.inl (vp_updL yo 0 (((nI n)).toInt64)))))]) (Bw := (zWM cI cJ cZ h2 0 ((n + 1), (vp_updL L n w)) ((zcb kt pt), (zcb km pm), (zcb kl pl)) mc (run, wc, nu, lc, le, af, tr, ms, cl, tm) (co, yn, yh, pa))) hD
  refine zci (zrV (As := []) (rest := []) ⟨hx, hb, hml, hown, hts⟩ (zV 0 hP9 hD9 hK hE hB hS rfl rfl) (c_X5_thrown  ) (cwV 0 hts gL_law_X5_thrown rfl rfl rfl hdv_X5_thrown ⟨Nat.le_of_ble_eq_true rfl, Nat.le_of_ble_eq_true rfl⟩) rfl rfl hl.1 rfl (lv_room (Nat.le_of_ble_eq_true rfl)) dL_law_202 ⟨(show cc + 0 + 0 + 0 ≤ 601024 by omega), (show ss + 0 + 0 + 0 ≤ 7293034 by omega)⟩) hS (fun H locs hP hD hS => ?_)
  have hP : va_P D vwCl ((zWT cI cJ h ((n + 1), (vp_updL L n w)) (kt, km, kl) (pt, pm, pl) (nu, le, ow, fo, run, wc, lc, tr, cl, tm, ms) (yl, yc, yt, co, pa, su, sc) mc) ++ ((oa, .inl (cJ, 1, .inr (.inl (vp_updL yo 0 (((nI n)).toInt64))))) :: (zWM cI cJ cZ h2 0 ((n + 1), (vp_updL L n w)) ((zcb kt pt), (zcb km pm), (zcb kl pl)) mc (run, wc, nu, lc, le, af, tr, ms, cl, tm) (co, yn, yh, pa)))) H := zswapP (A := (zWM cI cJ cZ h2 0 ((n + 1), (vp_updL L n w)) ((zcb kt pt), (zcb km pm), (zcb kl pl)) mc (run, wc, nu, lc, le, af, tr, ms, cl, tm) (co, yn, yh, pa))) (Bw := (zWT cI cJ h ((n + 1), (vp_updL L n w)) (kt, km, kl) (pt, pm, pl) (nu, le, ow, fo, run, wc, lc, tr, cl, tm, ms) (yl, yc, yt, co, pa, su, sc) mc) ++ [(oa, .inl (cJ, 1, .inr (.inl (vp_updL yo 0 (((nI n)).toInt64)))))]) hP
  have hD : va_D (zAb s.heap.size) ((zWT cI cJ h ((n + 1), (vp_updL L n w)) (kt, km, kl) (pt, pm, pl) (nu, le, ow, fo, run, wc, lc, tr, cl, tm, ms) (yl, yc, yt, co, pa, su, sc) mc) ++ ((oa, .inl (cJ, 1, .inr (.inl (vp_updL yo 0 (((nI n)).toInt64))))) :: (zWM cI cJ cZ h2 0 ((n + 1), (vp_updL L n w)) ((zcb kt pt), (zcb km pm), (zcb kl pl)) mc (run, wc, nu, lc, le, af, tr, ms, cl, tm) (co, yn, yh, pa)))) := zswapD (A := (zWM cI cJ cZ h2 0 ((n + 1), (vp_updL L n w)) ((zcb kt pt), (zcb km pm), (zcb kl pl)) mc (run, wc, nu, lc, le, af, tr, ms, cl, tm) (co, yn, yh, pa))) (Bw := (zWT cI cJ h ((n + 1), (vp_updL L n w)) (kt, km, kl) (pt, pm, pl) (nu, le, ow, fo, run, wc, lc, tr, cl, tm, ms) (yl, yc, yt, co, pa, su, sc) mc) ++ [(oa, .inl (cJ, 1, .inr (.inl (vp_updL yo 0 (((nI n)).toInt64)))))]) hD
  refine lv_iload hx hb dL_law_205 (lv_at hl 1 rfl) ?_
  refine lv_icmp_eq (tgt := 212) hx hb dL_law_207 (by decide) (fun c_11 => ?_) (fun c_11 => ?_)
  · skip
    refine lv_iload hx hb dL_law_212 (lv_at hl 1 rfl) ?_
    refine lv_if_ne (tgt := 229) hx hb dL_law_214 (by decide) (fun c_12 => ?_) (fun c_12 => ?_)
    · skip
      exfalso; first | omega | (revert c_12; decide) | (exact absurd rfl c_12) | simp_all
    · skip
      refine lv_aload_n hx hb dL_law_217 rfl (lv_at hl 5 rfl) ?_
      refine lv_iconst (v := 0) hx hb dL_law_218 (by decide) ?_
      refine va_lald hx hb hK hP 21 1 rfl rfl (vp_in_nI (n := 0) (N := 1) (by omega) (by omega)) dL_law_219 ?_
      refine lv_topl (fun v_13 ev_13 => ?_)
      obtain rfl : (((nI n)).toInt64) = v_13 := (ev_13.trans (pk_uLs (f := yo) (k := 0) (x := (((nI n)).toInt64)))).symm
      refine lv_iload hx hb dL_law_220 (lv_at hl 0 rfl) ?_
      refine lv_i2l (v := ((nI n)).toInt64) hx hb dL_law_222 rfl ?_
      refine W.lcmp hx hb dL_law_223 ?_
      refine lv_if_eq (tgt := 229) hx hb dL_law_224 (by decide) (fun c_14 => ?_) (fun c_14 => ?_)
      · skip
        have c_14 : (((nI n)).toInt64) = (((nI n)).toInt64) := (lg_cmp_eq _ _).mp c_14
        refine lv_goto (tgt := 1191) hx hb dL_law_229 (by decide) ?_
        refine W.widen (k := cc + 2) (n := ss + 1542) (show cc + 0 + 0 + 0 ≤ cc + 2 by omega) (show ss + 0 + 0 + 0 ≤ ss + 1542 by omega) ?_
        exact kont h h2 oa (vp_updL yo 0 (((nI n)).toInt64)) 0 (n + 1) (vp_updL L n w) kt km kl pt pm pl nu le ow fo run wc lc tr cl tm ms yl yc yt co pa su sc mc af yn yh (hI.add hz hn) _ _ _ hP hD hS (lv_sub hl [2, 3, 4, 5, 6] rfl)
      · skip
        have c_14 : ¬ (((nI n)).toInt64) = (((nI n)).toInt64) := fun hh => c_14 ((lg_cmp_eq _ _).mpr hh)
        exact absurd rfl c_14
  · skip
    exfalso; first | omega | (revert c_11; decide) | (exact absurd rfl c_11) | simp_all

set_option maxHeartbeats 1000000 in
set_option maxRecDepth 100000 in
theorem law_addWord_x1 {p : Program} {l : Launch} {e : Env} {s : State} {m : MethodId} {below : List Frame} {meth : Method} {c : Code} {b L9 : Nat} {xs : Nat → Int32} {D : va_G} {cI cJ cZ : ClassId} {kr kp j cc ss : Nat} {h h2 : Nat → Nat} {oa : Nat} {yo : Nat → Int64} {th : Int32} {n : Nat} {L : Nat → Int64} {kt : Nat → Int32} {km : Nat → Int32} {kl : Nat → Int32} {pt : Nat → Int32} {pm : Nat → Int32} {pl : Nat → Int32} {nu : Nat → Int32} {le : Nat → Int32} {ow : Nat → Int32} {fo : Nat → Int32} {run : Bool} {wc : Nat} {lc : Nat} {tr : Nat} {cl : Nat} {tm : Nat} {ms : Nat} {yl : Nat → Int32} {yc : Nat → Int32} {yt : Nat → Int32} {co : Nat} {pa : Int32} {su : Nat} {sc : Nat} {mc : Nat → Int32} {af : Nat → Int32} {yn : Nat} {yh : Nat → Int32} {w : Int64} (C : zLw p l s m meth c b L9 xs D cI cJ cZ kr kp) (hj : 4 * j + 4 ≤ L9) (hcc : cc + 2 ≤ 601024) (hss : ss + 1542 ≤ 7293034) (kont : zKt p l e s m below meth c b D cI cJ cZ j cc ss) (hI : zInv j n L pt le ow af run wc lc tr cl tm ms yl yc yt co yn su sc yh) (hw9 : zarg (xs (4 * j + 1)) (xs (4 * j + 2)) = w) (hz : zok w = false) {H : Heap} {locs : List Loc} {ls : Array Slot} (hP : va_P D vwCl ((zWT cI cJ h (n, L) (kt, km, kl) (pt, pm, pl) (nu, le, ow, fo, run, wc, lc, tr, cl, tm, ms) (yl, yc, yt, co, pa, su, sc) mc) ++ ((oa, .inl (cJ, 1, .inr (.inl yo))) :: (zWM cI cJ cZ h2 th (n, L) ((zcb kt pt), (zcb km pm), (zcb kl pl)) mc (run, wc, nu, lc, le, af, tr, ms, cl, tm) (co, yn, yh, pa)))) H) (hD : va_D (zAb s.heap.size) ((zWT cI cJ h (n, L) (kt, km, kl) (pt, pm, pl) (nu, le, ow, fo, run, wc, lc, tr, cl, tm, ms) (yl, yc, yt, co, pa, su, sc) mc) ++ ((oa, .inl (cJ, 1, .inr (.inl yo))) :: (zWM cI cJ cZ h2 th (n, L) ((zcb kt pt), (zcb km pm), (zcb kl pl)) mc (run, wc, nu, lc, le, af, tr, ms, cl, tm) (co, yn, yh, pa))))) (hS : va_S (zAb s.heap.size) s.heap H locs) (hl : lv_has ls 9 [(0, .ref b), (1, .ref (h 0)), (2, .ref (h2 0)), (3, .ref oa), (4, .int (nI (4 * j)))]) : W p l e room_1 s m #[Value.ref b] below meth c H locs cc ss (lw_Z below #[Value.ref b] s) (F0 m 144 ls []) := by
  obtain ⟨C0, hls, hK, hE, hL9⟩ := C
  obtain ⟨hx, hb, hr, hml, hown, hts0, hX, hbl, hlocks, hgv⟩ := C0
  have hts : ∀ w ∈ wsL_law, w.before #[Value.ref b] s = true := fun w h => hts0 w (wsL_law_in w h)
  have hbA : ¬ zAb s.heap.size b := Nat.not_le.mpr hbl
  have hB : s.heap.size ≤ s.heap.size := Nat.le_refl _
  have hn40 := hI.1.1
  have hzk := hI.1.2
  obtain ⟨hwc6, hlc48, htrl, hclt, hms1⟩ := hI.2.1
  have hrt := hI.2.2.1
  have hle := hI.2.2.2.1
  have hMk := hI.2.2.2.2.1
  have hct := hI.2.2.2.2.2.1
  have hHi := hI.2.2.2.2.2.2.1
  have hsu := hI.2.2.2.2.2.2.2.2.1
  have hj5 : j ≤ 511 := by omega
  have hco : co < 256 := by have := hct.1; omega
  have hco6 : co ≤ 256 := Nat.le_of_lt hco
  have hsl : su < 2147483648 := by have := hsu.2.2; omega
  have hpt := hI.hpt (Nat.le_succ_of_le hj5)
  refine lv_aload_n hx hb dL_law_144 rfl (lv_at hl 1 rfl) ?_
  refine lv_aload_n hx hb dL_law_145 rfl (lv_at hl 0 rfl) ?_
  refine lv_iload hx hb dL_law_146 (lv_at hl 4 rfl) ?_
  refine lv_iconst (v := 1) hx hb dL_law_148 (by decide) ?_
  refine lv_iadd hx hb dL_law_149 ?_
  refine lv_topi (fun v_1 ev_1 => ?_)
  obtain rfl : v_1 = (nI ((4 * j) + 1)) := ev_1.trans (nI_add (4 * j) 1)
  refine va_sld hx hb hX hbl hbA hS (vp_in_nI (n := ((4 * j) + 1)) (N := L9) (by omega) (by omega)) dL_law_150 ?_
  refine lv_topi (fun v_2 ev_2 => ?_)
  obtain rfl : (xs (4 * j + 1)) = v_2 := (ev_2.trans ((congrArg xs (nI_clamp (by omega))).trans rfl)).symm
  refine lv_i2l (v := ((xs (4 * j + 1))).toInt64) hx hb dL_law_151 rfl ?_
  refine lv_bipush (v := 32) hx hb dL_law_152 (by decide) ?_
  refine lv_lshl (v := (((xs (4 * j + 1))).toInt64) <<< ((32 : Int32).toInt64 &&& 63)) hx hb dL_law_154 rfl ?_
  refine lv_aload_n hx hb dL_law_155 rfl (lv_at hl 0 rfl) ?_
  refine lv_iload hx hb dL_law_156 (lv_at hl 4 rfl) ?_
  refine lv_iconst (v := 2) hx hb dL_law_158 (by decide) ?_
  refine lv_iadd hx hb dL_law_159 ?_
  refine lv_topi (fun v_3 ev_3 => ?_)
  obtain rfl : v_3 = (nI ((4 * j) + 2)) := ev_3.trans (nI_add (4 * j) 2)
  refine va_sld hx hb hX hbl hbA hS (vp_in_nI (n := ((4 * j) + 2)) (N := L9) (by omega) (by omega)) dL_law_160 ?_
  refine lv_topi (fun v_4 ev_4 => ?_)
  obtain rfl : (xs (4 * j + 2)) = v_4 := (ev_4.trans ((congrArg xs (nI_clamp (by omega))).trans rfl)).symm
  refine lv_i2l (v := ((xs (4 * j + 2))).toInt64) hx hb dL_law_161 rfl ?_
  refine lv_ldc2 hx hb hown (hts _ zlw_c) dL_law_162 ?_
  refine lv_land hx hb dL_law_165 ?_
  refine lv_lor hx hb dL_law_166 ?_
  refine lv_topl (fun v_5 ev_5 => ?_)
  obtain rfl : w = v_5 := (ev_5.trans hw9).symm
  refine lv_aload_n hx hb dL_law_167 rfl (lv_at hl 3 rfl) ?_
  refine zci (vx_runSW (As := [.ref (h 0), .long w, .ref oa]) (rest := []) ⟨hx, hb, hml, hown, hts⟩ (c_L_addWord_x1  hls (hz)) (vx_cwSW 3 hts gL_law_L_addWord rfl rfl rfl hds_L_addWord ⟨Nat.le_of_ble_eq_true rfl, Nat.le_of_ble_eq_true rfl⟩) (zS hP hD hK hE hB hS) rfl rfl hl.1 rfl (lv_room (Nat.le_of_ble_eq_true rfl)) dL_law_168 ⟨(show cc + 1 ≤ 601024 by omega), (show ss + 6 ≤ 7293034 by omega)⟩) hS (fun H locs hP hD hS => ?_)
  have hP : va_P D vwCl ((zWT cI cJ h (n, L) (kt, km, kl) (pt, pm, pl) (nu, le, ow, fo, run, wc, lc, tr, cl, tm, ms) (yl, yc, yt, co, pa, su, sc) mc) ++ ((oa, .inl (cJ, 1, .inr (.inl yo))) :: (zWM cI cJ cZ h2 th (n, L) ((zcb kt pt), (zcb km pm), (zcb kl pl)) mc (run, wc, nu, lc, le, af, tr, ms, cl, tm) (co, yn, yh, pa)))) H := hP
  have hD : va_D (zAb s.heap.size) ((zWT cI cJ h (n, L) (kt, km, kl) (pt, pm, pl) (nu, le, ow, fo, run, wc, lc, tr, cl, tm, ms) (yl, yc, yt, co, pa, su, sc) mc) ++ ((oa, .inl (cJ, 1, .inr (.inl yo))) :: (zWM cI cJ cZ h2 th (n, L) ((zcb kt pt), (zcb km pm), (zcb kl pl)) mc (run, wc, nu, lc, le, af, tr, ms, cl, tm) (co, yn, yh, pa)))) := hD
  refine lv_istore (lv' := [(5, .int 1), (0, .ref b), (1, .ref (h 0)), (2, .ref (h2 0)), (3, .ref oa), (4, .int (nI (4 * j)))]) hx hb dL_law_171 hl (by decide) rfl (fun ls hl => ?_)
  refine lv_aload_n hx hb dL_law_173 rfl (lv_at hl 3 rfl) ?_
  refine lv_aload_n hx hb dL_law_174 rfl (lv_at hl 1 rfl) ?_
  refine lv_iload hx hb dL_law_175 (lv_at hl 5 rfl) ?_
  refine lv_iconst (v := 1) hx hb dL_law_177 (by decide) ?_
  refine lv_iadd hx hb dL_law_178 ?_
  refine lv_topi (fun v_6 ev_6 => ?_)
  obtain rfl : v_6 = (nI ((4 * j) + 1)) := ev_6.trans (nI_add (4 * j) 1)
  refine va_sld hx hb hX hbl hbA hS (vp_in_nI (n := ((4 * j) + 1)) (N := L9) (by omega) (by omega)) dL_law_179 ?_
  refine lv_topi (fun v_7 ev_7 => ?_)
  obtain rfl : (xs (4 * j + 1)) = v_7 := (ev_7.trans ((congrArg xs (nI_clamp (by omega))).trans rfl)).symm
  refine lv_i2l (v := ((xs (4 * j + 1))).toInt64) hx hb dL_law_180 rfl ?_
  refine lv_bipush (v := 32) hx hb dL_law_181 (by decide) ?_
  refine lv_lshl (v := (((xs (4 * j + 1))).toInt64) <<< ((32 : Int32).toInt64 &&& 63)) hx hb dL_law_183 rfl ?_
  refine lv_aload_n hx hb dL_law_184 rfl (lv_at hl 1 rfl) ?_
  refine lv_iload hx hb dL_law_185 (lv_at hl 5 rfl) ?_
  refine lv_iconst (v := 2) hx hb dL_law_187 (by decide) ?_
  refine lv_iadd hx hb dL_law_188 ?_
  refine lv_topi (fun v_8 ev_8 => ?_)
  obtain rfl : v_8 = (nI ((4 * j) + 2)) := ev_8.trans (nI_add (4 * j) 2)
  refine va_sld hx hb hX hbl hbA hS (vp_in_nI (n := ((4 * j) + 2)) (N := L9) (by omega) (by omega)) dL_law_189 ?_
  refine lv_topi (fun v_9 ev_9 => ?_)
  obtain rfl : (xs (4 * j + 2)) = v_9 := (ev_9.trans ((congrArg xs (nI_clamp (by omega))).trans rfl)).symm
  refine lv_i2l (v := ((xs (4 * j + 2))).toInt64) hx hb dL_law_190 rfl ?_
  refine lv_ldc2 hx hb hown (hts _ zlw_c) dL_law_191 ?_
  refine lv_land hx hb dL_law_194 ?_
  refine lv_lor hx hb dL_law_195 ?_
  refine lv_topl (fun v_10 ev_10 => ?_)
  obtain rfl : w = v_10 := (ev_10.trans hw9).symm
  have hP9 : va_P D vwCl ((zWM cI cJ cZ h2 th (n, L) ((zcb kt pt), (zcb km pm), (zcb kl pl)) mc (run, wc, nu, lc, le, af, tr, ms, cl, tm) (co, yn, yh, pa)) ++ ((zWT cI cJ h (n, L) (kt, km, kl) (pt, pm, pl) (nu, le, ow, fo, run, wc, lc, tr, cl, tm, ms) (yl, yc, yt, co, pa, su, sc) mc) ++ [(oa, .inl (cJ, 1, .inr (.inl yo)))])) H := zswapP (A := (zWT cI cJ h (n, L) (kt, km, kl) (pt, pm, pl) (nu, le, ow, fo, run, wc, lc, tr, cl, tm, ms) (yl, yc, yt, co, pa, su, sc) mc) ++ [(oa, .inl (cJ, 1, .inr (.inl yo)))]) (Bw := (zWM cI cJ cZ h2 th (n, L) ((zcb kt pt), (zcb km pm), (zcb kl pl)) mc (run, wc, nu, lc, le, af, tr, ms, cl, tm) (co, yn, yh, pa))) hP
  have hD9 : va_D (zAb s.heap.size) ((zWM cI cJ cZ h2 th (n, L) ((zcb kt pt), (zcb km pm), (zcb kl pl)) mc (run, wc, nu, lc, le, af, tr, ms, cl, tm) (co, yn, yh, pa)) ++ ((zWT cI cJ h (n, L) (kt, km, kl) (pt, pm, pl) (nu, le, ow, fo, run, wc, lc, tr, cl, tm, ms) (yl, yc, yt, co, pa, su, sc) mc) ++ [(oa, .inl (cJ, 1, .inr (.inl yo)))])) := zswapD (A := (zWT cI cJ h (n, L) (kt, km, kl) (pt, pm, pl) (nu, le, ow, fo, run, wc, lc, tr, cl, tm, ms) (yl, yc, yt, co, pa, su, sc) mc) ++ [(oa, .inl (cJ, 1, .inr (.inl yo)))]) (Bw := (zWM cI cJ cZ h2 th (n, L) ((zcb kt pt), (zcb km pm), (zcb kl pl)) mc (run, wc, nu, lc, le, af, tr, ms, cl, tm) (co, yn, yh, pa))) hD
  refine zci (zrV (As := [.long w]) (rest := []) ⟨hx, hb, hml, hown, hts⟩ (zV 0 hP9 hD9 hK hE hB hS rfl rfl) (c_X5_addWord_x1  (hz)) (cwV 1 hts gL_law_X5_addWord rfl rfl rfl hdv_X5_addWord ⟨Nat.le_of_ble_eq_true rfl, Nat.le_of_ble_eq_true rfl⟩) rfl rfl hl.1 rfl (lv_room (Nat.le_of_ble_eq_true rfl)) dL_law_196 ⟨(show cc + 1 + 0 ≤ 601024 by omega), (show ss + 6 + 0 ≤ 7293034 by omega)⟩) hS (fun H locs hP hD hS => ?_)
  have hP : va_P D vwCl ((zWT cI cJ h (n, L) (kt, km, kl) (pt, pm, pl) (nu, le, ow, fo, run, wc, lc, tr, cl, tm, ms) (yl, yc, yt, co, pa, su, sc) mc) ++ ((oa, .inl (cJ, 1, .inr (.inl yo))) :: (zWM cI cJ cZ h2 1 (n, L) ((zcb kt pt), (zcb km pm), (zcb kl pl)) mc (run, wc, nu, lc, le, af, tr, ms, cl, tm) (co, yn, yh, pa)))) H := zswapP (A := (zWM cI cJ cZ h2 1 (n, L) ((zcb kt pt), (zcb km pm), (zcb kl pl)) mc (run, wc, nu, lc, le, af, tr, ms, cl, tm) (co, yn, yh, pa))) (Bw := (zWT cI cJ h (n, L) (kt, km, kl) (pt, pm, pl) (nu, le, ow, fo, run, wc, lc, tr, cl, tm, ms) (yl, yc, yt, co, pa, su, sc) mc) ++ [(oa, .inl (cJ, 1, .inr (.inl yo)))]) hP
  have hD : va_D (zAb s.heap.size) ((zWT cI cJ h (n, L) (kt, km, kl) (pt, pm, pl) (nu, le, ow, fo, run, wc, lc, tr, cl, tm, ms) (yl, yc, yt, co, pa, su, sc) mc) ++ ((oa, .inl (cJ, 1, .inr (.inl yo))) :: (zWM cI cJ cZ h2 1 (n, L) ((zcb kt pt), (zcb km pm), (zcb kl pl)) mc (run, wc, nu, lc, le, af, tr, ms, cl, tm) (co, yn, yh, pa)))) := zswapD (A := (zWM cI cJ cZ h2 1 (n, L) ((zcb kt pt), (zcb km pm), (zcb kl pl)) mc (run, wc, nu, lc, le, af, tr, ms, cl, tm) (co, yn, yh, pa))) (Bw := (zWT cI cJ h (n, L) (kt, km, kl) (pt, pm, pl) (nu, le, ow, fo, run, wc, lc, tr, cl, tm, ms) (yl, yc, yt, co, pa, su, sc) mc) ++ [(oa, .inl (cJ, 1, .inr (.inl yo)))]) hD
  refine lv_istore (lv' := [(6, .int 0), (5, .int 1), (0, .ref b), (1, .ref (h 0)), (2, .ref (h2 0)), (3, .ref oa), (4, .int (nI (4 * j)))]) hx hb dL_law_199 hl (by decide) rfl (fun ls hl => ?_)
  refine lv_aload_n hx hb dL_law_201 rfl (lv_at hl 4 rfl) ?_
  have hP9 : va_P D vwCl ((zWM cI cJ cZ h2 1 (n, L) ((zcb kt pt), (zcb km pm), (zcb kl pl)) mc (run, wc, nu, lc, le, af, tr, ms, cl, tm) (co, yn, yh, pa)) ++ ((zWT cI cJ h (n, L) (kt, km, kl) (pt, pm, pl) (nu, le, ow, fo, run, wc, lc, tr, cl, tm, ms) (yl, yc, yt, co, pa, su, sc) mc) ++ [(oa, .inl (cJ, 1, .inr (.inl yo)))])) H := zswapP (A := (zWT cI cJ h (n, L) (kt, km, kl) (pt, pm, pl) (nu, le, ow, fo, run, wc, lc, tr, cl, tm, ms) (yl, yc, yt, co, pa, su, sc) mc) ++ [(oa, .inl (cJ, 1, .inr (.inl yo)))]) (Bw := (zWM cI cJ cZ h2 1 (n, L) ((zcb kt pt), (zcb km pm), (zcb kl pl)) mc (run, wc, nu, lc, le, af, tr, ms, cl, tm) (co, yn, yh, pa))) hP
  have hD9 : va_D (zAb s.heap.size) ((zWM cI cJ cZ h2 1 (n, L) ((zcb kt pt), (zcb km pm), (zcb kl pl)) mc (run, wc, nu, lc, le, af, tr, ms, cl, tm) (co, yn, yh, pa)) ++ ((zWT cI cJ h (n, L) (kt, km, kl) (pt, pm, pl) (nu, le, ow, fo, run, wc, lc, tr, cl, tm, ms) (yl, yc, yt, co, pa, su, sc) mc) ++ [(oa, .inl (cJ, 1, .inr (.inl yo)))])) := zswapD (A := (zWT cI cJ h (n, L) (kt, km, kl) (pt, pm, pl) (nu, le, ow, fo, run, wc, lc, tr, cl, tm, ms) (yl, yc, yt, co, pa, su, sc) mc) ++ [(oa, .inl (cJ, 1, .inr (.inl yo)))]) (Bw := (zWM cI cJ cZ h2 1 (n, L) ((zcb kt pt), (zcb km pm), (zcb kl pl)) mc (run, wc, nu, lc, le, af, tr, ms, cl, tm) (co, yn, yh, pa))) hD
  refine zci (zrV (As := []) (rest := []) ⟨hx, hb, hml, hown, hts⟩ (zV 0 hP9 hD9 hK hE hB hS rfl rfl) (c_X5_thrown  ) (cwV 0 hts gL_law_X5_thrown rfl rfl rfl hdv_X5_thrown ⟨Nat.le_of_ble_eq_true rfl, Nat.le_of_ble_eq_true rfl⟩) rfl rfl hl.1 rfl (lv_room (Nat.le_of_ble_eq_true rfl)) dL_law_202 ⟨(show cc + 1 + 0 + 0 ≤ 601024 by omega), (show ss + 6 + 0 + 0 ≤ 7293034 by omega)⟩) hS (fun H locs hP hD hS => ?_)
  have hP : va_P D vwCl ((zWT cI cJ h (n, L) (kt, km, kl) (pt, pm, pl) (nu, le, ow, fo, run, wc, lc, tr, cl, tm, ms) (yl, yc, yt, co, pa, su, sc) mc) ++ ((oa, .inl (cJ, 1, .inr (.inl yo))) :: (zWM cI cJ cZ h2 1 (n, L) ((zcb kt pt), (zcb km pm), (zcb kl pl)) mc (run, wc, nu, lc, le, af, tr, ms, cl, tm) (co, yn, yh, pa)))) H := zswapP (A := (zWM cI cJ cZ h2 1 (n, L) ((zcb kt pt), (zcb km pm), (zcb kl pl)) mc (run, wc, nu, lc, le, af, tr, ms, cl, tm) (co, yn, yh, pa))) (Bw := (zWT cI cJ h (n, L) (kt, km, kl) (pt, pm, pl) (nu, le, ow, fo, run, wc, lc, tr, cl, tm, ms) (yl, yc, yt, co, pa, su, sc) mc) ++ [(oa, .inl (cJ, 1, .inr (.inl yo)))]) hP
  have hD : va_D (zAb s.heap.size) ((zWT cI cJ h (n, L) (kt, km, kl) (pt, pm, pl) (nu, le, ow, fo, run, wc, lc, tr, cl, tm, ms) (yl, yc, yt, co, pa, su, sc) mc) ++ ((oa, .inl (cJ, 1, .inr (.inl yo))) :: (zWM cI cJ cZ h2 1 (n, L) ((zcb kt pt), (zcb km pm), (zcb kl pl)) mc (run, wc, nu, lc, le, af, tr, ms, cl, tm) (co, yn, yh, pa)))) := zswapD (A := (zWM cI cJ cZ h2 1 (n, L) ((zcb kt pt), (zcb km pm), (zcb kl pl)) mc (run, wc, nu, lc, le, af, tr, ms, cl, tm) (co, yn, yh, pa))) (Bw := (zWT cI cJ h (n, L) (kt, km, kl) (pt, pm, pl) (nu, le, ow, fo, run, wc, lc, tr, cl, tm, ms) (yl, yc, yt, co, pa, su, sc) mc) ++ [(oa, .inl (cJ, 1, .inr (.inl yo)))]) hD
  refine lv_iload hx hb dL_law_205 (lv_at hl 1 rfl) ?_
  refine lv_icmp_eq (tgt := 212) hx hb dL_law_207 (by decide) (fun c_11 => ?_) (fun c_11 => ?_)
  · skip
    refine lv_iload hx hb dL_law_212 (lv_at hl 1 rfl) ?_
    refine lv_if_ne (tgt := 229) hx hb dL_law_214 (by decide) (fun c_12 => ?_) (fun c_12 => ?_)
    · skip
      refine lv_goto (tgt := 1191) hx hb dL_law_229 (by decide) ?_
      refine W.widen (k := cc + 2) (n := ss + 1542) (show cc + 1 + 0 + 0 ≤ cc + 2 by omega) (show ss + 6 + 0 + 0 ≤ ss + 1542 by omega) ?_
      exact kont h h2 oa yo 1 n L kt km kl pt pm pl nu le ow fo run wc lc tr cl tm ms yl yc yt co pa su sc mc af yn yh (hI.mono) _ _ _ hP hD hS (lv_sub hl [2, 3, 4, 5, 6] rfl)
    · skip
      exfalso; first | omega | (revert c_12; decide) | (exact absurd rfl c_12) | simp_all
  · skip
    exfalso; first | omega | (revert c_11; decide) | (exact absurd rfl c_11) | simp_all

set_option maxHeartbeats 1000000 in
set_option maxRecDepth 100000 in
theorem law_addWord_x2 {p : Program} {l : Launch} {e : Env} {s : State} {m : MethodId} {below : List Frame} {meth : Method} {c : Code} {b L9 : Nat} {xs : Nat → Int32} {D : va_G} {cI cJ cZ : ClassId} {kr kp j cc ss : Nat} {h h2 : Nat → Nat} {oa : Nat} {yo : Nat → Int64} {th : Int32} {n : Nat} {L : Nat → Int64} {kt : Nat → Int32} {km : Nat → Int32} {kl : Nat → Int32} {pt : Nat → Int32} {pm : Nat → Int32} {pl : Nat → Int32} {nu : Nat → Int32} {le : Nat → Int32} {ow : Nat → Int32} {fo : Nat → Int32} {run : Bool} {wc : Nat} {lc : Nat} {tr : Nat} {cl : Nat} {tm : Nat} {ms : Nat} {yl : Nat → Int32} {yc : Nat → Int32} {yt : Nat → Int32} {co : Nat} {pa : Int32} {su : Nat} {sc : Nat} {mc : Nat → Int32} {af : Nat → Int32} {yn : Nat} {yh : Nat → Int32} {w : Int64} (C : zLw p l s m meth c b L9 xs D cI cJ cZ kr kp) (hj : 4 * j + 4 ≤ L9) (hcc : cc + 2 ≤ 601024) (hss : ss + 1542 ≤ 7293034) (kont : zKt p l e s m below meth c b D cI cJ cZ j cc ss) (hI : zInv j n L pt le ow af run wc lc tr cl tm ms yl yc yt co yn su sc yh) (hw9 : zarg (xs (4 * j + 1)) (xs (4 * j + 2)) = w) (hz : zok w = true) (hf : ¬ n < 40 ∨ zhd L w n = true) {H : Heap} {locs : List Loc} {ls : Array Slot} (hP : va_P D vwCl ((zWT cI cJ h (n, L) (kt, km, kl) (pt, pm, pl) (nu, le, ow, fo, run, wc, lc, tr, cl, tm, ms) (yl, yc, yt, co, pa, su, sc) mc) ++ ((oa, .inl (cJ, 1, .inr (.inl yo))) :: (zWM cI cJ cZ h2 th (n, L) ((zcb kt pt), (zcb km pm), (zcb kl pl)) mc (run, wc, nu, lc, le, af, tr, ms, cl, tm) (co, yn, yh, pa)))) H) (hD : va_D (zAb s.heap.size) ((zWT cI cJ h (n, L) (kt, km, kl) (pt, pm, pl) (nu, le, ow, fo, run, wc, lc, tr, cl, tm, ms) (yl, yc, yt, co, pa, su, sc) mc) ++ ((oa, .inl (cJ, 1, .inr (.inl yo))) :: (zWM cI cJ cZ h2 th (n, L) ((zcb kt pt), (zcb km pm), (zcb kl pl)) mc (run, wc, nu, lc, le, af, tr, ms, cl, tm) (co, yn, yh, pa))))) (hS : va_S (zAb s.heap.size) s.heap H locs) (hl : lv_has ls 9 [(0, .ref b), (1, .ref (h 0)), (2, .ref (h2 0)), (3, .ref oa), (4, .int (nI (4 * j)))]) : W p l e room_1 s m #[Value.ref b] below meth c H locs cc ss (lw_Z below #[Value.ref b] s) (F0 m 144 ls []) := by
  obtain ⟨C0, hls, hK, hE, hL9⟩ := C
  obtain ⟨hx, hb, hr, hml, hown, hts0, hX, hbl, hlocks, hgv⟩ := C0
  have hts : ∀ w ∈ wsL_law, w.before #[Value.ref b] s = true := fun w h => hts0 w (wsL_law_in w h)
  have hbA : ¬ zAb s.heap.size b := Nat.not_le.mpr hbl
  have hB : s.heap.size ≤ s.heap.size := Nat.le_refl _
  have hn40 := hI.1.1
  have hzk := hI.1.2
  obtain ⟨hwc6, hlc48, htrl, hclt, hms1⟩ := hI.2.1
  have hrt := hI.2.2.1
  have hle := hI.2.2.2.1
  have hMk := hI.2.2.2.2.1
  have hct := hI.2.2.2.2.2.1
  have hHi := hI.2.2.2.2.2.2.1
  have hsu := hI.2.2.2.2.2.2.2.2.1
  have hj5 : j ≤ 511 := by omega
  have hco : co < 256 := by have := hct.1; omega
  have hco6 : co ≤ 256 := Nat.le_of_lt hco
  have hsl : su < 2147483648 := by have := hsu.2.2; omega
  have hpt := hI.hpt (Nat.le_succ_of_le hj5)
  refine lv_aload_n hx hb dL_law_144 rfl (lv_at hl 1 rfl) ?_
  refine lv_aload_n hx hb dL_law_145 rfl (lv_at hl 0 rfl) ?_
  refine lv_iload hx hb dL_law_146 (lv_at hl 4 rfl) ?_
  refine lv_iconst (v := 1) hx hb dL_law_148 (by decide) ?_
  refine lv_iadd hx hb dL_law_149 ?_
  refine lv_topi (fun v_1 ev_1 => ?_)
  obtain rfl : v_1 = (nI ((4 * j) + 1)) := ev_1.trans (nI_add (4 * j) 1)
  refine va_sld hx hb hX hbl hbA hS (vp_in_nI (n := ((4 * j) + 1)) (N := L9) (by omega) (by omega)) dL_law_150 ?_
  refine lv_topi (fun v_2 ev_2 => ?_)
  obtain rfl : (xs (4 * j + 1)) = v_2 := (ev_2.trans ((congrArg xs (nI_clamp (by omega))).trans rfl)).symm
  refine lv_i2l (v := ((xs (4 * j + 1))).toInt64) hx hb dL_law_151 rfl ?_
  refine lv_bipush (v := 32) hx hb dL_law_152 (by decide) ?_
  refine lv_lshl (v := (((xs (4 * j + 1))).toInt64) <<< ((32 : Int32).toInt64 &&& 63)) hx hb dL_law_154 rfl ?_
  refine lv_aload_n hx hb dL_law_155 rfl (lv_at hl 0 rfl) ?_
  refine lv_iload hx hb dL_law_156 (lv_at hl 4 rfl) ?_
  refine lv_iconst (v := 2) hx hb dL_law_158 (by decide) ?_
  refine lv_iadd hx hb dL_law_159 ?_
  refine lv_topi (fun v_3 ev_3 => ?_)
  obtain rfl : v_3 = (nI ((4 * j) + 2)) := ev_3.trans (nI_add (4 * j) 2)
  refine va_sld hx hb hX hbl hbA hS (vp_in_nI (n := ((4 * j) + 2)) (N := L9) (by omega) (by omega)) dL_law_160 ?_
  refine lv_topi (fun v_4 ev_4 => ?_)
  obtain rfl : (xs (4 * j + 2)) = v_4 := (ev_4.trans ((congrArg xs (nI_clamp (by omega))).trans rfl)).symm
  refine lv_i2l (v := ((xs (4 * j + 2))).toInt64) hx hb dL_law_161 rfl ?_
  refine lv_ldc2 hx hb hown (hts _ zlw_c) dL_law_162 ?_
  refine lv_land hx hb dL_law_165 ?_
  refine lv_lor hx hb dL_law_166 ?_
  refine lv_topl (fun v_5 ev_5 => ?_)
  obtain rfl : w = v_5 := (ev_5.trans hw9).symm
  refine lv_aload_n hx hb dL_law_167 rfl (lv_at hl 3 rfl) ?_
  refine zci (vx_runSW (As := [.ref (h 0), .long w, .ref oa]) (rest := []) ⟨hx, hb, hml, hown, hts⟩ (c_L_addWord_x2  hls (hz) (hn40) (hf)) (vx_cwSW 3 hts gL_law_L_addWord rfl rfl rfl hds_L_addWord ⟨Nat.le_of_ble_eq_true rfl, Nat.le_of_ble_eq_true rfl⟩) (zS hP hD hK hE hB hS) rfl rfl hl.1 rfl (lv_room (Nat.le_of_ble_eq_true rfl)) dL_law_168 ⟨(show cc + 1 ≤ 601024 by omega), (show ss + 6 ≤ 7293034 by omega)⟩) hS (fun H locs hP hD hS => ?_)
  have hP : va_P D vwCl ((zWT cI cJ h (n, L) (kt, km, kl) (pt, pm, pl) (nu, le, ow, fo, run, wc, lc, tr, cl, tm, ms) (yl, yc, yt, co, pa, su, sc) mc) ++ ((oa, .inl (cJ, 1, .inr (.inl yo))) :: (zWM cI cJ cZ h2 th (n, L) ((zcb kt pt), (zcb km pm), (zcb kl pl)) mc (run, wc, nu, lc, le, af, tr, ms, cl, tm) (co, yn, yh, pa)))) H := hP
  have hD : va_D (zAb s.heap.size) ((zWT cI cJ h (n, L) (kt, km, kl) (pt, pm, pl) (nu, le, ow, fo, run, wc, lc, tr, cl, tm, ms) (yl, yc, yt, co, pa, su, sc) mc) ++ ((oa, .inl (cJ, 1, .inr (.inl yo))) :: (zWM cI cJ cZ h2 th (n, L) ((zcb kt pt), (zcb km pm), (zcb kl pl)) mc (run, wc, nu, lc, le, af, tr, ms, cl, tm) (co, yn, yh, pa)))) := hD
  refine lv_istore (lv' := [(5, .int 2), (0, .ref b), (1, .ref (h 0)), (2, .ref (h2 0)), (3, .ref oa), (4, .int (nI (4 * j)))]) hx hb dL_law_171 hl (by decide) rfl (fun ls hl => ?_)
  refine lv_aload_n hx hb dL_law_173 rfl (lv_at hl 3 rfl) ?_
  refine lv_aload_n hx hb dL_law_174 rfl (lv_at hl 1 rfl) ?_
  refine lv_iload hx hb dL_law_175 (lv_at hl 5 rfl) ?_
  refine lv_iconst (v := 1) hx hb dL_law_177 (by decide) ?_
  refine lv_iadd hx hb dL_law_178 ?_
  refine lv_topi (fun v_6 ev_6 => ?_)
  obtain rfl : v_6 = (nI ((4 * j) + 1)) := ev_6.trans (nI_add (4 * j) 1)
  refine va_sld hx hb hX hbl hbA hS (vp_in_nI (n := ((4 * j) + 1)) (N := L9) (by omega) (by omega)) dL_law_179 ?_
  refine lv_topi (fun v_7 ev_7 => ?_)
  obtain rfl : (xs (4 * j + 1)) = v_7 := (ev_7.trans ((congrArg xs (nI_clamp (by omega))).trans rfl)).symm
  refine lv_i2l (v := ((xs (4 * j + 1))).toInt64) hx hb dL_law_180 rfl ?_
  refine lv_bipush (v := 32) hx hb dL_law_181 (by decide) ?_
  refine lv_lshl (v := (((xs (4 * j + 1))).toInt64) <<< ((32 : Int32).toInt64 &&& 63)) hx hb dL_law_183 rfl ?_
  refine lv_aload_n hx hb dL_law_184 rfl (lv_at hl 1 rfl) ?_
  refine lv_iload hx hb dL_law_185 (lv_at hl 5 rfl) ?_
  refine lv_iconst (v := 2) hx hb dL_law_187 (by decide) ?_
  refine lv_iadd hx hb dL_law_188 ?_
  refine lv_topi (fun v_8 ev_8 => ?_)
  obtain rfl : v_8 = (nI ((4 * j) + 2)) := ev_8.trans (nI_add (4 * j) 2)
  refine va_sld hx hb hX hbl hbA hS (vp_in_nI (n := ((4 * j) + 2)) (N := L9) (by omega) (by omega)) dL_law_189 ?_
  refine lv_topi (fun v_9 ev_9 => ?_)
  obtain rfl : (xs (4 * j + 2)) = v_9 := (ev_9.trans ((congrArg xs (nI_clamp (by omega))).trans rfl)).symm
  refine lv_i2l (v := ((xs (4 * j + 2))).toInt64) hx hb dL_law_190 rfl ?_
  refine lv_ldc2 hx hb hown (hts _ zlw_c) dL_law_191 ?_
  refine lv_land hx hb dL_law_194 ?_
  refine lv_lor hx hb dL_law_195 ?_
  refine lv_topl (fun v_10 ev_10 => ?_)
  obtain rfl : w = v_10 := (ev_10.trans hw9).symm
  have hP9 : va_P D vwCl ((zWM cI cJ cZ h2 th (n, L) ((zcb kt pt), (zcb km pm), (zcb kl pl)) mc (run, wc, nu, lc, le, af, tr, ms, cl, tm) (co, yn, yh, pa)) ++ ((zWT cI cJ h (n, L) (kt, km, kl) (pt, pm, pl) (nu, le, ow, fo, run, wc, lc, tr, cl, tm, ms) (yl, yc, yt, co, pa, su, sc) mc) ++ [(oa, .inl (cJ, 1, .inr (.inl yo)))])) H := zswapP (A := (zWT cI cJ h (n, L) (kt, km, kl) (pt, pm, pl) (nu, le, ow, fo, run, wc, lc, tr, cl, tm, ms) (yl, yc, yt, co, pa, su, sc) mc) ++ [(oa, .inl (cJ, 1, .inr (.inl yo)))]) (Bw := (zWM cI cJ cZ h2 th (n, L) ((zcb kt pt), (zcb km pm), (zcb kl pl)) mc (run, wc, nu, lc, le, af, tr, ms, cl, tm) (co, yn, yh, pa))) hP
  have hD9 : va_D (zAb s.heap.size) ((zWM cI cJ cZ h2 th (n, L) ((zcb kt pt), (zcb km pm), (zcb kl pl)) mc (run, wc, nu, lc, le, af, tr, ms, cl, tm) (co, yn, yh, pa)) ++ ((zWT cI cJ h (n, L) (kt, km, kl) (pt, pm, pl) (nu, le, ow, fo, run, wc, lc, tr, cl, tm, ms) (yl, yc, yt, co, pa, su, sc) mc) ++ [(oa, .inl (cJ, 1, .inr (.inl yo)))])) := zswapD (A := (zWT cI cJ h (n, L) (kt, km, kl) (pt, pm, pl) (nu, le, ow, fo, run, wc, lc, tr, cl, tm, ms) (yl, yc, yt, co, pa, su, sc) mc) ++ [(oa, .inl (cJ, 1, .inr (.inl yo)))]) (Bw := (zWM cI cJ cZ h2 th (n, L) ((zcb kt pt), (zcb km pm), (zcb kl pl)) mc (run, wc, nu, lc, le, af, tr, ms, cl, tm) (co, yn, yh, pa))) hD
  refine zci (zrV (As := [.long w]) (rest := []) ⟨hx, hb, hml, hown, hts⟩ (zV 0 hP9 hD9 hK hE hB hS rfl rfl) (c_X5_addWord_x2  (hz) (hn40) (hf)) (cwV 1 hts gL_law_X5_addWord rfl rfl rfl hdv_X5_addWord ⟨Nat.le_of_ble_eq_true rfl, Nat.le_of_ble_eq_true rfl⟩) rfl rfl hl.1 rfl (lv_room (Nat.le_of_ble_eq_true rfl)) dL_law_196 ⟨(show cc + 1 + 0 ≤ 601024 by omega), (show ss + 6 + 0 ≤ 7293034 by omega)⟩) hS (fun H locs hP hD hS => ?_)
  have hP : va_P D vwCl ((zWT cI cJ h (n, L) (kt, km, kl) (pt, pm, pl) (nu, le, ow, fo, run, wc, lc, tr, cl, tm, ms) (yl, yc, yt, co, pa, su, sc) mc) ++ ((oa, .inl (cJ, 1, .inr (.inl yo))) :: (zWM cI cJ cZ h2 2 (n, L) ((zcb kt pt), (zcb km pm), (zcb kl pl)) mc (run, wc, nu, lc, le, af, tr, ms, cl, tm) (co, yn, yh, pa)))) H := zswapP (A := (zWM cI cJ cZ h2 2 (n, L) ((zcb kt pt), (zcb km pm), (zcb kl pl)) mc (run, wc, nu, lc, le, af, tr, ms, cl, tm) (co, yn, yh, pa))) (Bw := (zWT cI cJ h (n, L) (kt, km, kl) (pt, pm, pl) (nu, le, ow, fo, run, wc, lc, tr, cl, tm, ms) (yl, yc, yt, co, pa, su, sc) mc) ++ [(oa, .inl (cJ, 1, .inr (.inl yo)))]) hP
  have hD : va_D (zAb s.heap.size) ((zWT cI cJ h (n, L) (kt, km, kl) (pt, pm, pl) (nu, le, ow, fo, run, wc, lc, tr, cl, tm, ms) (yl, yc, yt, co, pa, su, sc) mc) ++ ((oa, .inl (cJ, 1, .inr (.inl yo))) :: (zWM cI cJ cZ h2 2 (n, L) ((zcb kt pt), (zcb km pm), (zcb kl pl)) mc (run, wc, nu, lc, le, af, tr, ms, cl, tm) (co, yn, yh, pa)))) := zswapD (A := (zWM cI cJ cZ h2 2 (n, L) ((zcb kt pt), (zcb km pm), (zcb kl pl)) mc (run, wc, nu, lc, le, af, tr, ms, cl, tm) (co, yn, yh, pa))) (Bw := (zWT cI cJ h (n, L) (kt, km, kl) (pt, pm, pl) (nu, le, ow, fo, run, wc, lc, tr, cl, tm, ms) (yl, yc, yt, co, pa, su, sc) mc) ++ [(oa, .inl (cJ, 1, .inr (.inl yo)))]) hD
  refine lv_istore (lv' := [(6, .int 0), (5, .int 2), (0, .ref b), (1, .ref (h 0)), (2, .ref (h2 0)), (3, .ref oa), (4, .int (nI (4 * j)))]) hx hb dL_law_199 hl (by decide) rfl (fun ls hl => ?_)
  refine lv_aload_n hx hb dL_law_201 rfl (lv_at hl 4 rfl) ?_
  have hP9 : va_P D vwCl ((zWM cI cJ cZ h2 2 (n, L) ((zcb kt pt), (zcb km pm), (zcb kl pl)) mc (run, wc, nu, lc, le, af, tr, ms, cl, tm) (co, yn, yh, pa)) ++ ((zWT cI cJ h (n, L) (kt, km, kl) (pt, pm, pl) (nu, le, ow, fo, run, wc, lc, tr, cl, tm, ms) (yl, yc, yt, co, pa, su, sc) mc) ++ [(oa, .inl (cJ, 1, .inr (.inl yo)))])) H := zswapP (A := (zWT cI cJ h (n, L) (kt, km, kl) (pt, pm, pl) (nu, le, ow, fo, run, wc, lc, tr, cl, tm, ms) (yl, yc, yt, co, pa, su, sc) mc) ++ [(oa, .inl (cJ, 1, .inr (.inl yo)))]) (Bw := (zWM cI cJ cZ h2 2 (n, L) ((zcb kt pt), (zcb km pm), (zcb kl pl)) mc (run, wc, nu, lc, le, af, tr, ms, cl, tm) (co, yn, yh, pa))) hP
  have hD9 : va_D (zAb s.heap.size) ((zWM cI cJ cZ h2 2 (n, L) ((zcb kt pt), (zcb km pm), (zcb kl pl)) mc (run, wc, nu, lc, le, af, tr, ms, cl, tm) (co, yn, yh, pa)) ++ ((zWT cI cJ h (n, L) (kt, km, kl) (pt, pm, pl) (nu, le, ow, fo, run, wc, lc, tr, cl, tm, ms) (yl, yc, yt, co, pa, su, sc) mc) ++ [(oa, .inl (cJ, 1, .inr (.inl yo)))])) := zswapD (A := (zWT cI cJ h (n, L) (kt, km, kl) (pt, pm, pl) (nu, le, ow, fo, run, wc, lc, tr, cl, tm, ms) (yl, yc, yt, co, pa, su, sc) mc) ++ [(oa, .inl (cJ, 1, .inr (.inl yo)))]) (Bw := (zWM cI cJ cZ h2 2 (n, L) ((zcb kt pt), (zcb km pm), (zcb kl pl)) mc (run, wc, nu, lc, le, af, tr, ms, cl, tm) (co, yn, yh, pa))) hD
  refine zci (zrV (As := []) (rest := []) ⟨hx, hb, hml, hown, hts⟩ (zV 0 hP9 hD9 hK hE hB hS rfl rfl) (c_X5_thrown  ) (cwV 0 hts gL_law_X5_thrown rfl rfl rfl hdv_X5_thrown ⟨Nat.le_of_ble_eq_true rfl, Nat.le_of_ble_eq_true rfl⟩) rfl rfl hl.1 rfl (lv_room (Nat.le_of_ble_eq_true rfl)) dL_law_202 ⟨(show cc + 1 + 0 + 0 ≤ 601024 by omega), (show ss + 6 + 0 + 0 ≤ 7293034 by omega)⟩) hS (fun H locs hP hD hS => ?_)
  have hP : va_P D vwCl ((zWT cI cJ h (n, L) (kt, km, kl) (pt, pm, pl) (nu, le, ow, fo, run, wc, lc, tr, cl, tm, ms) (yl, yc, yt, co, pa, su, sc) mc) ++ ((oa, .inl (cJ, 1, .inr (.inl yo))) :: (zWM cI cJ cZ h2 2 (n, L) ((zcb kt pt), (zcb km pm), (zcb kl pl)) mc (run, wc, nu, lc, le, af, tr, ms, cl, tm) (co, yn, yh, pa)))) H := zswapP (A := (zWM cI cJ cZ h2 2 (n, L) ((zcb kt pt), (zcb km pm), (zcb kl pl)) mc (run, wc, nu, lc, le, af, tr, ms, cl, tm) (co, yn, yh, pa))) (Bw := (zWT cI cJ h (n, L) (kt, km, kl) (pt, pm, pl) (nu, le, ow, fo, run, wc, lc, tr, cl, tm, ms) (yl, yc, yt, co, pa, su, sc) mc) ++ [(oa, .inl (cJ, 1, .inr (.inl yo)))]) hP
  have hD : va_D (zAb s.heap.size) ((zWT cI cJ h (n, L) (kt, km, kl) (pt, pm, pl) (nu, le, ow, fo, run, wc, lc, tr, cl, tm, ms) (yl, yc, yt, co, pa, su, sc) mc) ++ ((oa, .inl (cJ, 1, .inr (.inl yo))) :: (zWM cI cJ cZ h2 2 (n, L) ((zcb kt pt), (zcb km pm), (zcb kl pl)) mc (run, wc, nu, lc, le, af, tr, ms, cl, tm) (co, yn, yh, pa)))) := zswapD (A := (zWM cI cJ cZ h2 2 (n, L) ((zcb kt pt), (zcb km pm), (zcb kl pl)) mc (run, wc, nu, lc, le, af, tr, ms, cl, tm) (co, yn, yh, pa))) (Bw := (zWT cI cJ h (n, L) (kt, km, kl) (pt, pm, pl) (nu, le, ow, fo, run, wc, lc, tr, cl, tm, ms) (yl, yc, yt, co, pa, su, sc) mc) ++ [(oa, .inl (cJ, 1, .inr (.inl yo)))]) hD
  refine lv_iload hx hb dL_law_205 (lv_at hl 1 rfl) ?_
  refine lv_icmp_eq (tgt := 212) hx hb dL_law_207 (by decide) (fun c_11 => ?_) (fun c_11 => ?_)
  · skip
    refine lv_iload hx hb dL_law_212 (lv_at hl 1 rfl) ?_
    refine lv_if_ne (tgt := 229) hx hb dL_law_214 (by decide) (fun c_12 => ?_) (fun c_12 => ?_)
    · skip
      refine lv_goto (tgt := 1191) hx hb dL_law_229 (by decide) ?_
      refine W.widen (k := cc + 2) (n := ss + 1542) (show cc + 1 + 0 + 0 ≤ cc + 2 by omega) (show ss + 6 + 0 + 0 ≤ ss + 1542 by omega) ?_
      exact kont h h2 oa yo 2 n L kt km kl pt pm pl nu le ow fo run wc lc tr cl tm ms yl yc yt co pa su sc mc af yn yh (hI.mono) _ _ _ hP hD hS (lv_sub hl [2, 3, 4, 5, 6] rfl)
    · skip
      exfalso; first | omega | (revert c_12; decide) | (exact absurd rfl c_12) | simp_all
  · skip
    exfalso; first | omega | (revert c_11; decide) | (exact absurd rfl c_11) | simp_all

set_option maxHeartbeats 1000000 in
set_option maxRecDepth 100000 in
theorem law_wordCount {p : Program} {l : Launch} {e : Env} {s : State} {m : MethodId} {below : List Frame} {meth : Method} {c : Code} {b L9 : Nat} {xs : Nat → Int32} {D : va_G} {cI cJ cZ : ClassId} {kr kp j cc ss : Nat} {h h2 : Nat → Nat} {oa : Nat} {yo : Nat → Int64} {th : Int32} {n : Nat} {L : Nat → Int64} {kt : Nat → Int32} {km : Nat → Int32} {kl : Nat → Int32} {pt : Nat → Int32} {pm : Nat → Int32} {pl : Nat → Int32} {nu : Nat → Int32} {le : Nat → Int32} {ow : Nat → Int32} {fo : Nat → Int32} {run : Bool} {wc : Nat} {lc : Nat} {tr : Nat} {cl : Nat} {tm : Nat} {ms : Nat} {yl : Nat → Int32} {yc : Nat → Int32} {yt : Nat → Int32} {co : Nat} {pa : Int32} {su : Nat} {sc : Nat} {mc : Nat → Int32} {af : Nat → Int32} {yn : Nat} {yh : Nat → Int32}  (C : zLw p l s m meth c b L9 xs D cI cJ cZ kr kp) (hj : 4 * j + 4 ≤ L9) (hcc : cc + 2 ≤ 601024) (hss : ss + 1542 ≤ 7293034) (kont : zKt p l e s m below meth c b D cI cJ cZ j cc ss) (hI : zInv j n L pt le ow af run wc lc tr cl tm ms yl yc yt co yn su sc yh)  {H : Heap} {locs : List Loc} {ls : Array Slot} (hP : va_P D vwCl ((zWT cI cJ h (n, L) (kt, km, kl) (pt, pm, pl) (nu, le, ow, fo, run, wc, lc, tr, cl, tm, ms) (yl, yc, yt, co, pa, su, sc) mc) ++ ((oa, .inl (cJ, 1, .inr (.inl yo))) :: (zWM cI cJ cZ h2 th (n, L) ((zcb kt pt), (zcb km pm), (zcb kl pl)) mc (run, wc, nu, lc, le, af, tr, ms, cl, tm) (co, yn, yh, pa)))) H) (hD : va_D (zAb s.heap.size) ((zWT cI cJ h (n, L) (kt, km, kl) (pt, pm, pl) (nu, le, ow, fo, run, wc, lc, tr, cl, tm, ms) (yl, yc, yt, co, pa, su, sc) mc) ++ ((oa, .inl (cJ, 1, .inr (.inl yo))) :: (zWM cI cJ cZ h2 th (n, L) ((zcb kt pt), (zcb km pm), (zcb kl pl)) mc (run, wc, nu, lc, le, af, tr, ms, cl, tm) (co, yn, yh, pa))))) (hS : va_S (zAb s.heap.size) s.heap H locs) (hl : lv_has ls 9 [(0, .ref b), (1, .ref (h 0)), (2, .ref (h2 0)), (3, .ref oa), (4, .int (nI (4 * j)))]) : W p l e room_1 s m #[Value.ref b] below meth c H locs cc ss (lw_Z below #[Value.ref b] s) (F0 m 232 ls []) := by
  obtain ⟨C0, hls, hK, hE, hL9⟩ := C
  obtain ⟨hx, hb, hr, hml, hown, hts0, hX, hbl, hlocks, hgv⟩ := C0
  have hts : ∀ w ∈ wsL_law, w.before #[Value.ref b] s = true := fun w h => hts0 w (wsL_law_in w h)
  have hbA : ¬ zAb s.heap.size b := Nat.not_le.mpr hbl
  have hB : s.heap.size ≤ s.heap.size := Nat.le_refl _
  have hn40 := hI.1.1
  have hzk := hI.1.2
  obtain ⟨hwc6, hlc48, htrl, hclt, hms1⟩ := hI.2.1
  have hrt := hI.2.2.1
  have hle := hI.2.2.2.1
  have hMk := hI.2.2.2.2.1
  have hct := hI.2.2.2.2.2.1
  have hHi := hI.2.2.2.2.2.2.1
  have hsu := hI.2.2.2.2.2.2.2.2.1
  have hj5 : j ≤ 511 := by omega
  have hco : co < 256 := by have := hct.1; omega
  have hco6 : co ≤ 256 := Nat.le_of_lt hco
  have hsl : su < 2147483648 := by have := hsu.2.2; omega
  have hpt := hI.hpt (Nat.le_succ_of_le hj5)
  refine lv_aload_n hx hb dL_law_232 rfl (lv_at hl 1 rfl) ?_
  refine zci (zrV (As := []) (rest := []) ⟨hx, hb, hml, hown, hts⟩ (zV 0 hP hD hK hE hB hS rfl rfl) (c_X4_wordCount  ) (cwV 0 hts gL_law_X4_wordCount rfl rfl rfl hdv_X4_wordCount ⟨Nat.le_of_ble_eq_true rfl, Nat.le_of_ble_eq_true rfl⟩) rfl rfl hl.1 rfl (lv_room (Nat.le_of_ble_eq_true rfl)) dL_law_233 ⟨(show cc + 0 ≤ 601024 by omega), (show ss + 0 ≤ 7293034 by omega)⟩) hS (fun H locs hP hD hS => ?_)
  have hP : va_P D vwCl ((zWT cI cJ h (n, L) (kt, km, kl) (pt, pm, pl) (nu, le, ow, fo, run, wc, lc, tr, cl, tm, ms) (yl, yc, yt, co, pa, su, sc) mc) ++ ((oa, .inl (cJ, 1, .inr (.inl yo))) :: (zWM cI cJ cZ h2 th (n, L) ((zcb kt pt), (zcb km pm), (zcb kl pl)) mc (run, wc, nu, lc, le, af, tr, ms, cl, tm) (co, yn, yh, pa)))) H := hP
  have hD : va_D (zAb s.heap.size) ((zWT cI cJ h (n, L) (kt, km, kl) (pt, pm, pl) (nu, le, ow, fo, run, wc, lc, tr, cl, tm, ms) (yl, yc, yt, co, pa, su, sc) mc) ++ ((oa, .inl (cJ, 1, .inr (.inl yo))) :: (zWM cI cJ cZ h2 th (n, L) ((zcb kt pt), (zcb km pm), (zcb kl pl)) mc (run, wc, nu, lc, le, af, tr, ms, cl, tm) (co, yn, yh, pa)))) := hD
  refine lv_aload_n hx hb dL_law_236 rfl (lv_at hl 2 rfl) ?_
  have hP9 : va_P D vwCl ((zWM cI cJ cZ h2 th (n, L) ((zcb kt pt), (zcb km pm), (zcb kl pl)) mc (run, wc, nu, lc, le, af, tr, ms, cl, tm) (co, yn, yh, pa)) ++ ((zWT cI cJ h (n, L) (kt, km, kl) (pt, pm, pl) (nu, le, ow, fo, run, wc, lc, tr, cl, tm, ms) (yl, yc, yt, co, pa, su, sc) mc) ++ [(oa, .inl (cJ, 1, .inr (.inl yo)))])) H := zswapP (A := (zWT cI cJ h (n, L) (kt, km, kl) (pt, pm, pl) (nu, le, ow, fo, run, wc, lc, tr, cl, tm, ms) (yl, yc, yt, co, pa, su, sc) mc) ++ [(oa, .inl (cJ, 1, .inr (.inl yo)))]) (Bw := (zWM cI cJ cZ h2 th (n, L) ((zcb kt pt), (zcb km pm), (zcb kl pl)) mc (run, wc, nu, lc, le, af, tr, ms, cl, tm) (co, yn, yh, pa))) hP
  have hD9 : va_D (zAb s.heap.size) ((zWM cI cJ cZ h2 th (n, L) ((zcb kt pt), (zcb km pm), (zcb kl pl)) mc (run, wc, nu, lc, le, af, tr, ms, cl, tm) (co, yn, yh, pa)) ++ ((zWT cI cJ h (n, L) (kt, km, kl) (pt, pm, pl) (nu, le, ow, fo, run, wc, lc, tr, cl, tm, ms) (yl, yc, yt, co, pa, su, sc) mc) ++ [(oa, .inl (cJ, 1, .inr (.inl yo)))])) := zswapD (A := (zWT cI cJ h (n, L) (kt, km, kl) (pt, pm, pl) (nu, le, ow, fo, run, wc, lc, tr, cl, tm, ms) (yl, yc, yt, co, pa, su, sc) mc) ++ [(oa, .inl (cJ, 1, .inr (.inl yo)))]) (Bw := (zWM cI cJ cZ h2 th (n, L) ((zcb kt pt), (zcb km pm), (zcb kl pl)) mc (run, wc, nu, lc, le, af, tr, ms, cl, tm) (co, yn, yh, pa))) hD
  refine zci (zrV (As := []) (rest := [.int (nI n)]) ⟨hx, hb, hml, hown, hts⟩ (zV 0 hP9 hD9 hK hE hB hS rfl rfl) (c_X5_wordCount  ) (cwV 0 hts gL_law_X5_wordCount rfl rfl rfl hdv_X5_wordCount ⟨Nat.le_of_ble_eq_true rfl, Nat.le_of_ble_eq_true rfl⟩) rfl rfl hl.1 rfl (lv_room (Nat.le_of_ble_eq_true rfl)) dL_law_237 ⟨(show cc + 0 + 0 ≤ 601024 by omega), (show ss + 0 + 0 ≤ 7293034 by omega)⟩) hS (fun H locs hP hD hS => ?_)
  have hP : va_P D vwCl ((zWT cI cJ h (n, L) (kt, km, kl) (pt, pm, pl) (nu, le, ow, fo, run, wc, lc, tr, cl, tm, ms) (yl, yc, yt, co, pa, su, sc) mc) ++ ((oa, .inl (cJ, 1, .inr (.inl yo))) :: (zWM cI cJ cZ h2 0 (n, L) ((zcb kt pt), (zcb km pm), (zcb kl pl)) mc (run, wc, nu, lc, le, af, tr, ms, cl, tm) (co, yn, yh, pa)))) H := zswapP (A := (zWM cI cJ cZ h2 0 (n, L) ((zcb kt pt), (zcb km pm), (zcb kl pl)) mc (run, wc, nu, lc, le, af, tr, ms, cl, tm) (co, yn, yh, pa))) (Bw := (zWT cI cJ h (n, L) (kt, km, kl) (pt, pm, pl) (nu, le, ow, fo, run, wc, lc, tr, cl, tm, ms) (yl, yc, yt, co, pa, su, sc) mc) ++ [(oa, .inl (cJ, 1, .inr (.inl yo)))]) hP
  have hD : va_D (zAb s.heap.size) ((zWT cI cJ h (n, L) (kt, km, kl) (pt, pm, pl) (nu, le, ow, fo, run, wc, lc, tr, cl, tm, ms) (yl, yc, yt, co, pa, su, sc) mc) ++ ((oa, .inl (cJ, 1, .inr (.inl yo))) :: (zWM cI cJ cZ h2 0 (n, L) ((zcb kt pt), (zcb km pm), (zcb kl pl)) mc (run, wc, nu, lc, le, af, tr, ms, cl, tm) (co, yn, yh, pa)))) := zswapD (A := (zWM cI cJ cZ h2 0 (n, L) ((zcb kt pt), (zcb km pm), (zcb kl pl)) mc (run, wc, nu, lc, le, af, tr, ms, cl, tm) (co, yn, yh, pa))) (Bw := (zWT cI cJ h (n, L) (kt, km, kl) (pt, pm, pl) (nu, le, ow, fo, run, wc, lc, tr, cl, tm, ms) (yl, yc, yt, co, pa, su, sc) mc) ++ [(oa, .inl (cJ, 1, .inr (.inl yo)))]) hD
  refine lv_icmp_eq (tgt := 1191) hx hb dL_law_240 (by decide) (fun c_1 => ?_) (fun c_1 => ?_)
  · skip
    refine W.widen (k := cc + 2) (n := ss + 1542) (show cc + 0 + 0 ≤ cc + 2 by omega) (show ss + 0 + 0 ≤ ss + 1542 by omega) ?_
    exact kont h h2 oa yo 0 n L kt km kl pt pm pl nu le ow fo run wc lc tr cl tm ms yl yc yt co pa su sc mc af yn yh (hI.mono) _ _ _ hP hD hS (lv_sub hl [0, 1, 2, 3, 4] rfl)
  · skip
    exact absurd rfl c_1

set_option maxHeartbeats 1000000 in
set_option maxRecDepth 100000 in
theorem law_word {p : Program} {l : Launch} {e : Env} {s : State} {m : MethodId} {below : List Frame} {meth : Method} {c : Code} {b L9 : Nat} {xs : Nat → Int32} {D : va_G} {cI cJ cZ : ClassId} {kr kp j cc ss : Nat} {h h2 : Nat → Nat} {oa : Nat} {yo : Nat → Int64} {th : Int32} {n : Nat} {L : Nat → Int64} {kt : Nat → Int32} {km : Nat → Int32} {kl : Nat → Int32} {pt : Nat → Int32} {pm : Nat → Int32} {pl : Nat → Int32} {nu : Nat → Int32} {le : Nat → Int32} {ow : Nat → Int32} {fo : Nat → Int32} {run : Bool} {wc : Nat} {lc : Nat} {tr : Nat} {cl : Nat} {tm : Nat} {ms : Nat} {yl : Nat → Int32} {yc : Nat → Int32} {yt : Nat → Int32} {co : Nat} {pa : Int32} {su : Nat} {sc : Nat} {mc : Nat → Int32} {af : Nat → Int32} {yn : Nat} {yh : Nat → Int32} {k : Nat} (C : zLw p l s m meth c b L9 xs D cI cJ cZ kr kp) (hj : 4 * j + 4 ≤ L9) (hcc : cc + 2 ≤ 601024) (hss : ss + 1542 ≤ 7293034) (kont : zKt p l e s m below meth c b D cI cJ cZ j cc ss) (hI : zInv j n L pt le ow af run wc lc tr cl tm ms yl yc yt co yn su sc yh) (ea1 : xs (4 * j + 1) = nI k) (hk : k < n) {H : Heap} {locs : List Loc} {ls : Array Slot} (hP : va_P D vwCl ((zWT cI cJ h (n, L) (kt, km, kl) (pt, pm, pl) (nu, le, ow, fo, run, wc, lc, tr, cl, tm, ms) (yl, yc, yt, co, pa, su, sc) mc) ++ ((oa, .inl (cJ, 1, .inr (.inl yo))) :: (zWM cI cJ cZ h2 th (n, L) ((zcb kt pt), (zcb km pm), (zcb kl pl)) mc (run, wc, nu, lc, le, af, tr, ms, cl, tm) (co, yn, yh, pa)))) H) (hD : va_D (zAb s.heap.size) ((zWT cI cJ h (n, L) (kt, km, kl) (pt, pm, pl) (nu, le, ow, fo, run, wc, lc, tr, cl, tm, ms) (yl, yc, yt, co, pa, su, sc) mc) ++ ((oa, .inl (cJ, 1, .inr (.inl yo))) :: (zWM cI cJ cZ h2 th (n, L) ((zcb kt pt), (zcb km pm), (zcb kl pl)) mc (run, wc, nu, lc, le, af, tr, ms, cl, tm) (co, yn, yh, pa))))) (hS : va_S (zAb s.heap.size) s.heap H locs) (hl : lv_has ls 9 [(0, .ref b), (1, .ref (h 0)), (2, .ref (h2 0)), (3, .ref oa), (4, .int (nI (4 * j)))]) : W p l e room_1 s m #[Value.ref b] below meth c H locs cc ss (lw_Z below #[Value.ref b] s) (F0 m 245 ls []) := by
  obtain ⟨C0, hls, hK, hE, hL9⟩ := C
  obtain ⟨hx, hb, hr, hml, hown, hts0, hX, hbl, hlocks, hgv⟩ := C0
  have hts : ∀ w ∈ wsL_law, w.before #[Value.ref b] s = true := fun w h => hts0 w (wsL_law_in w h)
  have hbA : ¬ zAb s.heap.size b := Nat.not_le.mpr hbl
  have hB : s.heap.size ≤ s.heap.size := Nat.le_refl _
  have hn40 := hI.1.1
  have hzk := hI.1.2
  obtain ⟨hwc6, hlc48, htrl, hclt, hms1⟩ := hI.2.1
  have hrt := hI.2.2.1
  have hle := hI.2.2.2.1
  have hMk := hI.2.2.2.2.1
  have hct := hI.2.2.2.2.2.1
  have hHi := hI.2.2.2.2.2.2.1
  have hsu := hI.2.2.2.2.2.2.2.2.1
  have hj5 : j ≤ 511 := by omega
  have hco : co < 256 := by have := hct.1; omega
  have hco6 : co ≤ 256 := Nat.le_of_lt hco
  have hsl : su < 2147483648 := by have := hsu.2.2; omega
  have hpt := hI.hpt (Nat.le_succ_of_le hj5)
  refine lv_aload_n hx hb dL_law_245 rfl (lv_at hl 1 rfl) ?_
  refine lv_aload_n hx hb dL_law_246 rfl (lv_at hl 0 rfl) ?_
  refine lv_iload hx hb dL_law_247 (lv_at hl 4 rfl) ?_
  refine lv_iconst (v := 1) hx hb dL_law_249 (by decide) ?_
  refine lv_iadd hx hb dL_law_250 ?_
  refine lv_topi (fun v_1 ev_1 => ?_)
  obtain rfl : v_1 = (nI ((4 * j) + 1)) := ev_1.trans (nI_add (4 * j) 1)
  refine va_sld hx hb hX hbl hbA hS (vp_in_nI (n := ((4 * j) + 1)) (N := L9) (by omega) (by omega)) dL_law_251 ?_
  refine lv_topi (fun v_2 ev_2 => ?_)
  obtain rfl : (nI k) = v_2 := (ev_2.trans ((congrArg xs (nI_clamp (by omega))).trans ea1)).symm
  refine lv_aload_n hx hb dL_law_252 rfl (lv_at hl 3 rfl) ?_
  refine zci (vx_runSW (As := [.ref (h 0), .int (nI k), .ref oa]) (rest := []) ⟨hx, hb, hml, hown, hts⟩ (c_L_word (k := k) (hk) (hn40)) (vx_cwSW 3 hts gL_law_L_word rfl rfl rfl hds_L_word ⟨Nat.le_of_ble_eq_true rfl, Nat.le_of_ble_eq_true rfl⟩) (zS hP hD hK hE hB hS) rfl rfl hl.1 rfl (lv_room (Nat.le_of_ble_eq_true rfl)) dL_law_253 ⟨(show cc + 0 ≤ 601024 by omega), (show ss + 0 ≤ 7293034 by omega)⟩) hS (fun H locs hP hD hS => ?_)
  have hP : va_P D vwCl ((zWT cI cJ h (n, L) (kt, km, kl) (pt, pm, pl) (nu, le, ow, fo, run, wc, lc, tr, cl, tm, ms) (yl, yc, yt, co, pa, su, sc) mc) ++ ((oa, .inl (cJ, 1, .inr (.inl (vp_updL yo 0 (L k))))) :: (zWM cI cJ cZ h2 th (n, L) ((zcb kt pt), (zcb km pm), (zcb kl pl)) mc (run, wc, nu, lc, le, af, tr, ms, cl, tm) (co, yn, yh, pa)))) H := hP
  have hD : va_D (zAb s.heap.size) ((zWT cI cJ h (n, L) (kt, km, kl) (pt, pm, pl) (nu, le, ow, fo, run, wc, lc, tr, cl, tm, ms) (yl, yc, yt, co, pa, su, sc) mc) ++ ((oa, .inl (cJ, 1, .inr (.inl (vp_updL yo 0 (L k))))) :: (zWM cI cJ cZ h2 th (n, L) ((zcb kt pt), (zcb km pm), (zcb kl pl)) mc (run, wc, nu, lc, le, af, tr, ms, cl, tm) (co, yn, yh, pa)))) := hD
  refine lv_istore (lv' := [(5, .int 0), (0, .ref b), (1, .ref (h 0)), (2, .ref (h2 0)), (3, .ref oa), (4, .int (nI (4 * j)))]) hx hb dL_law_256 hl (by decide) rfl (fun ls hl => ?_)
  refine lv_aload_n hx hb dL_law_258 rfl (lv_at hl 3 rfl) ?_
  refine lv_aload_n hx hb dL_law_259 rfl (lv_at hl 1 rfl) ?_
  refine lv_iload hx hb dL_law_260 (lv_at hl 5 rfl) ?_
  refine lv_iconst (v := 1) hx hb dL_law_262 (by decide) ?_
  refine lv_iadd hx hb dL_law_263 ?_
  refine lv_topi (fun v_3 ev_3 => ?_)
  obtain rfl : v_3 = (nI ((4 * j) + 1)) := ev_3.trans (nI_add (4 * j) 1)
  refine va_sld hx hb hX hbl hbA hS (vp_in_nI (n := ((4 * j) + 1)) (N := L9) (by omega) (by omega)) dL_law_264 ?_
  refine lv_topi (fun v_4 ev_4 => ?_)
  obtain rfl : (nI k) = v_4 := (ev_4.trans ((congrArg xs (nI_clamp (by omega))).trans ea1)).symm
  have hP9 : va_P D vwCl ((zWM cI cJ cZ h2 th (n, L) ((zcb kt pt), (zcb km pm), (zcb kl pl)) mc (run, wc, nu, lc, le, af, tr, ms, cl, tm) (co, yn, yh, pa)) ++ ((zWT cI cJ h (n, L) (kt, km, kl) (pt, pm, pl) (nu, le, ow, fo, run, wc, lc, tr, cl, tm, ms) (yl, yc, yt, co, pa, su, sc) mc) ++ [(oa, .inl (cJ, 1, .inr (.inl (vp_updL yo 0 (L k)))))])) H := zswapP (A := (zWT cI cJ h (n, L) (kt, km, kl) (pt, pm, pl) (nu, le, ow, fo, run, wc, lc, tr, cl, tm, ms) (yl, yc, yt, co, pa, su, sc) mc) ++ [(oa, .inl (cJ, 1, .inr (.inl (vp_updL yo 0 (L k)))))]) (Bw := (zWM cI cJ cZ h2 th (n, L) ((zcb kt pt), (zcb km pm), (zcb kl pl)) mc (run, wc, nu, lc, le, af, tr, ms, cl, tm) (co, yn, yh, pa))) hP
  have hD9 : va_D (zAb s.heap.size) ((zWM cI cJ cZ h2 th (n, L) ((zcb kt pt), (zcb km pm), (zcb kl pl)) mc (run, wc, nu, lc, le, af, tr, ms, cl, tm) (co, yn, yh, pa)) ++ ((zWT cI cJ h (n, L) (kt, km, kl) (pt, pm, pl) (nu, le, ow, fo, run, wc, lc, tr, cl, tm, ms) (yl, yc, yt, co, pa, su, sc) mc) ++ [(oa, .inl (cJ, 1, .inr (.inl (vp_updL yo 0 (L k)))))])) := zswapD (A := (zWT cI cJ h (n, L) (kt, km, kl) (pt, pm, pl) (nu, le, ow, fo, run, wc, lc, tr, cl, tm, ms) (yl, yc, yt, co, pa, su, sc) mc) ++ [(oa, .inl (cJ, 1, .inr (.inl (vp_updL yo 0 (L k)))))]) (Bw := (zWM cI cJ cZ h2 th (n, L) ((zcb kt pt), (zcb km pm), (zcb kl pl)) mc (run, wc, nu, lc, le, af, tr, ms, cl, tm) (co, yn, yh, pa))) hD
  refine zcl (zrV (As := [.int (nI k)]) (rest := []) ⟨hx, hb, hml, hown, hts⟩ (zV 0 hP9 hD9 hK hE hB hS rfl rfl) (c_X5_word (k := k) (hk) (hn40)) (cwV 1 hts gL_law_X5_word rfl rfl rfl hdv_X5_word ⟨Nat.le_of_ble_eq_true rfl, Nat.le_of_ble_eq_true rfl⟩) rfl rfl hl.1 rfl (lv_room (Nat.le_of_ble_eq_true rfl)) dL_law_265 ⟨(show cc + 0 + 0 ≤ 601024 by omega), (show ss + 0 + 0 ≤ 7293034 by omega)⟩) hS (fun H locs hP hD hS => ?_)
  have hP : va_P D vwCl ((zWT cI cJ h (n, L) (kt, km, kl) (pt, pm, pl) (nu, le, ow, fo, run, wc, lc, tr, cl, tm, ms) (yl, yc, yt, co, pa, su, sc) mc) ++ ((oa, .inl (cJ, 1, .inr (.inl (vp_updL yo 0 (L k))))) :: (zWM cI cJ cZ h2 0 (n, L) ((zcb kt pt), (zcb km pm), (zcb kl pl)) mc (run, wc, nu, lc, le, af, tr, ms, cl, tm) (co, yn, yh, pa)))) H := zswapP (A := (zWM cI cJ cZ h2 0 (n, L) ((zcb kt pt), (zcb km pm), (zcb kl pl)) mc (run, wc, nu, lc, le, af, tr, ms, cl, tm) (co, yn, yh, pa))) (Bw := (zWT cI cJ h (n, L) (kt, km, kl) (pt, pm, pl) (nu, le, ow, fo, run, wc, lc, tr, cl, tm, ms) (yl, yc, yt, co, pa, su, sc) mc) ++ [(oa, .inl (cJ, 1, .inr (.inl (vp_updL yo 0 (L k)))))]) hP
  have hD : va_D (zAb s.heap.size) ((zWT cI cJ h (n, L) (kt, km, kl) (pt, pm, pl) (nu, le, ow, fo, run, wc, lc, tr, cl, tm, ms) (yl, yc, yt, co, pa, su, sc) mc) ++ ((oa, .inl (cJ, 1, .inr (.inl (vp_updL yo 0 (L k))))) :: (zWM cI cJ cZ h2 0 (n, L) ((zcb kt pt), (zcb km pm), (zcb kl pl)) mc (run, wc, nu, lc, le, af, tr, ms, cl, tm) (co, yn, yh, pa)))) := zswapD (A := (zWM cI cJ cZ h2 0 (n, L) ((zcb kt pt), (zcb km pm), (zcb kl pl)) mc (run, wc, nu, lc, le, af, tr, ms, cl, tm) (co, yn, yh, pa))) (Bw := (zWT cI cJ h (n, L) (kt, km, kl) (pt, pm, pl) (nu, le, ow, fo, run, wc, lc, tr, cl, tm, ms) (yl, yc, yt, co, pa, su, sc) mc) ++ [(oa, .inl (cJ, 1, .inr (.inl (vp_updL yo 0 (L k)))))]) hD
  refine lv_lstore (lv' := [(6, .long (L k)), (5, .int 0), (0, .ref b), (1, .ref (h 0)), (2, .ref (h2 0)), (3, .ref oa), (4, .int (nI (4 * j)))]) hx hb dL_law_268 hl (by decide) rfl (fun ls hl => ?_)
  refine lv_aload_n hx hb dL_law_270 rfl (lv_at hl 4 rfl) ?_
  have hP9 : va_P D vwCl ((zWM cI cJ cZ h2 0 (n, L) ((zcb kt pt), (zcb km pm), (zcb kl pl)) mc (run, wc, nu, lc, le, af, tr, ms, cl, tm) (co, yn, yh, pa)) ++ ((zWT cI cJ h (n, L) (kt, km, kl) (pt, pm, pl) (nu, le, ow, fo, run, wc, lc, tr, cl, tm, ms) (yl, yc, yt, co, pa, su, sc) mc) ++ [(oa, .inl (cJ, 1, .inr (.inl (vp_updL yo 0 (L k)))))])) H := zswapP (A := (zWT cI cJ h (n, L) (kt, km, kl) (pt, pm, pl) (nu, le, ow, fo, run, wc, lc, tr, cl, tm, ms) (yl, yc, yt, co, pa, su, sc) mc) ++ [(oa, .inl (cJ, 1, .inr (.inl (vp_updL yo 0 (L k)))))]) (Bw := (zWM cI cJ cZ h2 0 (n, L) ((zcb kt pt), (zcb km pm), (zcb kl pl)) mc (run, wc, nu, lc, le, af, tr, ms, cl, tm) (co, yn, yh, pa))) hP
  have hD9 : va_D (zAb s.heap.size) ((zWM cI cJ cZ h2 0 (n, L) ((zcb kt pt), (zcb km pm), (zcb kl pl)) mc (run, wc, nu, lc, le, af, tr, ms, cl, tm) (co, yn, yh, pa)) ++ ((zWT cI cJ h (n, L) (kt, km, kl) (pt, pm, pl) (nu, le, ow, fo, run, wc, lc, tr, cl, tm, ms) (yl, yc, yt, co, pa, su, sc) mc) ++ [(oa, .inl (cJ, 1, .inr (.inl (vp_updL yo 0 (L k)))))])) := zswapD (A := (zWT cI cJ h (n, L) (kt, km, kl) (pt, pm, pl) (nu, le, ow, fo, run, wc, lc, tr, cl, tm, ms) (yl, yc, yt, co, pa, su, sc) mc) ++ [(oa, .inl (cJ, 1, .inr (.inl (vp_updL yo 0 (L k)))))]) (Bw := (zWM cI cJ cZ h2 0 (n, L) ((zcb kt pt), (zcb km pm), (zcb kl pl)) mc (run, wc, nu, lc, le, af, tr, ms, cl, tm) (co, yn, yh, pa))) hD
  refine zci (zrV (As := []) (rest := []) ⟨hx, hb, hml, hown, hts⟩ (zV 0 hP9 hD9 hK hE hB hS rfl rfl) (c_X5_thrown  ) (cwV 0 hts gL_law_X5_thrown rfl rfl rfl hdv_X5_thrown ⟨Nat.le_of_ble_eq_true rfl, Nat.le_of_ble_eq_true rfl⟩) rfl rfl hl.1 rfl (lv_room (Nat.le_of_ble_eq_true rfl)) dL_law_271 ⟨(show cc + 0 + 0 + 0 ≤ 601024 by omega), (show ss + 0 + 0 + 0 ≤ 7293034 by omega)⟩) hS (fun H locs hP hD hS => ?_)
  have hP : va_P D vwCl ((zWT cI cJ h (n, L) (kt, km, kl) (pt, pm, pl) (nu, le, ow, fo, run, wc, lc, tr, cl, tm, ms) (yl, yc, yt, co, pa, su, sc) mc) ++ ((oa, .inl (cJ, 1, .inr (.inl (vp_updL yo 0 (L k))))) :: (zWM cI cJ cZ h2 0 (n, L) ((zcb kt pt), (zcb km pm), (zcb kl pl)) mc (run, wc, nu, lc, le, af, tr, ms, cl, tm) (co, yn, yh, pa)))) H := zswapP (A := (zWM cI cJ cZ h2 0 (n, L) ((zcb kt pt), (zcb km pm), (zcb kl pl)) mc (run, wc, nu, lc, le, af, tr, ms, cl, tm) (co, yn, yh, pa))) (Bw := (zWT cI cJ h (n, L) (kt, km, kl) (pt, pm, pl) (nu, le, ow, fo, run, wc, lc, tr, cl, tm, ms) (yl, yc, yt, co, pa, su, sc) mc) ++ [(oa, .inl (cJ, 1, .inr (.inl (vp_updL yo 0 (L k)))))]) hP
  have hD : va_D (zAb s.heap.size) ((zWT cI cJ h (n, L) (kt, km, kl) (pt, pm, pl) (nu, le, ow, fo, run, wc, lc, tr, cl, tm, ms) (yl, yc, yt, co, pa, su, sc) mc) ++ ((oa, .inl (cJ, 1, .inr (.inl (vp_updL yo 0 (L k))))) :: (zWM cI cJ cZ h2 0 (n, L) ((zcb kt pt), (zcb km pm), (zcb kl pl)) mc (run, wc, nu, lc, le, af, tr, ms, cl, tm) (co, yn, yh, pa)))) := zswapD (A := (zWM cI cJ cZ h2 0 (n, L) ((zcb kt pt), (zcb km pm), (zcb kl pl)) mc (run, wc, nu, lc, le, af, tr, ms, cl, tm) (co, yn, yh, pa))) (Bw := (zWT cI cJ h (n, L) (kt, km, kl) (pt, pm, pl) (nu, le, ow, fo, run, wc, lc, tr, cl, tm, ms) (yl, yc, yt, co, pa, su, sc) mc) ++ [(oa, .inl (cJ, 1, .inr (.inl (vp_updL yo 0 (L k)))))]) hD
  refine lv_iload hx hb dL_law_274 (lv_at hl 1 rfl) ?_
  refine lv_icmp_eq (tgt := 281) hx hb dL_law_276 (by decide) (fun c_5 => ?_) (fun c_5 => ?_)
  · skip
    refine lv_iload hx hb dL_law_281 (lv_at hl 1 rfl) ?_
    refine lv_if_ne (tgt := 297) hx hb dL_law_283 (by decide) (fun c_6 => ?_) (fun c_6 => ?_)
    · skip
      exfalso; first | omega | (revert c_6; decide) | (exact absurd rfl c_6) | simp_all
    · skip
      refine lv_aload_n hx hb dL_law_286 rfl (lv_at hl 5 rfl) ?_
      refine lv_iconst (v := 0) hx hb dL_law_287 (by decide) ?_
      refine va_lald hx hb hK hP 21 1 rfl rfl (vp_in_nI (n := 0) (N := 1) (by omega) (by omega)) dL_law_288 ?_
      refine lv_topl (fun v_7 ev_7 => ?_)
      obtain rfl : (L k) = v_7 := (ev_7.trans (pk_uLs (f := yo) (k := 0) (x := (L k)))).symm
      refine lv_lload hx hb dL_law_289 (lv_at hl 0 rfl) ?_
      refine W.lcmp hx hb dL_law_291 ?_
      refine lv_if_eq (tgt := 297) hx hb dL_law_292 (by decide) (fun c_8 => ?_) (fun c_8 => ?_)
      · skip
        have c_8 : (L k) = (L k) := (lg_cmp_eq _ _).mp c_8
        refine lv_goto (tgt := 1191) hx hb dL_law_297 (by decide) ?_
        refine W.widen (k := cc + 2) (n := ss + 1542) (show cc + 0 + 0 + 0 ≤ cc + 2 by omega) (show ss + 0 + 0 + 0 ≤ ss + 1542 by omega) ?_
        exact kont h h2 oa (vp_updL yo 0 (L k)) 0 n L kt km kl pt pm pl nu le ow fo run wc lc tr cl tm ms yl yc yt co pa su sc mc af yn yh (hI.mono) _ _ _ hP hD hS (lv_sub hl [2, 3, 4, 5, 6] rfl)
      · skip
        have c_8 : ¬ (L k) = (L k) := fun hh => c_8 ((lg_cmp_eq _ _).mpr hh)
        exact absurd rfl c_8
  · skip
    exfalso; first | omega | (revert c_5; decide) | (exact absurd rfl c_5) | simp_all

set_option maxHeartbeats 1000000 in
set_option maxRecDepth 100000 in
theorem law_word_x {p : Program} {l : Launch} {e : Env} {s : State} {m : MethodId} {below : List Frame} {meth : Method} {c : Code} {b L9 : Nat} {xs : Nat → Int32} {D : va_G} {cI cJ cZ : ClassId} {kr kp j cc ss : Nat} {h h2 : Nat → Nat} {oa : Nat} {yo : Nat → Int64} {th : Int32} {n : Nat} {L : Nat → Int64} {kt : Nat → Int32} {km : Nat → Int32} {kl : Nat → Int32} {pt : Nat → Int32} {pm : Nat → Int32} {pl : Nat → Int32} {nu : Nat → Int32} {le : Nat → Int32} {ow : Nat → Int32} {fo : Nat → Int32} {run : Bool} {wc : Nat} {lc : Nat} {tr : Nat} {cl : Nat} {tm : Nat} {ms : Nat} {yl : Nat → Int32} {yc : Nat → Int32} {yt : Nat → Int32} {co : Nat} {pa : Int32} {su : Nat} {sc : Nat} {mc : Nat → Int32} {af : Nat → Int32} {yn : Nat} {yh : Nat → Int32} {i : Int32} (C : zLw p l s m meth c b L9 xs D cI cJ cZ kr kp) (hj : 4 * j + 4 ≤ L9) (hcc : cc + 2 ≤ 601024) (hss : ss + 1542 ≤ 7293034) (kont : zKt p l e s m below meth c b D cI cJ cZ j cc ss) (hI : zInv j n L pt le ow af run wc lc tr cl tm ms yl yc yt co yn su sc yh) (ea1 : xs (4 * j + 1) = i) (hi : i < 0 ∨ nI n ≤ i) {H : Heap} {locs : List Loc} {ls : Array Slot} (hP : va_P D vwCl ((zWT cI cJ h (n, L) (kt, km, kl) (pt, pm, pl) (nu, le, ow, fo, run, wc, lc, tr, cl, tm, ms) (yl, yc, yt, co, pa, su, sc) mc) ++ ((oa, .inl (cJ, 1, .inr (.inl yo))) :: (zWM cI cJ cZ h2 th (n, L) ((zcb kt pt), (zcb km pm), (zcb kl pl)) mc (run, wc, nu, lc, le, af, tr, ms, cl, tm) (co, yn, yh, pa)))) H) (hD : va_D (zAb s.heap.size) ((zWT cI cJ h (n, L) (kt, km, kl) (pt, pm, pl) (nu, le, ow, fo, run, wc, lc, tr, cl, tm, ms) (yl, yc, yt, co, pa, su, sc) mc) ++ ((oa, .inl (cJ, 1, .inr (.inl yo))) :: (zWM cI cJ cZ h2 th (n, L) ((zcb kt pt), (zcb km pm), (zcb kl pl)) mc (run, wc, nu, lc, le, af, tr, ms, cl, tm) (co, yn, yh, pa))))) (hS : va_S (zAb s.heap.size) s.heap H locs) (hl : lv_has ls 9 [(0, .ref b), (1, .ref (h 0)), (2, .ref (h2 0)), (3, .ref oa), (4, .int (nI (4 * j)))]) : W p l e room_1 s m #[Value.ref b] below meth c H locs cc ss (lw_Z below #[Value.ref b] s) (F0 m 245 ls []) := by
  obtain ⟨C0, hls, hK, hE, hL9⟩ := C
  obtain ⟨hx, hb, hr, hml, hown, hts0, hX, hbl, hlocks, hgv⟩ := C0
  have hts : ∀ w ∈ wsL_law, w.before #[Value.ref b] s = true := fun w h => hts0 w (wsL_law_in w h)
  have hbA : ¬ zAb s.heap.size b := Nat.not_le.mpr hbl
  have hB : s.heap.size ≤ s.heap.size := Nat.le_refl _
  have hn40 := hI.1.1
  have hzk := hI.1.2
  obtain ⟨hwc6, hlc48, htrl, hclt, hms1⟩ := hI.2.1
  have hrt := hI.2.2.1
  have hle := hI.2.2.2.1
  have hMk := hI.2.2.2.2.1
  have hct := hI.2.2.2.2.2.1
  have hHi := hI.2.2.2.2.2.2.1
  have hsu := hI.2.2.2.2.2.2.2.2.1
  have hj5 : j ≤ 511 := by omega
  have hco : co < 256 := by have := hct.1; omega
  have hco6 : co ≤ 256 := Nat.le_of_lt hco
  have hsl : su < 2147483648 := by have := hsu.2.2; omega
  have hpt := hI.hpt (Nat.le_succ_of_le hj5)
  refine lv_aload_n hx hb dL_law_245 rfl (lv_at hl 1 rfl) ?_
  refine lv_aload_n hx hb dL_law_246 rfl (lv_at hl 0 rfl) ?_
  refine lv_iload hx hb dL_law_247 (lv_at hl 4 rfl) ?_
  refine lv_iconst (v := 1) hx hb dL_law_249 (by decide) ?_
  refine lv_iadd hx hb dL_law_250 ?_
  refine lv_topi (fun v_1 ev_1 => ?_)
  obtain rfl : v_1 = (nI ((4 * j) + 1)) := ev_1.trans (nI_add (4 * j) 1)
  refine va_sld hx hb hX hbl hbA hS (vp_in_nI (n := ((4 * j) + 1)) (N := L9) (by omega) (by omega)) dL_law_251 ?_
  refine lv_topi (fun v_2 ev_2 => ?_)
  obtain rfl : i = v_2 := (ev_2.trans ((congrArg xs (nI_clamp (by omega))).trans ea1)).symm
  refine lv_aload_n hx hb dL_law_252 rfl (lv_at hl 3 rfl) ?_
  refine zci (vx_runSW (As := [.ref (h 0), .int i, .ref oa]) (rest := []) ⟨hx, hb, hml, hown, hts⟩ (c_L_word_x  hls (hi) (hn40)) (vx_cwSW 3 hts gL_law_L_word rfl rfl rfl hds_L_word ⟨Nat.le_of_ble_eq_true rfl, Nat.le_of_ble_eq_true rfl⟩) (zS hP hD hK hE hB hS) rfl rfl hl.1 rfl (lv_room (Nat.le_of_ble_eq_true rfl)) dL_law_253 ⟨(show cc + 1 ≤ 601024 by omega), (show ss + 6 ≤ 7293034 by omega)⟩) hS (fun H locs hP hD hS => ?_)
  have hP : va_P D vwCl ((zWT cI cJ h (n, L) (kt, km, kl) (pt, pm, pl) (nu, le, ow, fo, run, wc, lc, tr, cl, tm, ms) (yl, yc, yt, co, pa, su, sc) mc) ++ ((oa, .inl (cJ, 1, .inr (.inl yo))) :: (zWM cI cJ cZ h2 th (n, L) ((zcb kt pt), (zcb km pm), (zcb kl pl)) mc (run, wc, nu, lc, le, af, tr, ms, cl, tm) (co, yn, yh, pa)))) H := hP
  have hD : va_D (zAb s.heap.size) ((zWT cI cJ h (n, L) (kt, km, kl) (pt, pm, pl) (nu, le, ow, fo, run, wc, lc, tr, cl, tm, ms) (yl, yc, yt, co, pa, su, sc) mc) ++ ((oa, .inl (cJ, 1, .inr (.inl yo))) :: (zWM cI cJ cZ h2 th (n, L) ((zcb kt pt), (zcb km pm), (zcb kl pl)) mc (run, wc, nu, lc, le, af, tr, ms, cl, tm) (co, yn, yh, pa)))) := hD
  refine lv_istore (lv' := [(5, .int 1), (0, .ref b), (1, .ref (h 0)), (2, .ref (h2 0)), (3, .ref oa), (4, .int (nI (4 * j)))]) hx hb dL_law_256 hl (by decide) rfl (fun ls hl => ?_)
  refine lv_aload_n hx hb dL_law_258 rfl (lv_at hl 3 rfl) ?_
  refine lv_aload_n hx hb dL_law_259 rfl (lv_at hl 1 rfl) ?_
  refine lv_iload hx hb dL_law_260 (lv_at hl 5 rfl) ?_
  refine lv_iconst (v := 1) hx hb dL_law_262 (by decide) ?_
  refine lv_iadd hx hb dL_law_263 ?_
  refine lv_topi (fun v_3 ev_3 => ?_)
  obtain rfl : v_3 = (nI ((4 * j) + 1)) := ev_3.trans (nI_add (4 * j) 1)
  refine va_sld hx hb hX hbl hbA hS (vp_in_nI (n := ((4 * j) + 1)) (N := L9) (by omega) (by omega)) dL_law_264 ?_
  refine lv_topi (fun v_4 ev_4 => ?_)
  obtain rfl : i = v_4 := (ev_4.trans ((congrArg xs (nI_clamp (by omega))).trans ea1)).symm
  have hP9 : va_P D vwCl ((zWM cI cJ cZ h2 th (n, L) ((zcb kt pt), (zcb km pm), (zcb kl pl)) mc (run, wc, nu, lc, le, af, tr, ms, cl, tm) (co, yn, yh, pa)) ++ ((zWT cI cJ h (n, L) (kt, km, kl) (pt, pm, pl) (nu, le, ow, fo, run, wc, lc, tr, cl, tm, ms) (yl, yc, yt, co, pa, su, sc) mc) ++ [(oa, .inl (cJ, 1, .inr (.inl yo)))])) H := zswapP (A := (zWT cI cJ h (n, L) (kt, km, kl) (pt, pm, pl) (nu, le, ow, fo, run, wc, lc, tr, cl, tm, ms) (yl, yc, yt, co, pa, su, sc) mc) ++ [(oa, .inl (cJ, 1, .inr (.inl yo)))]) (Bw := (zWM cI cJ cZ h2 th (n, L) ((zcb kt pt), (zcb km pm), (zcb kl pl)) mc (run, wc, nu, lc, le, af, tr, ms, cl, tm) (co, yn, yh, pa))) hP
  have hD9 : va_D (zAb s.heap.size) ((zWM cI cJ cZ h2 th (n, L) ((zcb kt pt), (zcb km pm), (zcb kl pl)) mc (run, wc, nu, lc, le, af, tr, ms, cl, tm) (co, yn, yh, pa)) ++ ((zWT cI cJ h (n, L) (kt, km, kl) (pt, pm, pl) (nu, le, ow, fo, run, wc, lc, tr, cl, tm, ms) (yl, yc, yt, co, pa, su, sc) mc) ++ [(oa, .inl (cJ, 1, .inr (.inl yo)))])) := zswapD (A := (zWT cI cJ h (n, L) (kt, km, kl) (pt, pm, pl) (nu, le, ow, fo, run, wc, lc, tr, cl, tm, ms) (yl, yc, yt, co, pa, su, sc) mc) ++ [(oa, .inl (cJ, 1, .inr (.inl yo)))]) (Bw := (zWM cI cJ cZ h2 th (n, L) ((zcb kt pt), (zcb km pm), (zcb kl pl)) mc (run, wc, nu, lc, le, af, tr, ms, cl, tm) (co, yn, yh, pa))) hD
  refine zcl (zrV (As := [.int i]) (rest := []) ⟨hx, hb, hml, hown, hts⟩ (zV 0 hP9 hD9 hK hE hB hS rfl rfl) (c_X5_word_x  (hi) (hn40)) (cwV 1 hts gL_law_X5_word rfl rfl rfl hdv_X5_word ⟨Nat.le_of_ble_eq_true rfl, Nat.le_of_ble_eq_true rfl⟩) rfl rfl hl.1 rfl (lv_room (Nat.le_of_ble_eq_true rfl)) dL_law_265 ⟨(show cc + 1 + 0 ≤ 601024 by omega), (show ss + 6 + 0 ≤ 7293034 by omega)⟩) hS (fun H locs hP hD hS => ?_)
  have hP : va_P D vwCl ((zWT cI cJ h (n, L) (kt, km, kl) (pt, pm, pl) (nu, le, ow, fo, run, wc, lc, tr, cl, tm, ms) (yl, yc, yt, co, pa, su, sc) mc) ++ ((oa, .inl (cJ, 1, .inr (.inl yo))) :: (zWM cI cJ cZ h2 1 (n, L) ((zcb kt pt), (zcb km pm), (zcb kl pl)) mc (run, wc, nu, lc, le, af, tr, ms, cl, tm) (co, yn, yh, pa)))) H := zswapP (A := (zWM cI cJ cZ h2 1 (n, L) ((zcb kt pt), (zcb km pm), (zcb kl pl)) mc (run, wc, nu, lc, le, af, tr, ms, cl, tm) (co, yn, yh, pa))) (Bw := (zWT cI cJ h (n, L) (kt, km, kl) (pt, pm, pl) (nu, le, ow, fo, run, wc, lc, tr, cl, tm, ms) (yl, yc, yt, co, pa, su, sc) mc) ++ [(oa, .inl (cJ, 1, .inr (.inl yo)))]) hP
  have hD : va_D (zAb s.heap.size) ((zWT cI cJ h (n, L) (kt, km, kl) (pt, pm, pl) (nu, le, ow, fo, run, wc, lc, tr, cl, tm, ms) (yl, yc, yt, co, pa, su, sc) mc) ++ ((oa, .inl (cJ, 1, .inr (.inl yo))) :: (zWM cI cJ cZ h2 1 (n, L) ((zcb kt pt), (zcb km pm), (zcb kl pl)) mc (run, wc, nu, lc, le, af, tr, ms, cl, tm) (co, yn, yh, pa)))) := zswapD (A := (zWM cI cJ cZ h2 1 (n, L) ((zcb kt pt), (zcb km pm), (zcb kl pl)) mc (run, wc, nu, lc, le, af, tr, ms, cl, tm) (co, yn, yh, pa))) (Bw := (zWT cI cJ h (n, L) (kt, km, kl) (pt, pm, pl) (nu, le, ow, fo, run, wc, lc, tr, cl, tm, ms) (yl, yc, yt, co, pa, su, sc) mc) ++ [(oa, .inl (cJ, 1, .inr (.inl yo)))]) hD
  refine lv_lstore (lv' := [(6, .long 0), (5, .int 1), (0, .ref b), (1, .ref (h 0)), (2, .ref (h2 0)), (3, .ref oa), (4, .int (nI (4 * j)))]) hx hb dL_law_268 hl (by decide) rfl (fun ls hl => ?_)
  refine lv_aload_n hx hb dL_law_270 rfl (lv_at hl 4 rfl) ?_
  have hP9 : va_P D vwCl ((zWM cI cJ cZ h2 1 (n, L) ((zcb kt pt), (zcb km pm), (zcb kl pl)) mc (run, wc, nu, lc, le, af, tr, ms, cl, tm) (co, yn, yh, pa)) ++ ((zWT cI cJ h (n, L) (kt, km, kl) (pt, pm, pl) (nu, le, ow, fo, run, wc, lc, tr, cl, tm, ms) (yl, yc, yt, co, pa, su, sc) mc) ++ [(oa, .inl (cJ, 1, .inr (.inl yo)))])) H := zswapP (A := (zWT cI cJ h (n, L) (kt, km, kl) (pt, pm, pl) (nu, le, ow, fo, run, wc, lc, tr, cl, tm, ms) (yl, yc, yt, co, pa, su, sc) mc) ++ [(oa, .inl (cJ, 1, .inr (.inl yo)))]) (Bw := (zWM cI cJ cZ h2 1 (n, L) ((zcb kt pt), (zcb km pm), (zcb kl pl)) mc (run, wc, nu, lc, le, af, tr, ms, cl, tm) (co, yn, yh, pa))) hP
  have hD9 : va_D (zAb s.heap.size) ((zWM cI cJ cZ h2 1 (n, L) ((zcb kt pt), (zcb km pm), (zcb kl pl)) mc (run, wc, nu, lc, le, af, tr, ms, cl, tm) (co, yn, yh, pa)) ++ ((zWT cI cJ h (n, L) (kt, km, kl) (pt, pm, pl) (nu, le, ow, fo, run, wc, lc, tr, cl, tm, ms) (yl, yc, yt, co, pa, su, sc) mc) ++ [(oa, .inl (cJ, 1, .inr (.inl yo)))])) := zswapD (A := (zWT cI cJ h (n, L) (kt, km, kl) (pt, pm, pl) (nu, le, ow, fo, run, wc, lc, tr, cl, tm, ms) (yl, yc, yt, co, pa, su, sc) mc) ++ [(oa, .inl (cJ, 1, .inr (.inl yo)))]) (Bw := (zWM cI cJ cZ h2 1 (n, L) ((zcb kt pt), (zcb km pm), (zcb kl pl)) mc (run, wc, nu, lc, le, af, tr, ms, cl, tm) (co, yn, yh, pa))) hD
  refine zci (zrV (As := []) (rest := []) ⟨hx, hb, hml, hown, hts⟩ (zV 0 hP9 hD9 hK hE hB hS rfl rfl) (c_X5_thrown  ) (cwV 0 hts gL_law_X5_thrown rfl rfl rfl hdv_X5_thrown ⟨Nat.le_of_ble_eq_true rfl, Nat.le_of_ble_eq_true rfl⟩) rfl rfl hl.1 rfl (lv_room (Nat.le_of_ble_eq_true rfl)) dL_law_271 ⟨(show cc + 1 + 0 + 0 ≤ 601024 by omega), (show ss + 6 + 0 + 0 ≤ 7293034 by omega)⟩) hS (fun H locs hP hD hS => ?_)
  have hP : va_P D vwCl ((zWT cI cJ h (n, L) (kt, km, kl) (pt, pm, pl) (nu, le, ow, fo, run, wc, lc, tr, cl, tm, ms) (yl, yc, yt, co, pa, su, sc) mc) ++ ((oa, .inl (cJ, 1, .inr (.inl yo))) :: (zWM cI cJ cZ h2 1 (n, L) ((zcb kt pt), (zcb km pm), (zcb kl pl)) mc (run, wc, nu, lc, le, af, tr, ms, cl, tm) (co, yn, yh, pa)))) H := zswapP (A := (zWM cI cJ cZ h2 1 (n, L) ((zcb kt pt), (zcb km pm), (zcb kl pl)) mc (run, wc, nu, lc, le, af, tr, ms, cl, tm) (co, yn, yh, pa))) (Bw := (zWT cI cJ h (n, L) (kt, km, kl) (pt, pm, pl) (nu, le, ow, fo, run, wc, lc, tr, cl, tm, ms) (yl, yc, yt, co, pa, su, sc) mc) ++ [(oa, .inl (cJ, 1, .inr (.inl yo)))]) hP
  have hD : va_D (zAb s.heap.size) ((zWT cI cJ h (n, L) (kt, km, kl) (pt, pm, pl) (nu, le, ow, fo, run, wc, lc, tr, cl, tm, ms) (yl, yc, yt, co, pa, su, sc) mc) ++ ((oa, .inl (cJ, 1, .inr (.inl yo))) :: (zWM cI cJ cZ h2 1 (n, L) ((zcb kt pt), (zcb km pm), (zcb kl pl)) mc (run, wc, nu, lc, le, af, tr, ms, cl, tm) (co, yn, yh, pa)))) := zswapD (A := (zWM cI cJ cZ h2 1 (n, L) ((zcb kt pt), (zcb km pm), (zcb kl pl)) mc (run, wc, nu, lc, le, af, tr, ms, cl, tm) (co, yn, yh, pa))) (Bw := (zWT cI cJ h (n, L) (kt, km, kl) (pt, pm, pl) (nu, le, ow, fo, run, wc, lc, tr, cl, tm, ms) (yl, yc, yt, co, pa, su, sc) mc) ++ [(oa, .inl (cJ, 1, .inr (.inl yo)))]) hD
  refine lv_iload hx hb dL_law_274 (lv_at hl 1 rfl) ?_
  refine lv_icmp_eq (tgt := 281) hx hb dL_law_276 (by decide) (fun c_5 => ?_) (fun c_5 => ?_)
  · skip
    refine lv_iload hx hb dL_law_281 (lv_at hl 1 rfl) ?_
    refine lv_if_ne (tgt := 297) hx hb dL_law_283 (by decide) (fun c_6 => ?_) (fun c_6 => ?_)
    · skip
      refine lv_goto (tgt := 1191) hx hb dL_law_297 (by decide) ?_
      refine W.widen (k := cc + 2) (n := ss + 1542) (show cc + 1 + 0 + 0 ≤ cc + 2 by omega) (show ss + 6 + 0 + 0 ≤ ss + 1542 by omega) ?_
      exact kont h h2 oa yo 1 n L kt km kl pt pm pl nu le ow fo run wc lc tr cl tm ms yl yc yt co pa su sc mc af yn yh (hI.mono) _ _ _ hP hD hS (lv_sub hl [2, 3, 4, 5, 6] rfl)
    · skip
      exfalso; first | omega | (revert c_6; decide) | (exact absurd rfl c_6) | simp_all
  · skip
    exfalso; first | omega | (revert c_5; decide) | (exact absurd rfl c_5) | simp_all

set_option maxHeartbeats 1000000 in
set_option maxRecDepth 100000 in
theorem law_weight {p : Program} {l : Launch} {e : Env} {s : State} {m : MethodId} {below : List Frame} {meth : Method} {c : Code} {b L9 : Nat} {xs : Nat → Int32} {D : va_G} {cI cJ cZ : ClassId} {kr kp j cc ss : Nat} {h h2 : Nat → Nat} {oa : Nat} {yo : Nat → Int64} {th : Int32} {n : Nat} {L : Nat → Int64} {kt : Nat → Int32} {km : Nat → Int32} {kl : Nat → Int32} {pt : Nat → Int32} {pm : Nat → Int32} {pl : Nat → Int32} {nu : Nat → Int32} {le : Nat → Int32} {ow : Nat → Int32} {fo : Nat → Int32} {run : Bool} {wc : Nat} {lc : Nat} {tr : Nat} {cl : Nat} {tm : Nat} {ms : Nat} {yl : Nat → Int32} {yc : Nat → Int32} {yt : Nat → Int32} {co : Nat} {pa : Int32} {su : Nat} {sc : Nat} {mc : Nat → Int32} {af : Nat → Int32} {yn : Nat} {yh : Nat → Int32} {k : Nat} (C : zLw p l s m meth c b L9 xs D cI cJ cZ kr kp) (hj : 4 * j + 4 ≤ L9) (hcc : cc + 2 ≤ 601024) (hss : ss + 1542 ≤ 7293034) (kont : zKt p l e s m below meth c b D cI cJ cZ j cc ss) (hI : zInv j n L pt le ow af run wc lc tr cl tm ms yl yc yt co yn su sc yh) (ea1 : xs (4 * j + 1) = nI k) (hk : k < n) {H : Heap} {locs : List Loc} {ls : Array Slot} (hP : va_P D vwCl ((zWT cI cJ h (n, L) (kt, km, kl) (pt, pm, pl) (nu, le, ow, fo, run, wc, lc, tr, cl, tm, ms) (yl, yc, yt, co, pa, su, sc) mc) ++ ((oa, .inl (cJ, 1, .inr (.inl yo))) :: (zWM cI cJ cZ h2 th (n, L) ((zcb kt pt), (zcb km pm), (zcb kl pl)) mc (run, wc, nu, lc, le, af, tr, ms, cl, tm) (co, yn, yh, pa)))) H) (hD : va_D (zAb s.heap.size) ((zWT cI cJ h (n, L) (kt, km, kl) (pt, pm, pl) (nu, le, ow, fo, run, wc, lc, tr, cl, tm, ms) (yl, yc, yt, co, pa, su, sc) mc) ++ ((oa, .inl (cJ, 1, .inr (.inl yo))) :: (zWM cI cJ cZ h2 th (n, L) ((zcb kt pt), (zcb km pm), (zcb kl pl)) mc (run, wc, nu, lc, le, af, tr, ms, cl, tm) (co, yn, yh, pa))))) (hS : va_S (zAb s.heap.size) s.heap H locs) (hl : lv_has ls 9 [(0, .ref b), (1, .ref (h 0)), (2, .ref (h2 0)), (3, .ref oa), (4, .int (nI (4 * j)))]) : W p l e room_1 s m #[Value.ref b] below meth c H locs cc ss (lw_Z below #[Value.ref b] s) (F0 m 300 ls []) := by
  obtain ⟨C0, hls, hK, hE, hL9⟩ := C
  obtain ⟨hx, hb, hr, hml, hown, hts0, hX, hbl, hlocks, hgv⟩ := C0
  have hts : ∀ w ∈ wsL_law, w.before #[Value.ref b] s = true := fun w h => hts0 w (wsL_law_in w h)
  have hbA : ¬ zAb s.heap.size b := Nat.not_le.mpr hbl
  have hB : s.heap.size ≤ s.heap.size := Nat.le_refl _
  have hn40 := hI.1.1
  have hzk := hI.1.2
  obtain ⟨hwc6, hlc48, htrl, hclt, hms1⟩ := hI.2.1
  have hrt := hI.2.2.1
  have hle := hI.2.2.2.1
  have hMk := hI.2.2.2.2.1
  have hct := hI.2.2.2.2.2.1
  have hHi := hI.2.2.2.2.2.2.1
  have hsu := hI.2.2.2.2.2.2.2.2.1
  have hj5 : j ≤ 511 := by omega
  have hco : co < 256 := by have := hct.1; omega
  have hco6 : co ≤ 256 := Nat.le_of_lt hco
  have hsl : su < 2147483648 := by have := hsu.2.2; omega
  have hpt := hI.hpt (Nat.le_succ_of_le hj5)
  refine lv_aload_n hx hb dL_law_300 rfl (lv_at hl 1 rfl) ?_
  refine lv_aload_n hx hb dL_law_301 rfl (lv_at hl 0 rfl) ?_
  refine lv_iload hx hb dL_law_302 (lv_at hl 4 rfl) ?_
  refine lv_iconst (v := 1) hx hb dL_law_304 (by decide) ?_
  refine lv_iadd hx hb dL_law_305 ?_
  refine lv_topi (fun v_1 ev_1 => ?_)
  obtain rfl : v_1 = (nI ((4 * j) + 1)) := ev_1.trans (nI_add (4 * j) 1)
  refine va_sld hx hb hX hbl hbA hS (vp_in_nI (n := ((4 * j) + 1)) (N := L9) (by omega) (by omega)) dL_law_306 ?_
  refine lv_topi (fun v_2 ev_2 => ?_)
  obtain rfl : (nI k) = v_2 := (ev_2.trans ((congrArg xs (nI_clamp (by omega))).trans ea1)).symm
  refine lv_aload_n hx hb dL_law_307 rfl (lv_at hl 3 rfl) ?_
  refine zci (vx_runSW (As := [.ref (h 0), .int (nI k), .ref oa]) (rest := []) ⟨hx, hb, hml, hown, hts⟩ (c_L_weight (k := k) (hk) (hn40) (zok_pos (hzk k hk))) (vx_cwSW 3 hts gL_law_L_weight rfl rfl rfl hds_L_weight ⟨Nat.le_of_ble_eq_true rfl, Nat.le_of_ble_eq_true rfl⟩) (zS hP hD hK hE hB hS) rfl rfl hl.1 rfl (lv_room (Nat.le_of_ble_eq_true rfl)) dL_law_308 ⟨(show cc + 0 ≤ 601024 by omega), (show ss + 0 ≤ 7293034 by omega)⟩) hS (fun H locs hP hD hS => ?_)
  have hP : va_P D vwCl ((zWT cI cJ h (n, L) (kt, km, kl) (pt, pm, pl) (nu, le, ow, fo, run, wc, lc, tr, cl, tm, ms) (yl, yc, yt, co, pa, su, sc) mc) ++ ((oa, .inl (cJ, 1, .inr (.inl (vp_updL yo 0 (((zwg kl pt pl (L k))).toInt64))))) :: (zWM cI cJ cZ h2 th (n, L) ((zcb kt pt), (zcb km pm), (zcb kl pl)) mc (run, wc, nu, lc, le, af, tr, ms, cl, tm) (co, yn, yh, pa)))) H := hP
  have hD : va_D (zAb s.heap.size) ((zWT cI cJ h (n, L) (kt, km, kl) (pt, pm, pl) (nu, le, ow, fo, run, wc, lc, tr, cl, tm, ms) (yl, yc, yt, co, pa, su, sc) mc) ++ ((oa, .inl (cJ, 1, .inr (.inl (vp_updL yo 0 (((zwg kl pt pl (L k))).toInt64))))) :: (zWM cI cJ cZ h2 th (n, L) ((zcb kt pt), (zcb km pm), (zcb kl pl)) mc (run, wc, nu, lc, le, af, tr, ms, cl, tm) (co, yn, yh, pa)))) := hD
  refine lv_istore (lv' := [(5, .int 0), (0, .ref b), (1, .ref (h 0)), (2, .ref (h2 0)), (3, .ref oa), (4, .int (nI (4 * j)))]) hx hb dL_law_311 hl (by decide) rfl (fun ls hl => ?_)
  refine lv_aload_n hx hb dL_law_313 rfl (lv_at hl 3 rfl) ?_
  refine lv_aload_n hx hb dL_law_314 rfl (lv_at hl 1 rfl) ?_
  refine lv_iload hx hb dL_law_315 (lv_at hl 5 rfl) ?_
  refine lv_iconst (v := 1) hx hb dL_law_317 (by decide) ?_
  refine lv_iadd hx hb dL_law_318 ?_
  refine lv_topi (fun v_3 ev_3 => ?_)
  obtain rfl : v_3 = (nI ((4 * j) + 1)) := ev_3.trans (nI_add (4 * j) 1)
  refine va_sld hx hb hX hbl hbA hS (vp_in_nI (n := ((4 * j) + 1)) (N := L9) (by omega) (by omega)) dL_law_319 ?_
  refine lv_topi (fun v_4 ev_4 => ?_)
  obtain rfl : (nI k) = v_4 := (ev_4.trans ((congrArg xs (nI_clamp (by omega))).trans ea1)).symm
  have hP9 : va_P D vwCl ((zWM cI cJ cZ h2 th (n, L) ((zcb kt pt), (zcb km pm), (zcb kl pl)) mc (run, wc, nu, lc, le, af, tr, ms, cl, tm) (co, yn, yh, pa)) ++ ((zWT cI cJ h (n, L) (kt, km, kl) (pt, pm, pl) (nu, le, ow, fo, run, wc, lc, tr, cl, tm, ms) (yl, yc, yt, co, pa, su, sc) mc) ++ [(oa, .inl (cJ, 1, .inr (.inl (vp_updL yo 0 (((zwg kl pt pl (L k))).toInt64)))))])) H := zswapP (A := (zWT cI cJ h (n, L) (kt, km, kl) (pt, pm, pl) (nu, le, ow, fo, run, wc, lc, tr, cl, tm, ms) (yl, yc, yt, co, pa, su, sc) mc) ++ [(oa, .inl (cJ, 1, .inr (.inl (vp_updL yo 0 (((zwg kl pt pl (L k))).toInt64)))))]) (Bw := (zWM cI cJ cZ h2 th (n, L) ((zcb kt pt), (zcb km pm), (zcb kl pl)) mc (run, wc, nu, lc, le, af, tr, ms, cl, tm) (co, yn, yh, pa))) hP
  have hD9 : va_D (zAb s.heap.size) ((zWM cI cJ cZ h2 th (n, L) ((zcb kt pt), (zcb km pm), (zcb kl pl)) mc (run, wc, nu, lc, le, af, tr, ms, cl, tm) (co, yn, yh, pa)) ++ ((zWT cI cJ h (n, L) (kt, km, kl) (pt, pm, pl) (nu, le, ow, fo, run, wc, lc, tr, cl, tm, ms) (yl, yc, yt, co, pa, su, sc) mc) ++ [(oa, .inl (cJ, 1, .inr (.inl (vp_updL yo 0 (((zwg kl pt pl (L k))).toInt64)))))])) := zswapD (A := (zWT cI cJ h (n, L) (kt, km, kl) (pt, pm, pl) (nu, le, ow, fo, run, wc, lc, tr, cl, tm, ms) (yl, yc, yt, co, pa, su, sc) mc) ++ [(oa, .inl (cJ, 1, .inr (.inl (vp_updL yo 0 (((zwg kl pt pl (L k))).toInt64)))))]) (Bw := (zWM cI cJ cZ h2 th (n, L) ((zcb kt pt), (zcb km pm), (zcb kl pl)) mc (run, wc, nu, lc, le, af, tr, ms, cl, tm) (co, yn, yh, pa))) hD
  refine zci (zrV (As := [.int (nI k)]) (rest := []) ⟨hx, hb, hml, hown, hts⟩ (zV 0 hP9 hD9 hK hE hB hS rfl rfl) (c_X5_weight (k := k) (hk) (hn40) (hzk k hk)) (cwV 1 hts gL_law_X5_weight rfl rfl rfl hdv_X5_weight ⟨Nat.le_of_ble_eq_true rfl, Nat.le_of_ble_eq_true rfl⟩) rfl rfl hl.1 rfl (lv_room (Nat.le_of_ble_eq_true rfl)) dL_law_320 ⟨(show cc + 0 + 0 ≤ 601024 by omega), (show ss + 0 + 0 ≤ 7293034 by omega)⟩) hS (fun H locs hP hD hS => ?_)
  have hP : va_P D vwCl ((zWT cI cJ h (n, L) (kt, km, kl) (pt, pm, pl) (nu, le, ow, fo, run, wc, lc, tr, cl, tm, ms) (yl, yc, yt, co, pa, su, sc) mc) ++ ((oa, .inl (cJ, 1, .inr (.inl (vp_updL yo 0 (((zwg kl pt pl (L k))).toInt64))))) :: (zWM cI cJ cZ h2 0 (n, L) ((zcb kt pt), (zcb km pm), (zcb kl pl)) mc (run, wc, nu, lc, le, af, tr, ms, cl, tm) (co, yn, yh, pa)))) H := zswapP (A := (zWM cI cJ cZ h2 0 (n, L) ((zcb kt pt), (zcb km pm), (zcb kl pl)) mc (run, wc, nu, lc, le, af, tr, ms, cl, tm) (co, yn, yh, pa))) (Bw := (zWT cI cJ h (n, L) (kt, km, kl) (pt, pm, pl) (nu, le, ow, fo, run, wc, lc, tr, cl, tm, ms) (yl, yc, yt, co, pa, su, sc) mc) ++ [(oa, .inl (cJ, 1, .inr (.inl (vp_updL yo 0 (((zwg kl pt pl (L k))).toInt64)))))]) hP
  have hD : va_D (zAb s.heap.size) ((zWT cI cJ h (n, L) (kt, km, kl) (pt, pm, pl) (nu, le, ow, fo, run, wc, lc, tr, cl, tm, ms) (yl, yc, yt, co, pa, su, sc) mc) ++ ((oa, .inl (cJ, 1, .inr (.inl (vp_updL yo 0 (((zwg kl pt pl (L k))).toInt64))))) :: (zWM cI cJ cZ h2 0 (n, L) ((zcb kt pt), (zcb km pm), (zcb kl pl)) mc (run, wc, nu, lc, le, af, tr, ms, cl, tm) (co, yn, yh, pa)))) := zswapD (A := (zWM cI cJ cZ h2 0 (n, L) ((zcb kt pt), (zcb km pm), (zcb kl pl)) mc (run, wc, nu, lc, le, af, tr, ms, cl, tm) (co, yn, yh, pa))) (Bw := (zWT cI cJ h (n, L) (kt, km, kl) (pt, pm, pl) (nu, le, ow, fo, run, wc, lc, tr, cl, tm, ms) (yl, yc, yt, co, pa, su, sc) mc) ++ [(oa, .inl (cJ, 1, .inr (.inl (vp_updL yo 0 (((zwg kl pt pl (L k))).toInt64)))))]) hD
  refine lv_istore (lv' := [(6, .int (zwg kl pt pl (L k))), (5, .int 0), (0, .ref b), (1, .ref (h 0)), (2, .ref (h2 0)), (3, .ref oa), (4, .int (nI (4 * j)))]) hx hb dL_law_323 hl (by decide) rfl (fun ls hl => ?_)
  refine lv_aload_n hx hb dL_law_325 rfl (lv_at hl 4 rfl) ?_
  have hP9 : va_P D vwCl ((zWM cI cJ cZ h2 0 (n, L) ((zcb kt pt), (zcb km pm), (zcb kl pl)) mc (run, wc, nu, lc, le, af, tr, ms, cl, tm) (co, yn, yh, pa)) ++ ((zWT cI cJ h (n, L) (kt, km, kl) (pt, pm, pl) (nu, le, ow, fo, run, wc, lc, tr, cl, tm, ms) (yl, yc, yt, co, pa, su, sc) mc) ++ [(oa, .inl (cJ, 1, .inr (.inl (vp_updL yo 0 (((zwg kl pt pl (L k))).toInt64)))))])) H := zswapP (A := (zWT cI cJ h (n, L) (kt, km, kl) (pt, pm, pl) (nu, le, ow, fo, run, wc, lc, tr, cl, tm, ms) (yl, yc, yt, co, pa, su, sc) mc) ++ [(oa, .inl (cJ, 1, .inr (.inl (vp_updL yo 0 (((zwg kl pt pl (L k))).toInt64)))))]) (Bw := (zWM cI cJ cZ h2 0 (n, L) ((zcb kt pt), (zcb km pm), (zcb kl pl)) mc (run, wc, nu, lc, le, af, tr, ms, cl, tm) (co, yn, yh, pa))) hP
  have hD9 : va_D (zAb s.heap.size) ((zWM cI cJ cZ h2 0 (n, L) ((zcb kt pt), (zcb km pm), (zcb kl pl)) mc (run, wc, nu, lc, le, af, tr, ms, cl, tm) (co, yn, yh, pa)) ++ ((zWT cI cJ h (n, L) (kt, km, kl) (pt, pm, pl) (nu, le, ow, fo, run, wc, lc, tr, cl, tm, ms) (yl, yc, yt, co, pa, su, sc) mc) ++ [(oa, .inl (cJ, 1, .inr (.inl (vp_updL yo 0 (((zwg kl pt pl (L k))).toInt64)))))])) := zswapD (A := (zWT cI cJ h (n, L) (kt, km, kl) (pt, pm, pl) (nu, le, ow, fo, run, wc, lc, tr, cl, tm, ms) (yl, yc, yt, co, pa, su, sc) mc) ++ [(oa, .inl (cJ, 1, .inr (.inl (vp_updL yo 0 (((zwg kl pt pl (L k))).toInt64)))))]) (Bw := (zWM cI cJ cZ h2 0 (n, L) ((zcb kt pt), (zcb km pm), (zcb kl pl)) mc (run, wc, nu, lc, le, af, tr, ms, cl, tm) (co, yn, yh, pa))) hD
  refine zci (zrV (As := []) (rest := []) ⟨hx, hb, hml, hown, hts⟩ (zV 0 hP9 hD9 hK hE hB hS rfl rfl) (c_X5_thrown  ) (cwV 0 hts gL_law_X5_thrown rfl rfl rfl hdv_X5_thrown ⟨Nat.le_of_ble_eq_true rfl, Nat.le_of_ble_eq_true rfl⟩) rfl rfl hl.1 rfl (lv_room (Nat.le_of_ble_eq_true rfl)) dL_law_326 ⟨(show cc + 0 + 0 + 0 ≤ 601024 by omega), (show ss + 0 + 0 + 0 ≤ 7293034 by omega)⟩) hS (fun H locs hP hD hS => ?_)
  have hP : va_P D vwCl ((zWT cI cJ h (n, L) (kt, km, kl) (pt, pm, pl) (nu, le, ow, fo, run, wc, lc, tr, cl, tm, ms) (yl, yc, yt, co, pa, su, sc) mc) ++ ((oa, .inl (cJ, 1, .inr (.inl (vp_updL yo 0 (((zwg kl pt pl (L k))).toInt64))))) :: (zWM cI cJ cZ h2 0 (n, L) ((zcb kt pt), (zcb km pm), (zcb kl pl)) mc (run, wc, nu, lc, le, af, tr, ms, cl, tm) (co, yn, yh, pa)))) H := zswapP (A := (zWM cI cJ cZ h2 0 (n, L) ((zcb kt pt), (zcb km pm), (zcb kl pl)) mc (run, wc, nu, lc, le, af, tr, ms, cl, tm) (co, yn, yh, pa))) (Bw := (zWT cI cJ h (n, L) (kt, km, kl) (pt, pm, pl) (nu, le, ow, fo, run, wc, lc, tr, cl, tm, ms) (yl, yc, yt, co, pa, su, sc) mc) ++ [(oa, .inl (cJ, 1, .inr (.inl (vp_updL yo 0 (((zwg kl pt pl (L k))).toInt64)))))]) hP
  have hD : va_D (zAb s.heap.size) ((zWT cI cJ h (n, L) (kt, km, kl) (pt, pm, pl) (nu, le, ow, fo, run, wc, lc, tr, cl, tm, ms) (yl, yc, yt, co, pa, su, sc) mc) ++ ((oa, .inl (cJ, 1, .inr (.inl (vp_updL yo 0 (((zwg kl pt pl (L k))).toInt64))))) :: (zWM cI cJ cZ h2 0 (n, L) ((zcb kt pt), (zcb km pm), (zcb kl pl)) mc (run, wc, nu, lc, le, af, tr, ms, cl, tm) (co, yn, yh, pa)))) := zswapD (A := (zWM cI cJ cZ h2 0 (n, L) ((zcb kt pt), (zcb km pm), (zcb kl pl)) mc (run, wc, nu, lc, le, af, tr, ms, cl, tm) (co, yn, yh, pa))) (Bw := (zWT cI cJ h (n, L) (kt, km, kl) (pt, pm, pl) (nu, le, ow, fo, run, wc, lc, tr, cl, tm, ms) (yl, yc, yt, co, pa, su, sc) mc) ++ [(oa, .inl (cJ, 1, .inr (.inl (vp_updL yo 0 (((zwg kl pt pl (L k))).toInt64)))))]) hD
  refine lv_iload hx hb dL_law_329 (lv_at hl 1 rfl) ?_
  refine lv_icmp_eq (tgt := 336) hx hb dL_law_331 (by decide) (fun c_5 => ?_) (fun c_5 => ?_)
  · skip
    refine lv_iload hx hb dL_law_336 (lv_at hl 1 rfl) ?_
    refine lv_if_ne (tgt := 353) hx hb dL_law_338 (by decide) (fun c_6 => ?_) (fun c_6 => ?_)
    · skip
      exfalso; first | omega | (revert c_6; decide) | (exact absurd rfl c_6) | simp_all
    · skip
      refine lv_aload_n hx hb dL_law_341 rfl (lv_at hl 5 rfl) ?_
      refine lv_iconst (v := 0) hx hb dL_law_342 (by decide) ?_
      refine va_lald hx hb hK hP 21 1 rfl rfl (vp_in_nI (n := 0) (N := 1) (by omega) (by omega)) dL_law_343 ?_
      refine lv_topl (fun v_7 ev_7 => ?_)
      obtain rfl : (((zwg kl pt pl (L k))).toInt64) = v_7 := (ev_7.trans (pk_uLs (f := yo) (k := 0) (x := (((zwg kl pt pl (L k))).toInt64)))).symm
      refine lv_iload hx hb dL_law_344 (lv_at hl 0 rfl) ?_
      refine lv_i2l (v := ((zwg kl pt pl (L k))).toInt64) hx hb dL_law_346 rfl ?_
      refine W.lcmp hx hb dL_law_347 ?_
      refine lv_if_eq (tgt := 353) hx hb dL_law_348 (by decide) (fun c_8 => ?_) (fun c_8 => ?_)
      · skip
        have c_8 : (((zwg kl pt pl (L k))).toInt64) = (((zwg kl pt pl (L k))).toInt64) := (lg_cmp_eq _ _).mp c_8
        refine lv_goto (tgt := 1191) hx hb dL_law_353 (by decide) ?_
        refine W.widen (k := cc + 2) (n := ss + 1542) (show cc + 0 + 0 + 0 ≤ cc + 2 by omega) (show ss + 0 + 0 + 0 ≤ ss + 1542 by omega) ?_
        exact kont h h2 oa (vp_updL yo 0 (((zwg kl pt pl (L k))).toInt64)) 0 n L kt km kl pt pm pl nu le ow fo run wc lc tr cl tm ms yl yc yt co pa su sc mc af yn yh (hI.mono) _ _ _ hP hD hS (lv_sub hl [2, 3, 4, 5, 6] rfl)
      · skip
        have c_8 : ¬ (((zwg kl pt pl (L k))).toInt64) = (((zwg kl pt pl (L k))).toInt64) := fun hh => c_8 ((lg_cmp_eq _ _).mpr hh)
        exact absurd rfl c_8
  · skip
    exfalso; first | omega | (revert c_5; decide) | (exact absurd rfl c_5) | simp_all

set_option maxHeartbeats 1000000 in
set_option maxRecDepth 100000 in
theorem law_weight_x {p : Program} {l : Launch} {e : Env} {s : State} {m : MethodId} {below : List Frame} {meth : Method} {c : Code} {b L9 : Nat} {xs : Nat → Int32} {D : va_G} {cI cJ cZ : ClassId} {kr kp j cc ss : Nat} {h h2 : Nat → Nat} {oa : Nat} {yo : Nat → Int64} {th : Int32} {n : Nat} {L : Nat → Int64} {kt : Nat → Int32} {km : Nat → Int32} {kl : Nat → Int32} {pt : Nat → Int32} {pm : Nat → Int32} {pl : Nat → Int32} {nu : Nat → Int32} {le : Nat → Int32} {ow : Nat → Int32} {fo : Nat → Int32} {run : Bool} {wc : Nat} {lc : Nat} {tr : Nat} {cl : Nat} {tm : Nat} {ms : Nat} {yl : Nat → Int32} {yc : Nat → Int32} {yt : Nat → Int32} {co : Nat} {pa : Int32} {su : Nat} {sc : Nat} {mc : Nat → Int32} {af : Nat → Int32} {yn : Nat} {yh : Nat → Int32} {i : Int32} (C : zLw p l s m meth c b L9 xs D cI cJ cZ kr kp) (hj : 4 * j + 4 ≤ L9) (hcc : cc + 2 ≤ 601024) (hss : ss + 1542 ≤ 7293034) (kont : zKt p l e s m below meth c b D cI cJ cZ j cc ss) (hI : zInv j n L pt le ow af run wc lc tr cl tm ms yl yc yt co yn su sc yh) (ea1 : xs (4 * j + 1) = i) (hi : i < 0 ∨ nI n ≤ i) {H : Heap} {locs : List Loc} {ls : Array Slot} (hP : va_P D vwCl ((zWT cI cJ h (n, L) (kt, km, kl) (pt, pm, pl) (nu, le, ow, fo, run, wc, lc, tr, cl, tm, ms) (yl, yc, yt, co, pa, su, sc) mc) ++ ((oa, .inl (cJ, 1, .inr (.inl yo))) :: (zWM cI cJ cZ h2 th (n, L) ((zcb kt pt), (zcb km pm), (zcb kl pl)) mc (run, wc, nu, lc, le, af, tr, ms, cl, tm) (co, yn, yh, pa)))) H) (hD : va_D (zAb s.heap.size) ((zWT cI cJ h (n, L) (kt, km, kl) (pt, pm, pl) (nu, le, ow, fo, run, wc, lc, tr, cl, tm, ms) (yl, yc, yt, co, pa, su, sc) mc) ++ ((oa, .inl (cJ, 1, .inr (.inl yo))) :: (zWM cI cJ cZ h2 th (n, L) ((zcb kt pt), (zcb km pm), (zcb kl pl)) mc (run, wc, nu, lc, le, af, tr, ms, cl, tm) (co, yn, yh, pa))))) (hS : va_S (zAb s.heap.size) s.heap H locs) (hl : lv_has ls 9 [(0, .ref b), (1, .ref (h 0)), (2, .ref (h2 0)), (3, .ref oa), (4, .int (nI (4 * j)))]) : W p l e room_1 s m #[Value.ref b] below meth c H locs cc ss (lw_Z below #[Value.ref b] s) (F0 m 300 ls []) := by
  obtain ⟨C0, hls, hK, hE, hL9⟩ := C
  obtain ⟨hx, hb, hr, hml, hown, hts0, hX, hbl, hlocks, hgv⟩ := C0
  have hts : ∀ w ∈ wsL_law, w.before #[Value.ref b] s = true := fun w h => hts0 w (wsL_law_in w h)
  have hbA : ¬ zAb s.heap.size b := Nat.not_le.mpr hbl
  have hB : s.heap.size ≤ s.heap.size := Nat.le_refl _
  have hn40 := hI.1.1
  have hzk := hI.1.2
  obtain ⟨hwc6, hlc48, htrl, hclt, hms1⟩ := hI.2.1
  have hrt := hI.2.2.1
  have hle := hI.2.2.2.1
  have hMk := hI.2.2.2.2.1
  have hct := hI.2.2.2.2.2.1
  have hHi := hI.2.2.2.2.2.2.1
  have hsu := hI.2.2.2.2.2.2.2.2.1
  have hj5 : j ≤ 511 := by omega
  have hco : co < 256 := by have := hct.1; omega
  have hco6 : co ≤ 256 := Nat.le_of_lt hco
  have hsl : su < 2147483648 := by have := hsu.2.2; omega
  have hpt := hI.hpt (Nat.le_succ_of_le hj5)
  refine lv_aload_n hx hb dL_law_300 rfl (lv_at hl 1 rfl) ?_
  refine lv_aload_n hx hb dL_law_301 rfl (lv_at hl 0 rfl) ?_
  refine lv_iload hx hb dL_law_302 (lv_at hl 4 rfl) ?_
  refine lv_iconst (v := 1) hx hb dL_law_304 (by decide) ?_
  refine lv_iadd hx hb dL_law_305 ?_
  refine lv_topi (fun v_1 ev_1 => ?_)
  obtain rfl : v_1 = (nI ((4 * j) + 1)) := ev_1.trans (nI_add (4 * j) 1)
  refine va_sld hx hb hX hbl hbA hS (vp_in_nI (n := ((4 * j) + 1)) (N := L9) (by omega) (by omega)) dL_law_306 ?_
  refine lv_topi (fun v_2 ev_2 => ?_)
  obtain rfl : i = v_2 := (ev_2.trans ((congrArg xs (nI_clamp (by omega))).trans ea1)).symm
  refine lv_aload_n hx hb dL_law_307 rfl (lv_at hl 3 rfl) ?_
  refine zci (vx_runSW (As := [.ref (h 0), .int i, .ref oa]) (rest := []) ⟨hx, hb, hml, hown, hts⟩ (c_L_weight_x  hls (hi) (hn40)) (vx_cwSW 3 hts gL_law_L_weight rfl rfl rfl hds_L_weight ⟨Nat.le_of_ble_eq_true rfl, Nat.le_of_ble_eq_true rfl⟩) (zS hP hD hK hE hB hS) rfl rfl hl.1 rfl (lv_room (Nat.le_of_ble_eq_true rfl)) dL_law_308 ⟨(show cc + 1 ≤ 601024 by omega), (show ss + 6 ≤ 7293034 by omega)⟩) hS (fun H locs hP hD hS => ?_)
  have hP : va_P D vwCl ((zWT cI cJ h (n, L) (kt, km, kl) (pt, pm, pl) (nu, le, ow, fo, run, wc, lc, tr, cl, tm, ms) (yl, yc, yt, co, pa, su, sc) mc) ++ ((oa, .inl (cJ, 1, .inr (.inl yo))) :: (zWM cI cJ cZ h2 th (n, L) ((zcb kt pt), (zcb km pm), (zcb kl pl)) mc (run, wc, nu, lc, le, af, tr, ms, cl, tm) (co, yn, yh, pa)))) H := hP
  have hD : va_D (zAb s.heap.size) ((zWT cI cJ h (n, L) (kt, km, kl) (pt, pm, pl) (nu, le, ow, fo, run, wc, lc, tr, cl, tm, ms) (yl, yc, yt, co, pa, su, sc) mc) ++ ((oa, .inl (cJ, 1, .inr (.inl yo))) :: (zWM cI cJ cZ h2 th (n, L) ((zcb kt pt), (zcb km pm), (zcb kl pl)) mc (run, wc, nu, lc, le, af, tr, ms, cl, tm) (co, yn, yh, pa)))) := hD
  refine lv_istore (lv' := [(5, .int 1), (0, .ref b), (1, .ref (h 0)), (2, .ref (h2 0)), (3, .ref oa), (4, .int (nI (4 * j)))]) hx hb dL_law_311 hl (by decide) rfl (fun ls hl => ?_)
  refine lv_aload_n hx hb dL_law_313 rfl (lv_at hl 3 rfl) ?_
  refine lv_aload_n hx hb dL_law_314 rfl (lv_at hl 1 rfl) ?_
  refine lv_iload hx hb dL_law_315 (lv_at hl 5 rfl) ?_
  refine lv_iconst (v := 1) hx hb dL_law_317 (by decide) ?_
  refine lv_iadd hx hb dL_law_318 ?_
  refine lv_topi (fun v_3 ev_3 => ?_)
  obtain rfl : v_3 = (nI ((4 * j) + 1)) := ev_3.trans (nI_add (4 * j) 1)
  refine va_sld hx hb hX hbl hbA hS (vp_in_nI (n := ((4 * j) + 1)) (N := L9) (by omega) (by omega)) dL_law_319 ?_
  refine lv_topi (fun v_4 ev_4 => ?_)
  obtain rfl : i = v_4 := (ev_4.trans ((congrArg xs (nI_clamp (by omega))).trans ea1)).symm
  have hP9 : va_P D vwCl ((zWM cI cJ cZ h2 th (n, L) ((zcb kt pt), (zcb km pm), (zcb kl pl)) mc (run, wc, nu, lc, le, af, tr, ms, cl, tm) (co, yn, yh, pa)) ++ ((zWT cI cJ h (n, L) (kt, km, kl) (pt, pm, pl) (nu, le, ow, fo, run, wc, lc, tr, cl, tm, ms) (yl, yc, yt, co, pa, su, sc) mc) ++ [(oa, .inl (cJ, 1, .inr (.inl yo)))])) H := zswapP (A := (zWT cI cJ h (n, L) (kt, km, kl) (pt, pm, pl) (nu, le, ow, fo, run, wc, lc, tr, cl, tm, ms) (yl, yc, yt, co, pa, su, sc) mc) ++ [(oa, .inl (cJ, 1, .inr (.inl yo)))]) (Bw := (zWM cI cJ cZ h2 th (n, L) ((zcb kt pt), (zcb km pm), (zcb kl pl)) mc (run, wc, nu, lc, le, af, tr, ms, cl, tm) (co, yn, yh, pa))) hP
  have hD9 : va_D (zAb s.heap.size) ((zWM cI cJ cZ h2 th (n, L) ((zcb kt pt), (zcb km pm), (zcb kl pl)) mc (run, wc, nu, lc, le, af, tr, ms, cl, tm) (co, yn, yh, pa)) ++ ((zWT cI cJ h (n, L) (kt, km, kl) (pt, pm, pl) (nu, le, ow, fo, run, wc, lc, tr, cl, tm, ms) (yl, yc, yt, co, pa, su, sc) mc) ++ [(oa, .inl (cJ, 1, .inr (.inl yo)))])) := zswapD (A := (zWT cI cJ h (n, L) (kt, km, kl) (pt, pm, pl) (nu, le, ow, fo, run, wc, lc, tr, cl, tm, ms) (yl, yc, yt, co, pa, su, sc) mc) ++ [(oa, .inl (cJ, 1, .inr (.inl yo)))]) (Bw := (zWM cI cJ cZ h2 th (n, L) ((zcb kt pt), (zcb km pm), (zcb kl pl)) mc (run, wc, nu, lc, le, af, tr, ms, cl, tm) (co, yn, yh, pa))) hD
  refine zci (zrV (As := [.int i]) (rest := []) ⟨hx, hb, hml, hown, hts⟩ (zV 0 hP9 hD9 hK hE hB hS rfl rfl) (c_X5_weight_x  (hi) (hn40)) (cwV 1 hts gL_law_X5_weight rfl rfl rfl hdv_X5_weight ⟨Nat.le_of_ble_eq_true rfl, Nat.le_of_ble_eq_true rfl⟩) rfl rfl hl.1 rfl (lv_room (Nat.le_of_ble_eq_true rfl)) dL_law_320 ⟨(show cc + 1 + 0 ≤ 601024 by omega), (show ss + 6 + 0 ≤ 7293034 by omega)⟩) hS (fun H locs hP hD hS => ?_)
  have hP : va_P D vwCl ((zWT cI cJ h (n, L) (kt, km, kl) (pt, pm, pl) (nu, le, ow, fo, run, wc, lc, tr, cl, tm, ms) (yl, yc, yt, co, pa, su, sc) mc) ++ ((oa, .inl (cJ, 1, .inr (.inl yo))) :: (zWM cI cJ cZ h2 1 (n, L) ((zcb kt pt), (zcb km pm), (zcb kl pl)) mc (run, wc, nu, lc, le, af, tr, ms, cl, tm) (co, yn, yh, pa)))) H := zswapP (A := (zWM cI cJ cZ h2 1 (n, L) ((zcb kt pt), (zcb km pm), (zcb kl pl)) mc (run, wc, nu, lc, le, af, tr, ms, cl, tm) (co, yn, yh, pa))) (Bw := (zWT cI cJ h (n, L) (kt, km, kl) (pt, pm, pl) (nu, le, ow, fo, run, wc, lc, tr, cl, tm, ms) (yl, yc, yt, co, pa, su, sc) mc) ++ [(oa, .inl (cJ, 1, .inr (.inl yo)))]) hP
  have hD : va_D (zAb s.heap.size) ((zWT cI cJ h (n, L) (kt, km, kl) (pt, pm, pl) (nu, le, ow, fo, run, wc, lc, tr, cl, tm, ms) (yl, yc, yt, co, pa, su, sc) mc) ++ ((oa, .inl (cJ, 1, .inr (.inl yo))) :: (zWM cI cJ cZ h2 1 (n, L) ((zcb kt pt), (zcb km pm), (zcb kl pl)) mc (run, wc, nu, lc, le, af, tr, ms, cl, tm) (co, yn, yh, pa)))) := zswapD (A := (zWM cI cJ cZ h2 1 (n, L) ((zcb kt pt), (zcb km pm), (zcb kl pl)) mc (run, wc, nu, lc, le, af, tr, ms, cl, tm) (co, yn, yh, pa))) (Bw := (zWT cI cJ h (n, L) (kt, km, kl) (pt, pm, pl) (nu, le, ow, fo, run, wc, lc, tr, cl, tm, ms) (yl, yc, yt, co, pa, su, sc) mc) ++ [(oa, .inl (cJ, 1, .inr (.inl yo)))]) hD
  refine lv_istore (lv' := [(6, .int 0), (5, .int 1), (0, .ref b), (1, .ref (h 0)), (2, .ref (h2 0)), (3, .ref oa), (4, .int (nI (4 * j)))]) hx hb dL_law_323 hl (by decide) rfl (fun ls hl => ?_)
  refine lv_aload_n hx hb dL_law_325 rfl (lv_at hl 4 rfl) ?_
  have hP9 : va_P D vwCl ((zWM cI cJ cZ h2 1 (n, L) ((zcb kt pt), (zcb km pm), (zcb kl pl)) mc (run, wc, nu, lc, le, af, tr, ms, cl, tm) (co, yn, yh, pa)) ++ ((zWT cI cJ h (n, L) (kt, km, kl) (pt, pm, pl) (nu, le, ow, fo, run, wc, lc, tr, cl, tm, ms) (yl, yc, yt, co, pa, su, sc) mc) ++ [(oa, .inl (cJ, 1, .inr (.inl yo)))])) H := zswapP (A := (zWT cI cJ h (n, L) (kt, km, kl) (pt, pm, pl) (nu, le, ow, fo, run, wc, lc, tr, cl, tm, ms) (yl, yc, yt, co, pa, su, sc) mc) ++ [(oa, .inl (cJ, 1, .inr (.inl yo)))]) (Bw := (zWM cI cJ cZ h2 1 (n, L) ((zcb kt pt), (zcb km pm), (zcb kl pl)) mc (run, wc, nu, lc, le, af, tr, ms, cl, tm) (co, yn, yh, pa))) hP
  have hD9 : va_D (zAb s.heap.size) ((zWM cI cJ cZ h2 1 (n, L) ((zcb kt pt), (zcb km pm), (zcb kl pl)) mc (run, wc, nu, lc, le, af, tr, ms, cl, tm) (co, yn, yh, pa)) ++ ((zWT cI cJ h (n, L) (kt, km, kl) (pt, pm, pl) (nu, le, ow, fo, run, wc, lc, tr, cl, tm, ms) (yl, yc, yt, co, pa, su, sc) mc) ++ [(oa, .inl (cJ, 1, .inr (.inl yo)))])) := zswapD (A := (zWT cI cJ h (n, L) (kt, km, kl) (pt, pm, pl) (nu, le, ow, fo, run, wc, lc, tr, cl, tm, ms) (yl, yc, yt, co, pa, su, sc) mc) ++ [(oa, .inl (cJ, 1, .inr (.inl yo)))]) (Bw := (zWM cI cJ cZ h2 1 (n, L) ((zcb kt pt), (zcb km pm), (zcb kl pl)) mc (run, wc, nu, lc, le, af, tr, ms, cl, tm) (co, yn, yh, pa))) hD
  refine zci (zrV (As := []) (rest := []) ⟨hx, hb, hml, hown, hts⟩ (zV 0 hP9 hD9 hK hE hB hS rfl rfl) (c_X5_thrown  ) (cwV 0 hts gL_law_X5_thrown rfl rfl rfl hdv_X5_thrown ⟨Nat.le_of_ble_eq_true rfl, Nat.le_of_ble_eq_true rfl⟩) rfl rfl hl.1 rfl (lv_room (Nat.le_of_ble_eq_true rfl)) dL_law_326 ⟨(show cc + 1 + 0 + 0 ≤ 601024 by omega), (show ss + 6 + 0 + 0 ≤ 7293034 by omega)⟩) hS (fun H locs hP hD hS => ?_)
  have hP : va_P D vwCl ((zWT cI cJ h (n, L) (kt, km, kl) (pt, pm, pl) (nu, le, ow, fo, run, wc, lc, tr, cl, tm, ms) (yl, yc, yt, co, pa, su, sc) mc) ++ ((oa, .inl (cJ, 1, .inr (.inl yo))) :: (zWM cI cJ cZ h2 1 (n, L) ((zcb kt pt), (zcb km pm), (zcb kl pl)) mc (run, wc, nu, lc, le, af, tr, ms, cl, tm) (co, yn, yh, pa)))) H := zswapP (A := (zWM cI cJ cZ h2 1 (n, L) ((zcb kt pt), (zcb km pm), (zcb kl pl)) mc (run, wc, nu, lc, le, af, tr, ms, cl, tm) (co, yn, yh, pa))) (Bw := (zWT cI cJ h (n, L) (kt, km, kl) (pt, pm, pl) (nu, le, ow, fo, run, wc, lc, tr, cl, tm, ms) (yl, yc, yt, co, pa, su, sc) mc) ++ [(oa, .inl (cJ, 1, .inr (.inl yo)))]) hP
  have hD : va_D (zAb s.heap.size) ((zWT cI cJ h (n, L) (kt, km, kl) (pt, pm, pl) (nu, le, ow, fo, run, wc, lc, tr, cl, tm, ms) (yl, yc, yt, co, pa, su, sc) mc) ++ ((oa, .inl (cJ, 1, .inr (.inl yo))) :: (zWM cI cJ cZ h2 1 (n, L) ((zcb kt pt), (zcb km pm), (zcb kl pl)) mc (run, wc, nu, lc, le, af, tr, ms, cl, tm) (co, yn, yh, pa)))) := zswapD (A := (zWM cI cJ cZ h2 1 (n, L) ((zcb kt pt), (zcb km pm), (zcb kl pl)) mc (run, wc, nu, lc, le, af, tr, ms, cl, tm) (co, yn, yh, pa))) (Bw := (zWT cI cJ h (n, L) (kt, km, kl) (pt, pm, pl) (nu, le, ow, fo, run, wc, lc, tr, cl, tm, ms) (yl, yc, yt, co, pa, su, sc) mc) ++ [(oa, .inl (cJ, 1, .inr (.inl yo)))]) hD
  refine lv_iload hx hb dL_law_329 (lv_at hl 1 rfl) ?_
  refine lv_icmp_eq (tgt := 336) hx hb dL_law_331 (by decide) (fun c_5 => ?_) (fun c_5 => ?_)
  · skip
    refine lv_iload hx hb dL_law_336 (lv_at hl 1 rfl) ?_
    refine lv_if_ne (tgt := 353) hx hb dL_law_338 (by decide) (fun c_6 => ?_) (fun c_6 => ?_)
    · skip
      refine lv_goto (tgt := 1191) hx hb dL_law_353 (by decide) ?_
      refine W.widen (k := cc + 2) (n := ss + 1542) (show cc + 1 + 0 + 0 ≤ cc + 2 by omega) (show ss + 6 + 0 + 0 ≤ ss + 1542 by omega) ?_
      exact kont h h2 oa yo 1 n L kt km kl pt pm pl nu le ow fo run wc lc tr cl tm ms yl yc yt co pa su sc mc af yn yh (hI.mono) _ _ _ hP hD hS (lv_sub hl [2, 3, 4, 5, 6] rfl)
    · skip
      exfalso; first | omega | (revert c_6; decide) | (exact absurd rfl c_6) | simp_all
  · skip
    exfalso; first | omega | (revert c_5; decide) | (exact absurd rfl c_5) | simp_all

set_option maxHeartbeats 1000000 in
set_option maxRecDepth 100000 in
theorem law_areNeighbours {p : Program} {l : Launch} {e : Env} {s : State} {m : MethodId} {below : List Frame} {meth : Method} {c : Code} {b L9 : Nat} {xs : Nat → Int32} {D : va_G} {cI cJ cZ : ClassId} {kr kp j cc ss : Nat} {h h2 : Nat → Nat} {oa : Nat} {yo : Nat → Int64} {th : Int32} {n : Nat} {L : Nat → Int64} {kt : Nat → Int32} {km : Nat → Int32} {kl : Nat → Int32} {pt : Nat → Int32} {pm : Nat → Int32} {pl : Nat → Int32} {nu : Nat → Int32} {le : Nat → Int32} {ow : Nat → Int32} {fo : Nat → Int32} {run : Bool} {wc : Nat} {lc : Nat} {tr : Nat} {cl : Nat} {tm : Nat} {ms : Nat} {yl : Nat → Int32} {yc : Nat → Int32} {yt : Nat → Int32} {co : Nat} {pa : Int32} {su : Nat} {sc : Nat} {mc : Nat → Int32} {af : Nat → Int32} {yn : Nat} {yh : Nat → Int32} {a1 : Nat} {a2 : Nat} (C : zLw p l s m meth c b L9 xs D cI cJ cZ kr kp) (hj : 4 * j + 4 ≤ L9) (hcc : cc + 2 ≤ 601024) (hss : ss + 1542 ≤ 7293034) (kont : zKt p l e s m below meth c b D cI cJ cZ j cc ss) (hI : zInv j n L pt le ow af run wc lc tr cl tm ms yl yc yt co yn su sc yh) (ea1 : xs (4 * j + 1) = nI a1) (ea2 : xs (4 * j + 2) = nI a2) (ha : a1 < 26) (hb9 : a2 < 26) {H : Heap} {locs : List Loc} {ls : Array Slot} (hP : va_P D vwCl ((zWT cI cJ h (n, L) (kt, km, kl) (pt, pm, pl) (nu, le, ow, fo, run, wc, lc, tr, cl, tm, ms) (yl, yc, yt, co, pa, su, sc) mc) ++ ((oa, .inl (cJ, 1, .inr (.inl yo))) :: (zWM cI cJ cZ h2 th (n, L) ((zcb kt pt), (zcb km pm), (zcb kl pl)) mc (run, wc, nu, lc, le, af, tr, ms, cl, tm) (co, yn, yh, pa)))) H) (hD : va_D (zAb s.heap.size) ((zWT cI cJ h (n, L) (kt, km, kl) (pt, pm, pl) (nu, le, ow, fo, run, wc, lc, tr, cl, tm, ms) (yl, yc, yt, co, pa, su, sc) mc) ++ ((oa, .inl (cJ, 1, .inr (.inl yo))) :: (zWM cI cJ cZ h2 th (n, L) ((zcb kt pt), (zcb km pm), (zcb kl pl)) mc (run, wc, nu, lc, le, af, tr, ms, cl, tm) (co, yn, yh, pa))))) (hS : va_S (zAb s.heap.size) s.heap H locs) (hl : lv_has ls 9 [(0, .ref b), (1, .ref (h 0)), (2, .ref (h2 0)), (3, .ref oa), (4, .int (nI (4 * j)))]) : W p l e room_1 s m #[Value.ref b] below meth c H locs cc ss (lw_Z below #[Value.ref b] s) (F0 m 356 ls []) := by
  obtain ⟨C0, hls, hK, hE, hL9⟩ := C
  obtain ⟨hx, hb, hr, hml, hown, hts0, hX, hbl, hlocks, hgv⟩ := C0
  have hts : ∀ w ∈ wsL_law, w.before #[Value.ref b] s = true := fun w h => hts0 w (wsL_law_in w h)
  have hbA : ¬ zAb s.heap.size b := Nat.not_le.mpr hbl
  have hB : s.heap.size ≤ s.heap.size := Nat.le_refl _
  have hn40 := hI.1.1
  have hzk := hI.1.2
  obtain ⟨hwc6, hlc48, htrl, hclt, hms1⟩ := hI.2.1
  have hrt := hI.2.2.1
  have hle := hI.2.2.2.1
  have hMk := hI.2.2.2.2.1
  have hct := hI.2.2.2.2.2.1
  have hHi := hI.2.2.2.2.2.2.1
  have hsu := hI.2.2.2.2.2.2.2.2.1
  have hj5 : j ≤ 511 := by omega
  have hco : co < 256 := by have := hct.1; omega
  have hco6 : co ≤ 256 := Nat.le_of_lt hco
  have hsl : su < 2147483648 := by have := hsu.2.2; omega
  have hpt := hI.hpt (Nat.le_succ_of_le hj5)
  refine lv_aload_n hx hb dL_law_356 rfl (lv_at hl 1 rfl) ?_
  refine lv_aload_n hx hb dL_law_357 rfl (lv_at hl 0 rfl) ?_
  refine lv_iload hx hb dL_law_358 (lv_at hl 4 rfl) ?_
  refine lv_iconst (v := 1) hx hb dL_law_360 (by decide) ?_
  refine lv_iadd hx hb dL_law_361 ?_
  refine lv_topi (fun v_1 ev_1 => ?_)
  obtain rfl : v_1 = (nI ((4 * j) + 1)) := ev_1.trans (nI_add (4 * j) 1)
  refine va_sld hx hb hX hbl hbA hS (vp_in_nI (n := ((4 * j) + 1)) (N := L9) (by omega) (by omega)) dL_law_362 ?_
  refine lv_topi (fun v_2 ev_2 => ?_)
  obtain rfl : (nI a1) = v_2 := (ev_2.trans ((congrArg xs (nI_clamp (by omega))).trans ea1)).symm
  refine lv_aload_n hx hb dL_law_363 rfl (lv_at hl 0 rfl) ?_
  refine lv_iload hx hb dL_law_364 (lv_at hl 4 rfl) ?_
  refine lv_iconst (v := 2) hx hb dL_law_366 (by decide) ?_
  refine lv_iadd hx hb dL_law_367 ?_
  refine lv_topi (fun v_3 ev_3 => ?_)
  obtain rfl : v_3 = (nI ((4 * j) + 2)) := ev_3.trans (nI_add (4 * j) 2)
  refine va_sld hx hb hX hbl hbA hS (vp_in_nI (n := ((4 * j) + 2)) (N := L9) (by omega) (by omega)) dL_law_368 ?_
  refine lv_topi (fun v_4 ev_4 => ?_)
  obtain rfl : (nI a2) = v_4 := (ev_4.trans ((congrArg xs (nI_clamp (by omega))).trans ea2)).symm
  refine lv_aload_n hx hb dL_law_369 rfl (lv_at hl 3 rfl) ?_
  refine zci (vx_runSW (As := [.ref (h 0), .int (nI a1), .int (nI a2), .ref oa]) (rest := []) ⟨hx, hb, hml, hown, hts⟩ (c_L_areNeighbours  (zin26 ha) (zin26 hb9)) (vx_cwSW 4 hts gL_law_L_areNeighbours rfl rfl rfl hds_L_areNeighbours ⟨Nat.le_of_ble_eq_true rfl, Nat.le_of_ble_eq_true rfl⟩) (zS hP hD hK hE hB hS) rfl rfl hl.1 rfl (lv_room (Nat.le_of_ble_eq_true rfl)) dL_law_370 ⟨(show cc + 0 ≤ 601024 by omega), (show ss + 0 ≤ 7293034 by omega)⟩) hS (fun H locs hP hD hS => ?_)
  have hP : va_P D vwCl ((zWT cI cJ h (n, L) (kt, km, kl) (pt, pm, pl) (nu, le, ow, fo, run, wc, lc, tr, cl, tm, ms) (yl, yc, yt, co, pa, su, sc) mc) ++ ((oa, .inl (cJ, 1, .inr (.inl (vp_updL yo 0 (zbl ((zst (nI a1) (nI a2)))))))) :: (zWM cI cJ cZ h2 th (n, L) ((zcb kt pt), (zcb km pm), (zcb kl pl)) mc (run, wc, nu, lc, le, af, tr, ms, cl, tm) (co, yn, yh, pa)))) H := hP
  have hD : va_D (zAb s.heap.size) ((zWT cI cJ h (n, L) (kt, km, kl) (pt, pm, pl) (nu, le, ow, fo, run, wc, lc, tr, cl, tm, ms) (yl, yc, yt, co, pa, su, sc) mc) ++ ((oa, .inl (cJ, 1, .inr (.inl (vp_updL yo 0 (zbl ((zst (nI a1) (nI a2)))))))) :: (zWM cI cJ cZ h2 th (n, L) ((zcb kt pt), (zcb km pm), (zcb kl pl)) mc (run, wc, nu, lc, le, af, tr, ms, cl, tm) (co, yn, yh, pa)))) := hD
  refine lv_istore (lv' := [(5, .int 0), (0, .ref b), (1, .ref (h 0)), (2, .ref (h2 0)), (3, .ref oa), (4, .int (nI (4 * j)))]) hx hb dL_law_373 hl (by decide) rfl (fun ls hl => ?_)
  refine lv_aload_n hx hb dL_law_375 rfl (lv_at hl 3 rfl) ?_
  refine lv_aload_n hx hb dL_law_376 rfl (lv_at hl 1 rfl) ?_
  refine lv_iload hx hb dL_law_377 (lv_at hl 5 rfl) ?_
  refine lv_iconst (v := 1) hx hb dL_law_379 (by decide) ?_
  refine lv_iadd hx hb dL_law_380 ?_
  refine lv_topi (fun v_5 ev_5 => ?_)
  obtain rfl : v_5 = (nI ((4 * j) + 1)) := ev_5.trans (nI_add (4 * j) 1)
  refine va_sld hx hb hX hbl hbA hS (vp_in_nI (n := ((4 * j) + 1)) (N := L9) (by omega) (by omega)) dL_law_381 ?_
  refine lv_topi (fun v_6 ev_6 => ?_)
  obtain rfl : (nI a1) = v_6 := (ev_6.trans ((congrArg xs (nI_clamp (by omega))).trans ea1)).symm
  refine lv_aload_n hx hb dL_law_382 rfl (lv_at hl 1 rfl) ?_
  refine lv_iload hx hb dL_law_383 (lv_at hl 5 rfl) ?_
  refine lv_iconst (v := 2) hx hb dL_law_385 (by decide) ?_
  refine lv_iadd hx hb dL_law_386 ?_
  refine lv_topi (fun v_7 ev_7 => ?_)
  obtain rfl : v_7 = (nI ((4 * j) + 2)) := ev_7.trans (nI_add (4 * j) 2)
  refine va_sld hx hb hX hbl hbA hS (vp_in_nI (n := ((4 * j) + 2)) (N := L9) (by omega) (by omega)) dL_law_387 ?_
  refine lv_topi (fun v_8 ev_8 => ?_)
  obtain rfl : (nI a2) = v_8 := (ev_8.trans ((congrArg xs (nI_clamp (by omega))).trans ea2)).symm
  have hP9 : va_P D vwCl ((zWM cI cJ cZ h2 th (n, L) ((zcb kt pt), (zcb km pm), (zcb kl pl)) mc (run, wc, nu, lc, le, af, tr, ms, cl, tm) (co, yn, yh, pa)) ++ ((zWT cI cJ h (n, L) (kt, km, kl) (pt, pm, pl) (nu, le, ow, fo, run, wc, lc, tr, cl, tm, ms) (yl, yc, yt, co, pa, su, sc) mc) ++ [(oa, .inl (cJ, 1, .inr (.inl (vp_updL yo 0 (zbl ((zst (nI a1) (nI a2))))))))])) H := zswapP (A := (zWT cI cJ h (n, L) (kt, km, kl) (pt, pm, pl) (nu, le, ow, fo, run, wc, lc, tr, cl, tm, ms) (yl, yc, yt, co, pa, su, sc) mc) ++ [(oa, .inl (cJ, 1, .inr (.inl (vp_updL yo 0 (zbl ((zst (nI a1) (nI a2))))))))]) (Bw := (zWM cI cJ cZ h2 th (n, L) ((zcb kt pt), (zcb km pm), (zcb kl pl)) mc (run, wc, nu, lc, le, af, tr, ms, cl, tm) (co, yn, yh, pa))) hP
  have hD9 : va_D (zAb s.heap.size) ((zWM cI cJ cZ h2 th (n, L) ((zcb kt pt), (zcb km pm), (zcb kl pl)) mc (run, wc, nu, lc, le, af, tr, ms, cl, tm) (co, yn, yh, pa)) ++ ((zWT cI cJ h (n, L) (kt, km, kl) (pt, pm, pl) (nu, le, ow, fo, run, wc, lc, tr, cl, tm, ms) (yl, yc, yt, co, pa, su, sc) mc) ++ [(oa, .inl (cJ, 1, .inr (.inl (vp_updL yo 0 (zbl ((zst (nI a1) (nI a2))))))))])) := zswapD (A := (zWT cI cJ h (n, L) (kt, km, kl) (pt, pm, pl) (nu, le, ow, fo, run, wc, lc, tr, cl, tm, ms) (yl, yc, yt, co, pa, su, sc) mc) ++ [(oa, .inl (cJ, 1, .inr (.inl (vp_updL yo 0 (zbl ((zst (nI a1) (nI a2))))))))]) (Bw := (zWM cI cJ cZ h2 th (n, L) ((zcb kt pt), (zcb km pm), (zcb kl pl)) mc (run, wc, nu, lc, le, af, tr, ms, cl, tm) (co, yn, yh, pa))) hD
  refine zci (zrV (As := [.int (nI a1), .int (nI a2)]) (rest := []) ⟨hx, hb, hml, hown, hts⟩ (zV 0 hP9 hD9 hK hE hB hS rfl rfl) (c_X5_areNeighbours (a := a1) (b := a2) (ha) (hb9)) (cwV 2 hts gL_law_X5_areNeighbours rfl rfl rfl hdv_X5_areNeighbours ⟨Nat.le_of_ble_eq_true rfl, Nat.le_of_ble_eq_true rfl⟩) rfl rfl hl.1 rfl (lv_room (Nat.le_of_ble_eq_true rfl)) dL_law_388 ⟨(show cc + 0 + 0 ≤ 601024 by omega), (show ss + 0 + 0 ≤ 7293034 by omega)⟩) hS (fun H locs hP hD hS => ?_)
  have hP : va_P D vwCl ((zWT cI cJ h (n, L) (kt, km, kl) (pt, pm, pl) (nu, le, ow, fo, run, wc, lc, tr, cl, tm, ms) (yl, yc, yt, co, pa, su, sc) mc) ++ ((oa, .inl (cJ, 1, .inr (.inl (vp_updL yo 0 (zbl ((zst (nI a1) (nI a2)))))))) :: (zWM cI cJ cZ h2 0 (n, L) ((zcb kt pt), (zcb km pm), (zcb kl pl)) mc (run, wc, nu, lc, le, af, tr, ms, cl, tm) (co, yn, yh, pa)))) H := zswapP (A := (zWM cI cJ cZ h2 0 (n, L) ((zcb kt pt), (zcb km pm), (zcb kl pl)) mc (run, wc, nu, lc, le, af, tr, ms, cl, tm) (co, yn, yh, pa))) (Bw := (zWT cI cJ h (n, L) (kt, km, kl) (pt, pm, pl) (nu, le, ow, fo, run, wc, lc, tr, cl, tm, ms) (yl, yc, yt, co, pa, su, sc) mc) ++ [(oa, .inl (cJ, 1, .inr (.inl (vp_updL yo 0 (zbl ((zst (nI a1) (nI a2))))))))]) hP
  have hD : va_D (zAb s.heap.size) ((zWT cI cJ h (n, L) (kt, km, kl) (pt, pm, pl) (nu, le, ow, fo, run, wc, lc, tr, cl, tm, ms) (yl, yc, yt, co, pa, su, sc) mc) ++ ((oa, .inl (cJ, 1, .inr (.inl (vp_updL yo 0 (zbl ((zst (nI a1) (nI a2)))))))) :: (zWM cI cJ cZ h2 0 (n, L) ((zcb kt pt), (zcb km pm), (zcb kl pl)) mc (run, wc, nu, lc, le, af, tr, ms, cl, tm) (co, yn, yh, pa)))) := zswapD (A := (zWM cI cJ cZ h2 0 (n, L) ((zcb kt pt), (zcb km pm), (zcb kl pl)) mc (run, wc, nu, lc, le, af, tr, ms, cl, tm) (co, yn, yh, pa))) (Bw := (zWT cI cJ h (n, L) (kt, km, kl) (pt, pm, pl) (nu, le, ow, fo, run, wc, lc, tr, cl, tm, ms) (yl, yc, yt, co, pa, su, sc) mc) ++ [(oa, .inl (cJ, 1, .inr (.inl (vp_updL yo 0 (zbl ((zst (nI a1) (nI a2))))))))]) hD
  refine lv_istore (lv' := [(6, .int (zb (zst (nI a1) (nI a2)))), (5, .int 0), (0, .ref b), (1, .ref (h 0)), (2, .ref (h2 0)), (3, .ref oa), (4, .int (nI (4 * j)))]) hx hb dL_law_391 hl (by decide) rfl (fun ls hl => ?_)
  refine lv_aload_n hx hb dL_law_393 rfl (lv_at hl 4 rfl) ?_
  have hP9 : va_P D vwCl ((zWM cI cJ cZ h2 0 (n, L) ((zcb kt pt), (zcb km pm), (zcb kl pl)) mc (run, wc, nu, lc, le, af, tr, ms, cl, tm) (co, yn, yh, pa)) ++ ((zWT cI cJ h (n, L) (kt, km, kl) (pt, pm, pl) (nu, le, ow, fo, run, wc, lc, tr, cl, tm, ms) (yl, yc, yt, co, pa, su, sc) mc) ++ [(oa, .inl (cJ, 1, .inr (.inl (vp_updL yo 0 (zbl ((zst (nI a1) (nI a2))))))))])) H := zswapP (A := (zWT cI cJ h (n, L) (kt, km, kl) (pt, pm, pl) (nu, le, ow, fo, run, wc, lc, tr, cl, tm, ms) (yl, yc, yt, co, pa, su, sc) mc) ++ [(oa, .inl (cJ, 1, .inr (.inl (vp_updL yo 0 (zbl ((zst (nI a1) (nI a2))))))))]) (Bw := (zWM cI cJ cZ h2 0 (n, L) ((zcb kt pt), (zcb km pm), (zcb kl pl)) mc (run, wc, nu, lc, le, af, tr, ms, cl, tm) (co, yn, yh, pa))) hP
  have hD9 : va_D (zAb s.heap.size) ((zWM cI cJ cZ h2 0 (n, L) ((zcb kt pt), (zcb km pm), (zcb kl pl)) mc (run, wc, nu, lc, le, af, tr, ms, cl, tm) (co, yn, yh, pa)) ++ ((zWT cI cJ h (n, L) (kt, km, kl) (pt, pm, pl) (nu, le, ow, fo, run, wc, lc, tr, cl, tm, ms) (yl, yc, yt, co, pa, su, sc) mc) ++ [(oa, .inl (cJ, 1, .inr (.inl (vp_updL yo 0 (zbl ((zst (nI a1) (nI a2))))))))])) := zswapD (A := (zWT cI cJ h (n, L) (kt, km, kl) (pt, pm, pl) (nu, le, ow, fo, run, wc, lc, tr, cl, tm, ms) (yl, yc, yt, co, pa, su, sc) mc) ++ [(oa, .inl (cJ, 1, .inr (.inl (vp_updL yo 0 (zbl ((zst (nI a1) (nI a2))))))))]) (Bw := (zWM cI cJ cZ h2 0 (n, L) ((zcb kt pt), (zcb km pm), (zcb kl pl)) mc (run, wc, nu, lc, le, af, tr, ms, cl, tm) (co, yn, yh, pa))) hD
  refine zci (zrV (As := []) (rest := []) ⟨hx, hb, hml, hown, hts⟩ (zV 0 hP9 hD9 hK hE hB hS rfl rfl) (c_X5_thrown  ) (cwV 0 hts gL_law_X5_thrown rfl rfl rfl hdv_X5_thrown ⟨Nat.le_of_ble_eq_true rfl, Nat.le_of_ble_eq_true rfl⟩) rfl rfl hl.1 rfl (lv_room (Nat.le_of_ble_eq_true rfl)) dL_law_394 ⟨(show cc + 0 + 0 + 0 ≤ 601024 by omega), (show ss + 0 + 0 + 0 ≤ 7293034 by omega)⟩) hS (fun H locs hP hD hS => ?_)
  have hP : va_P D vwCl ((zWT cI cJ h (n, L) (kt, km, kl) (pt, pm, pl) (nu, le, ow, fo, run, wc, lc, tr, cl, tm, ms) (yl, yc, yt, co, pa, su, sc) mc) ++ ((oa, .inl (cJ, 1, .inr (.inl (vp_updL yo 0 (zbl ((zst (nI a1) (nI a2)))))))) :: (zWM cI cJ cZ h2 0 (n, L) ((zcb kt pt), (zcb km pm), (zcb kl pl)) mc (run, wc, nu, lc, le, af, tr, ms, cl, tm) (co, yn, yh, pa)))) H := zswapP (A := (zWM cI cJ cZ h2 0 (n, L) ((zcb kt pt), (zcb km pm), (zcb kl pl)) mc (run, wc, nu, lc, le, af, tr, ms, cl, tm) (co, yn, yh, pa))) (Bw := (zWT cI cJ h (n, L) (kt, km, kl) (pt, pm, pl) (nu, le, ow, fo, run, wc, lc, tr, cl, tm, ms) (yl, yc, yt, co, pa, su, sc) mc) ++ [(oa, .inl (cJ, 1, .inr (.inl (vp_updL yo 0 (zbl ((zst (nI a1) (nI a2))))))))]) hP
  have hD : va_D (zAb s.heap.size) ((zWT cI cJ h (n, L) (kt, km, kl) (pt, pm, pl) (nu, le, ow, fo, run, wc, lc, tr, cl, tm, ms) (yl, yc, yt, co, pa, su, sc) mc) ++ ((oa, .inl (cJ, 1, .inr (.inl (vp_updL yo 0 (zbl ((zst (nI a1) (nI a2)))))))) :: (zWM cI cJ cZ h2 0 (n, L) ((zcb kt pt), (zcb km pm), (zcb kl pl)) mc (run, wc, nu, lc, le, af, tr, ms, cl, tm) (co, yn, yh, pa)))) := zswapD (A := (zWM cI cJ cZ h2 0 (n, L) ((zcb kt pt), (zcb km pm), (zcb kl pl)) mc (run, wc, nu, lc, le, af, tr, ms, cl, tm) (co, yn, yh, pa))) (Bw := (zWT cI cJ h (n, L) (kt, km, kl) (pt, pm, pl) (nu, le, ow, fo, run, wc, lc, tr, cl, tm, ms) (yl, yc, yt, co, pa, su, sc) mc) ++ [(oa, .inl (cJ, 1, .inr (.inl (vp_updL yo 0 (zbl ((zst (nI a1) (nI a2))))))))]) hD
  refine lv_iload hx hb dL_law_397 (lv_at hl 1 rfl) ?_
  refine lv_icmp_eq (tgt := 404) hx hb dL_law_399 (by decide) (fun c_9 => ?_) (fun c_9 => ?_)
  · skip
    refine lv_iload hx hb dL_law_404 (lv_at hl 1 rfl) ?_
    refine lv_if_ne (tgt := 428) hx hb dL_law_406 (by decide) (fun c_10 => ?_) (fun c_10 => ?_)
    · skip
      exfalso; first | omega | (revert c_10; decide) | (exact absurd rfl c_10) | simp_all
    · skip
      refine lv_aload_n hx hb dL_law_409 rfl (lv_at hl 5 rfl) ?_
      refine lv_iconst (v := 0) hx hb dL_law_410 (by decide) ?_
      refine va_lald hx hb hK hP 21 1 rfl rfl (vp_in_nI (n := 0) (N := 1) (by omega) (by omega)) dL_law_411 ?_
      refine lv_topl (fun v_11 ev_11 => ?_)
      obtain rfl : (zbl ((zst (nI a1) (nI a2)))) = v_11 := (ev_11.trans (pk_uLs (f := yo) (k := 0) (x := (zbl ((zst (nI a1) (nI a2))))))).symm
      refine lv_iload hx hb dL_law_412 (lv_at hl 0 rfl) ?_
      refine lv_if_eq (tgt := 421) hx hb dL_law_414 (by decide) (fun c_12 => ?_) (fun c_12 => ?_)
      · skip
        have c_12 : (zst (nI a1) (nI a2)) = false := zb_0 c_12
        refine lv_lconst (v := 0) hx hb dL_law_421 (by decide) ?_
        refine W.lcmp hx hb dL_law_422 ?_
        refine lv_if_eq (tgt := 428) hx hb dL_law_423 (by decide) (fun c_13 => ?_) (fun c_13 => ?_)
        · skip
          have c_13 : (zbl ((zst (nI a1) (nI a2)))) = 0 := (lg_cmp_eq _ _).mp c_13
          refine lv_goto (tgt := 1191) hx hb dL_law_428 (by decide) ?_
          refine W.widen (k := cc + 2) (n := ss + 1542) (show cc + 0 + 0 + 0 ≤ cc + 2 by omega) (show ss + 0 + 0 + 0 ≤ ss + 1542 by omega) ?_
          exact kont h h2 oa (vp_updL yo 0 (zbl ((zst (nI a1) (nI a2))))) 0 n L kt km kl pt pm pl nu le ow fo run wc lc tr cl tm ms yl yc yt co pa su sc mc af yn yh (hI.mono) _ _ _ hP hD hS (lv_sub hl [2, 3, 4, 5, 6] rfl)
        · skip
          have c_13 : ¬ (zbl ((zst (nI a1) (nI a2)))) = 0 := fun hh => c_13 ((lg_cmp_eq _ _).mpr hh)
          exact absurd (by rw [c_12]; rfl) c_13
      · skip
        have c_12 : (zst (nI a1) (nI a2)) = true := zb_n c_12
        refine lv_lconst (v := 1) hx hb dL_law_417 (by decide) ?_
        refine lv_goto (tgt := 422) hx hb dL_law_418 (by decide) ?_
        refine W.lcmp hx hb dL_law_422 ?_
        refine lv_if_eq (tgt := 428) hx hb dL_law_423 (by decide) (fun c_14 => ?_) (fun c_14 => ?_)
        · skip
          have c_14 : (zbl ((zst (nI a1) (nI a2)))) = 1 := (lg_cmp_eq _ _).mp c_14
          refine lv_goto (tgt := 1191) hx hb dL_law_428 (by decide) ?_
          refine W.widen (k := cc + 2) (n := ss + 1542) (show cc + 0 + 0 + 0 ≤ cc + 2 by omega) (show ss + 0 + 0 + 0 ≤ ss + 1542 by omega) ?_
          exact kont h h2 oa (vp_updL yo 0 (zbl ((zst (nI a1) (nI a2))))) 0 n L kt km kl pt pm pl nu le ow fo run wc lc tr cl tm ms yl yc yt co pa su sc mc af yn yh (hI.mono) _ _ _ hP hD hS (lv_sub hl [2, 3, 4, 5, 6] rfl)
        · skip
          have c_14 : ¬ (zbl ((zst (nI a1) (nI a2)))) = 1 := fun hh => c_14 ((lg_cmp_eq _ _).mpr hh)
          exact absurd (by rw [c_12]; rfl) c_14
  · skip
    exfalso; first | omega | (revert c_9; decide) | (exact absurd rfl c_9) | simp_all

set_option maxHeartbeats 1000000 in
set_option maxRecDepth 100000 in
theorem law_areNeighbours_x {p : Program} {l : Launch} {e : Env} {s : State} {m : MethodId} {below : List Frame} {meth : Method} {c : Code} {b L9 : Nat} {xs : Nat → Int32} {D : va_G} {cI cJ cZ : ClassId} {kr kp j cc ss : Nat} {h h2 : Nat → Nat} {oa : Nat} {yo : Nat → Int64} {th : Int32} {n : Nat} {L : Nat → Int64} {kt : Nat → Int32} {km : Nat → Int32} {kl : Nat → Int32} {pt : Nat → Int32} {pm : Nat → Int32} {pl : Nat → Int32} {nu : Nat → Int32} {le : Nat → Int32} {ow : Nat → Int32} {fo : Nat → Int32} {run : Bool} {wc : Nat} {lc : Nat} {tr : Nat} {cl : Nat} {tm : Nat} {ms : Nat} {yl : Nat → Int32} {yc : Nat → Int32} {yt : Nat → Int32} {co : Nat} {pa : Int32} {su : Nat} {sc : Nat} {mc : Nat → Int32} {af : Nat → Int32} {yn : Nat} {yh : Nat → Int32} {a1 : Int32} {a2 : Int32} (C : zLw p l s m meth c b L9 xs D cI cJ cZ kr kp) (hj : 4 * j + 4 ≤ L9) (hcc : cc + 2 ≤ 601024) (hss : ss + 1542 ≤ 7293034) (kont : zKt p l e s m below meth c b D cI cJ cZ j cc ss) (hI : zInv j n L pt le ow af run wc lc tr cl tm ms yl yc yt co yn su sc yh) (ea1 : xs (4 * j + 1) = a1) (ea2 : xs (4 * j + 2) = a2) (h1 : ¬ ((¬ a1 < 0 ∧ ¬ 26 ≤ a1) ∧ (¬ a2 < 0 ∧ ¬ 26 ≤ a2))) {H : Heap} {locs : List Loc} {ls : Array Slot} (hP : va_P D vwCl ((zWT cI cJ h (n, L) (kt, km, kl) (pt, pm, pl) (nu, le, ow, fo, run, wc, lc, tr, cl, tm, ms) (yl, yc, yt, co, pa, su, sc) mc) ++ ((oa, .inl (cJ, 1, .inr (.inl yo))) :: (zWM cI cJ cZ h2 th (n, L) ((zcb kt pt), (zcb km pm), (zcb kl pl)) mc (run, wc, nu, lc, le, af, tr, ms, cl, tm) (co, yn, yh, pa)))) H) (hD : va_D (zAb s.heap.size) ((zWT cI cJ h (n, L) (kt, km, kl) (pt, pm, pl) (nu, le, ow, fo, run, wc, lc, tr, cl, tm, ms) (yl, yc, yt, co, pa, su, sc) mc) ++ ((oa, .inl (cJ, 1, .inr (.inl yo))) :: (zWM cI cJ cZ h2 th (n, L) ((zcb kt pt), (zcb km pm), (zcb kl pl)) mc (run, wc, nu, lc, le, af, tr, ms, cl, tm) (co, yn, yh, pa))))) (hS : va_S (zAb s.heap.size) s.heap H locs) (hl : lv_has ls 9 [(0, .ref b), (1, .ref (h 0)), (2, .ref (h2 0)), (3, .ref oa), (4, .int (nI (4 * j)))]) : W p l e room_1 s m #[Value.ref b] below meth c H locs cc ss (lw_Z below #[Value.ref b] s) (F0 m 356 ls []) := by
  obtain ⟨C0, hls, hK, hE, hL9⟩ := C
  obtain ⟨hx, hb, hr, hml, hown, hts0, hX, hbl, hlocks, hgv⟩ := C0
  have hts : ∀ w ∈ wsL_law, w.before #[Value.ref b] s = true := fun w h => hts0 w (wsL_law_in w h)
  have hbA : ¬ zAb s.heap.size b := Nat.not_le.mpr hbl
  have hB : s.heap.size ≤ s.heap.size := Nat.le_refl _
  have hn40 := hI.1.1
  have hzk := hI.1.2
  obtain ⟨hwc6, hlc48, htrl, hclt, hms1⟩ := hI.2.1
  have hrt := hI.2.2.1
  have hle := hI.2.2.2.1
  have hMk := hI.2.2.2.2.1
  have hct := hI.2.2.2.2.2.1
  have hHi := hI.2.2.2.2.2.2.1
  have hsu := hI.2.2.2.2.2.2.2.2.1
  have hj5 : j ≤ 511 := by omega
  have hco : co < 256 := by have := hct.1; omega
  have hco6 : co ≤ 256 := Nat.le_of_lt hco
  have hsl : su < 2147483648 := by have := hsu.2.2; omega
  have hpt := hI.hpt (Nat.le_succ_of_le hj5)
  refine lv_aload_n hx hb dL_law_356 rfl (lv_at hl 1 rfl) ?_
  refine lv_aload_n hx hb dL_law_357 rfl (lv_at hl 0 rfl) ?_
  refine lv_iload hx hb dL_law_358 (lv_at hl 4 rfl) ?_
  refine lv_iconst (v := 1) hx hb dL_law_360 (by decide) ?_
  refine lv_iadd hx hb dL_law_361 ?_
  refine lv_topi (fun v_1 ev_1 => ?_)
  obtain rfl : v_1 = (nI ((4 * j) + 1)) := ev_1.trans (nI_add (4 * j) 1)
  refine va_sld hx hb hX hbl hbA hS (vp_in_nI (n := ((4 * j) + 1)) (N := L9) (by omega) (by omega)) dL_law_362 ?_
  refine lv_topi (fun v_2 ev_2 => ?_)
  obtain rfl : a1 = v_2 := (ev_2.trans ((congrArg xs (nI_clamp (by omega))).trans ea1)).symm
  refine lv_aload_n hx hb dL_law_363 rfl (lv_at hl 0 rfl) ?_
  refine lv_iload hx hb dL_law_364 (lv_at hl 4 rfl) ?_
  refine lv_iconst (v := 2) hx hb dL_law_366 (by decide) ?_
  refine lv_iadd hx hb dL_law_367 ?_
  refine lv_topi (fun v_3 ev_3 => ?_)
  obtain rfl : v_3 = (nI ((4 * j) + 2)) := ev_3.trans (nI_add (4 * j) 2)
  refine va_sld hx hb hX hbl hbA hS (vp_in_nI (n := ((4 * j) + 2)) (N := L9) (by omega) (by omega)) dL_law_368 ?_
  refine lv_topi (fun v_4 ev_4 => ?_)
  obtain rfl : a2 = v_4 := (ev_4.trans ((congrArg xs (nI_clamp (by omega))).trans ea2)).symm
  refine lv_aload_n hx hb dL_law_369 rfl (lv_at hl 3 rfl) ?_
  refine zci (vx_runSW (As := [.ref (h 0), .int a1, .int a2, .ref oa]) (rest := []) ⟨hx, hb, hml, hown, hts⟩ (c_L_areNeighbours_x  hls (h1)) (vx_cwSW 4 hts gL_law_L_areNeighbours rfl rfl rfl hds_L_areNeighbours ⟨Nat.le_of_ble_eq_true rfl, Nat.le_of_ble_eq_true rfl⟩) (zS hP hD hK hE hB hS) rfl rfl hl.1 rfl (lv_room (Nat.le_of_ble_eq_true rfl)) dL_law_370 ⟨(show cc + 1 ≤ 601024 by omega), (show ss + 6 ≤ 7293034 by omega)⟩) hS (fun H locs hP hD hS => ?_)
  have hP : va_P D vwCl ((zWT cI cJ h (n, L) (kt, km, kl) (pt, pm, pl) (nu, le, ow, fo, run, wc, lc, tr, cl, tm, ms) (yl, yc, yt, co, pa, su, sc) mc) ++ ((oa, .inl (cJ, 1, .inr (.inl yo))) :: (zWM cI cJ cZ h2 th (n, L) ((zcb kt pt), (zcb km pm), (zcb kl pl)) mc (run, wc, nu, lc, le, af, tr, ms, cl, tm) (co, yn, yh, pa)))) H := hP
  have hD : va_D (zAb s.heap.size) ((zWT cI cJ h (n, L) (kt, km, kl) (pt, pm, pl) (nu, le, ow, fo, run, wc, lc, tr, cl, tm, ms) (yl, yc, yt, co, pa, su, sc) mc) ++ ((oa, .inl (cJ, 1, .inr (.inl yo))) :: (zWM cI cJ cZ h2 th (n, L) ((zcb kt pt), (zcb km pm), (zcb kl pl)) mc (run, wc, nu, lc, le, af, tr, ms, cl, tm) (co, yn, yh, pa)))) := hD
  refine lv_istore (lv' := [(5, .int 1), (0, .ref b), (1, .ref (h 0)), (2, .ref (h2 0)), (3, .ref oa), (4, .int (nI (4 * j)))]) hx hb dL_law_373 hl (by decide) rfl (fun ls hl => ?_)
  refine lv_aload_n hx hb dL_law_375 rfl (lv_at hl 3 rfl) ?_
  refine lv_aload_n hx hb dL_law_376 rfl (lv_at hl 1 rfl) ?_
  refine lv_iload hx hb dL_law_377 (lv_at hl 5 rfl) ?_
  refine lv_iconst (v := 1) hx hb dL_law_379 (by decide) ?_
  refine lv_iadd hx hb dL_law_380 ?_
  refine lv_topi (fun v_5 ev_5 => ?_)
  obtain rfl : v_5 = (nI ((4 * j) + 1)) := ev_5.trans (nI_add (4 * j) 1)
  refine va_sld hx hb hX hbl hbA hS (vp_in_nI (n := ((4 * j) + 1)) (N := L9) (by omega) (by omega)) dL_law_381 ?_
  refine lv_topi (fun v_6 ev_6 => ?_)
  obtain rfl : a1 = v_6 := (ev_6.trans ((congrArg xs (nI_clamp (by omega))).trans ea1)).symm
  refine lv_aload_n hx hb dL_law_382 rfl (lv_at hl 1 rfl) ?_
  refine lv_iload hx hb dL_law_383 (lv_at hl 5 rfl) ?_
  refine lv_iconst (v := 2) hx hb dL_law_385 (by decide) ?_
  refine lv_iadd hx hb dL_law_386 ?_
  refine lv_topi (fun v_7 ev_7 => ?_)
  obtain rfl : v_7 = (nI ((4 * j) + 2)) := ev_7.trans (nI_add (4 * j) 2)
  refine va_sld hx hb hX hbl hbA hS (vp_in_nI (n := ((4 * j) + 2)) (N := L9) (by omega) (by omega)) dL_law_387 ?_
  refine lv_topi (fun v_8 ev_8 => ?_)
  obtain rfl : a2 = v_8 := (ev_8.trans ((congrArg xs (nI_clamp (by omega))).trans ea2)).symm
  have hP9 : va_P D vwCl ((zWM cI cJ cZ h2 th (n, L) ((zcb kt pt), (zcb km pm), (zcb kl pl)) mc (run, wc, nu, lc, le, af, tr, ms, cl, tm) (co, yn, yh, pa)) ++ ((zWT cI cJ h (n, L) (kt, km, kl) (pt, pm, pl) (nu, le, ow, fo, run, wc, lc, tr, cl, tm, ms) (yl, yc, yt, co, pa, su, sc) mc) ++ [(oa, .inl (cJ, 1, .inr (.inl yo)))])) H := zswapP (A := (zWT cI cJ h (n, L) (kt, km, kl) (pt, pm, pl) (nu, le, ow, fo, run, wc, lc, tr, cl, tm, ms) (yl, yc, yt, co, pa, su, sc) mc) ++ [(oa, .inl (cJ, 1, .inr (.inl yo)))]) (Bw := (zWM cI cJ cZ h2 th (n, L) ((zcb kt pt), (zcb km pm), (zcb kl pl)) mc (run, wc, nu, lc, le, af, tr, ms, cl, tm) (co, yn, yh, pa))) hP
  have hD9 : va_D (zAb s.heap.size) ((zWM cI cJ cZ h2 th (n, L) ((zcb kt pt), (zcb km pm), (zcb kl pl)) mc (run, wc, nu, lc, le, af, tr, ms, cl, tm) (co, yn, yh, pa)) ++ ((zWT cI cJ h (n, L) (kt, km, kl) (pt, pm, pl) (nu, le, ow, fo, run, wc, lc, tr, cl, tm, ms) (yl, yc, yt, co, pa, su, sc) mc) ++ [(oa, .inl (cJ, 1, .inr (.inl yo)))])) := zswapD (A := (zWT cI cJ h (n, L) (kt, km, kl) (pt, pm, pl) (nu, le, ow, fo, run, wc, lc, tr, cl, tm, ms) (yl, yc, yt, co, pa, su, sc) mc) ++ [(oa, .inl (cJ, 1, .inr (.inl yo)))]) (Bw := (zWM cI cJ cZ h2 th (n, L) ((zcb kt pt), (zcb km pm), (zcb kl pl)) mc (run, wc, nu, lc, le, af, tr, ms, cl, tm) (co, yn, yh, pa))) hD
  refine zci (zrV (As := [.int a1, .int a2]) (rest := []) ⟨hx, hb, hml, hown, hts⟩ (zV 0 hP9 hD9 hK hE hB hS rfl rfl) (c_X5_areNeighbours_x  (h1)) (cwV 2 hts gL_law_X5_areNeighbours rfl rfl rfl hdv_X5_areNeighbours ⟨Nat.le_of_ble_eq_true rfl, Nat.le_of_ble_eq_true rfl⟩) rfl rfl hl.1 rfl (lv_room (Nat.le_of_ble_eq_true rfl)) dL_law_388 ⟨(show cc + 1 + 0 ≤ 601024 by omega), (show ss + 6 + 0 ≤ 7293034 by omega)⟩) hS (fun H locs hP hD hS => ?_)
  have hP : va_P D vwCl ((zWT cI cJ h (n, L) (kt, km, kl) (pt, pm, pl) (nu, le, ow, fo, run, wc, lc, tr, cl, tm, ms) (yl, yc, yt, co, pa, su, sc) mc) ++ ((oa, .inl (cJ, 1, .inr (.inl yo))) :: (zWM cI cJ cZ h2 1 (n, L) ((zcb kt pt), (zcb km pm), (zcb kl pl)) mc (run, wc, nu, lc, le, af, tr, ms, cl, tm) (co, yn, yh, pa)))) H := zswapP (A := (zWM cI cJ cZ h2 1 (n, L) ((zcb kt pt), (zcb km pm), (zcb kl pl)) mc (run, wc, nu, lc, le, af, tr, ms, cl, tm) (co, yn, yh, pa))) (Bw := (zWT cI cJ h (n, L) (kt, km, kl) (pt, pm, pl) (nu, le, ow, fo, run, wc, lc, tr, cl, tm, ms) (yl, yc, yt, co, pa, su, sc) mc) ++ [(oa, .inl (cJ, 1, .inr (.inl yo)))]) hP
  have hD : va_D (zAb s.heap.size) ((zWT cI cJ h (n, L) (kt, km, kl) (pt, pm, pl) (nu, le, ow, fo, run, wc, lc, tr, cl, tm, ms) (yl, yc, yt, co, pa, su, sc) mc) ++ ((oa, .inl (cJ, 1, .inr (.inl yo))) :: (zWM cI cJ cZ h2 1 (n, L) ((zcb kt pt), (zcb km pm), (zcb kl pl)) mc (run, wc, nu, lc, le, af, tr, ms, cl, tm) (co, yn, yh, pa)))) := zswapD (A := (zWM cI cJ cZ h2 1 (n, L) ((zcb kt pt), (zcb km pm), (zcb kl pl)) mc (run, wc, nu, lc, le, af, tr, ms, cl, tm) (co, yn, yh, pa))) (Bw := (zWT cI cJ h (n, L) (kt, km, kl) (pt, pm, pl) (nu, le, ow, fo, run, wc, lc, tr, cl, tm, ms) (yl, yc, yt, co, pa, su, sc) mc) ++ [(oa, .inl (cJ, 1, .inr (.inl yo)))]) hD
  refine lv_istore (lv' := [(6, .int 0), (5, .int 1), (0, .ref b), (1, .ref (h 0)), (2, .ref (h2 0)), (3, .ref oa), (4, .int (nI (4 * j)))]) hx hb dL_law_391 hl (by decide) rfl (fun ls hl => ?_)
  refine lv_aload_n hx hb dL_law_393 rfl (lv_at hl 4 rfl) ?_
  have hP9 : va_P D vwCl ((zWM cI cJ cZ h2 1 (n, L) ((zcb kt pt), (zcb km pm), (zcb kl pl)) mc (run, wc, nu, lc, le, af, tr, ms, cl, tm) (co, yn, yh, pa)) ++ ((zWT cI cJ h (n, L) (kt, km, kl) (pt, pm, pl) (nu, le, ow, fo, run, wc, lc, tr, cl, tm, ms) (yl, yc, yt, co, pa, su, sc) mc) ++ [(oa, .inl (cJ, 1, .inr (.inl yo)))])) H := zswapP (A := (zWT cI cJ h (n, L) (kt, km, kl) (pt, pm, pl) (nu, le, ow, fo, run, wc, lc, tr, cl, tm, ms) (yl, yc, yt, co, pa, su, sc) mc) ++ [(oa, .inl (cJ, 1, .inr (.inl yo)))]) (Bw := (zWM cI cJ cZ h2 1 (n, L) ((zcb kt pt), (zcb km pm), (zcb kl pl)) mc (run, wc, nu, lc, le, af, tr, ms, cl, tm) (co, yn, yh, pa))) hP
  have hD9 : va_D (zAb s.heap.size) ((zWM cI cJ cZ h2 1 (n, L) ((zcb kt pt), (zcb km pm), (zcb kl pl)) mc (run, wc, nu, lc, le, af, tr, ms, cl, tm) (co, yn, yh, pa)) ++ ((zWT cI cJ h (n, L) (kt, km, kl) (pt, pm, pl) (nu, le, ow, fo, run, wc, lc, tr, cl, tm, ms) (yl, yc, yt, co, pa, su, sc) mc) ++ [(oa, .inl (cJ, 1, .inr (.inl yo)))])) := zswapD (A := (zWT cI cJ h (n, L) (kt, km, kl) (pt, pm, pl) (nu, le, ow, fo, run, wc, lc, tr, cl, tm, ms) (yl, yc, yt, co, pa, su, sc) mc) ++ [(oa, .inl (cJ, 1, .inr (.inl yo)))]) (Bw := (zWM cI cJ cZ h2 1 (n, L) ((zcb kt pt), (zcb km pm), (zcb kl pl)) mc (run, wc, nu, lc, le, af, tr, ms, cl, tm) (co, yn, yh, pa))) hD
  refine zci (zrV (As := []) (rest := []) ⟨hx, hb, hml, hown, hts⟩ (zV 0 hP9 hD9 hK hE hB hS rfl rfl) (c_X5_thrown  ) (cwV 0 hts gL_law_X5_thrown rfl rfl rfl hdv_X5_thrown ⟨Nat.le_of_ble_eq_true rfl, Nat.le_of_ble_eq_true rfl⟩) rfl rfl hl.1 rfl (lv_room (Nat.le_of_ble_eq_true rfl)) dL_law_394 ⟨(show cc + 1 + 0 + 0 ≤ 601024 by omega), (show ss + 6 + 0 + 0 ≤ 7293034 by omega)⟩) hS (fun H locs hP hD hS => ?_)
  have hP : va_P D vwCl ((zWT cI cJ h (n, L) (kt, km, kl) (pt, pm, pl) (nu, le, ow, fo, run, wc, lc, tr, cl, tm, ms) (yl, yc, yt, co, pa, su, sc) mc) ++ ((oa, .inl (cJ, 1, .inr (.inl yo))) :: (zWM cI cJ cZ h2 1 (n, L) ((zcb kt pt), (zcb km pm), (zcb kl pl)) mc (run, wc, nu, lc, le, af, tr, ms, cl, tm) (co, yn, yh, pa)))) H := zswapP (A := (zWM cI cJ cZ h2 1 (n, L) ((zcb kt pt), (zcb km pm), (zcb kl pl)) mc (run, wc, nu, lc, le, af, tr, ms, cl, tm) (co, yn, yh, pa))) (Bw := (zWT cI cJ h (n, L) (kt, km, kl) (pt, pm, pl) (nu, le, ow, fo, run, wc, lc, tr, cl, tm, ms) (yl, yc, yt, co, pa, su, sc) mc) ++ [(oa, .inl (cJ, 1, .inr (.inl yo)))]) hP
  have hD : va_D (zAb s.heap.size) ((zWT cI cJ h (n, L) (kt, km, kl) (pt, pm, pl) (nu, le, ow, fo, run, wc, lc, tr, cl, tm, ms) (yl, yc, yt, co, pa, su, sc) mc) ++ ((oa, .inl (cJ, 1, .inr (.inl yo))) :: (zWM cI cJ cZ h2 1 (n, L) ((zcb kt pt), (zcb km pm), (zcb kl pl)) mc (run, wc, nu, lc, le, af, tr, ms, cl, tm) (co, yn, yh, pa)))) := zswapD (A := (zWM cI cJ cZ h2 1 (n, L) ((zcb kt pt), (zcb km pm), (zcb kl pl)) mc (run, wc, nu, lc, le, af, tr, ms, cl, tm) (co, yn, yh, pa))) (Bw := (zWT cI cJ h (n, L) (kt, km, kl) (pt, pm, pl) (nu, le, ow, fo, run, wc, lc, tr, cl, tm, ms) (yl, yc, yt, co, pa, su, sc) mc) ++ [(oa, .inl (cJ, 1, .inr (.inl yo)))]) hD
  refine lv_iload hx hb dL_law_397 (lv_at hl 1 rfl) ?_
  refine lv_icmp_eq (tgt := 404) hx hb dL_law_399 (by decide) (fun c_9 => ?_) (fun c_9 => ?_)
  · skip
    refine lv_iload hx hb dL_law_404 (lv_at hl 1 rfl) ?_
    refine lv_if_ne (tgt := 428) hx hb dL_law_406 (by decide) (fun c_10 => ?_) (fun c_10 => ?_)
    · skip
      refine lv_goto (tgt := 1191) hx hb dL_law_428 (by decide) ?_
      refine W.widen (k := cc + 2) (n := ss + 1542) (show cc + 1 + 0 + 0 ≤ cc + 2 by omega) (show ss + 6 + 0 + 0 ≤ ss + 1542 by omega) ?_
      exact kont h h2 oa yo 1 n L kt km kl pt pm pl nu le ow fo run wc lc tr cl tm ms yl yc yt co pa su sc mc af yn yh (hI.mono) _ _ _ hP hD hS (lv_sub hl [2, 3, 4, 5, 6] rfl)
    · skip
      exfalso; first | omega | (revert c_10; decide) | (exact absurd rfl c_10) | simp_all
  · skip
    exfalso; first | omega | (revert c_9; decide) | (exact absurd rfl c_9) | simp_all

set_option maxHeartbeats 1000000 in
set_option maxRecDepth 100000 in
theorem law_opn {p : Program} {l : Launch} {e : Env} {s : State} {m : MethodId} {below : List Frame} {meth : Method} {c : Code} {b L9 : Nat} {xs : Nat → Int32} {D : va_G} {cI cJ cZ : ClassId} {kr kp j cc ss : Nat} {h h2 : Nat → Nat} {oa : Nat} {yo : Nat → Int64} {th : Int32} {n : Nat} {L : Nat → Int64} {kt : Nat → Int32} {km : Nat → Int32} {kl : Nat → Int32} {pt : Nat → Int32} {pm : Nat → Int32} {pl : Nat → Int32} {nu : Nat → Int32} {le : Nat → Int32} {ow : Nat → Int32} {fo : Nat → Int32} {run : Bool} {wc : Nat} {lc : Nat} {tr : Nat} {cl : Nat} {tm : Nat} {ms : Nat} {yl : Nat → Int32} {yc : Nat → Int32} {yt : Nat → Int32} {co : Nat} {pa : Int32} {su : Nat} {sc : Nat} {mc : Nat → Int32} {af : Nat → Int32} {yn : Nat} {yh : Nat → Int32} {k : Nat} (C : zLw p l s m meth c b L9 xs D cI cJ cZ kr kp) (hj : 4 * j + 4 ≤ L9) (hcc : cc + 2 ≤ 601024) (hss : ss + 1542 ≤ 7293034) (kont : zKt p l e s m below meth c b D cI cJ cZ j cc ss) (hI : zInv j n L pt le ow af false wc lc tr cl tm ms yl yc yt co yn su sc yh) (ea1 : xs (4 * j + 1) = nI k) (hw1 : 1 ≤ k) (hw6 : k ≤ 6) (hn0 : 0 < n) {H : Heap} {locs : List Loc} {ls : Array Slot} (hP : va_P D vwCl ((zWT cI cJ h (n, L) (kt, km, kl) (pt, pm, pl) (nu, le, ow, fo, false, wc, lc, tr, cl, tm, ms) (yl, yc, yt, co, pa, su, sc) mc) ++ ((oa, .inl (cJ, 1, .inr (.inl yo))) :: (zWM cI cJ cZ h2 th (n, L) ((zcb kt pt), (zcb km pm), (zcb kl pl)) mc (false, wc, nu, lc, le, af, tr, ms, cl, tm) (co, yn, yh, pa)))) H) (hD : va_D (zAb s.heap.size) ((zWT cI cJ h (n, L) (kt, km, kl) (pt, pm, pl) (nu, le, ow, fo, false, wc, lc, tr, cl, tm, ms) (yl, yc, yt, co, pa, su, sc) mc) ++ ((oa, .inl (cJ, 1, .inr (.inl yo))) :: (zWM cI cJ cZ h2 th (n, L) ((zcb kt pt), (zcb km pm), (zcb kl pl)) mc (false, wc, nu, lc, le, af, tr, ms, cl, tm) (co, yn, yh, pa))))) (hS : va_S (zAb s.heap.size) s.heap H locs) (hl : lv_has ls 9 [(0, .ref b), (1, .ref (h 0)), (2, .ref (h2 0)), (3, .ref oa), (4, .int (nI (4 * j)))]) : W p l e room_1 s m #[Value.ref b] below meth c H locs cc ss (lw_Z below #[Value.ref b] s) (F0 m 431 ls []) := by
  obtain ⟨C0, hls, hK, hE, hL9⟩ := C
  obtain ⟨hx, hb, hr, hml, hown, hts0, hX, hbl, hlocks, hgv⟩ := C0
  have hts : ∀ w ∈ wsL_law, w.before #[Value.ref b] s = true := fun w h => hts0 w (wsL_law_in w h)
  have hbA : ¬ zAb s.heap.size b := Nat.not_le.mpr hbl
  have hB : s.heap.size ≤ s.heap.size := Nat.le_refl _
  have hn40 := hI.1.1
  have hzk := hI.1.2
  obtain ⟨hwc6, hlc48, htrl, hclt, hms1⟩ := hI.2.1
  have hrt := hI.2.2.1
  have hle := hI.2.2.2.1
  have hMk := hI.2.2.2.2.1
  have hct := hI.2.2.2.2.2.1
  have hHi := hI.2.2.2.2.2.2.1
  have hsu := hI.2.2.2.2.2.2.2.2.1
  have hj5 : j ≤ 511 := by omega
  have hco : co < 256 := by have := hct.1; omega
  have hco6 : co ≤ 256 := Nat.le_of_lt hco
  have hsl : su < 2147483648 := by have := hsu.2.2; omega
  have hpt := hI.hpt (Nat.le_succ_of_le hj5)
  have hR9 : (zoT L n kl pt pl (nu, le, ow, zfil 26 0 fo, 0, 0) k).2.2.2.2.1 ≤ 6 ∧ 0 < (zoT L n kl pt pl (nu, le, ow, zfil 26 0 fo, 0, 0) k).2.2.2.2.1 := zopn_n hn40 hzk hw1 hw6 hn0
  refine lv_aload_n hx hb dL_law_431 rfl (lv_at hl 1 rfl) ?_
  refine lv_aload_n hx hb dL_law_432 rfl (lv_at hl 0 rfl) ?_
  refine lv_iload hx hb dL_law_433 (lv_at hl 4 rfl) ?_
  refine lv_iconst (v := 1) hx hb dL_law_435 (by decide) ?_
  refine lv_iadd hx hb dL_law_436 ?_
  refine lv_topi (fun v_1 ev_1 => ?_)
  obtain rfl : v_1 = (nI ((4 * j) + 1)) := ev_1.trans (nI_add (4 * j) 1)
  refine va_sld hx hb hX hbl hbA hS (vp_in_nI (n := ((4 * j) + 1)) (N := L9) (by omega) (by omega)) dL_law_437 ?_
  refine lv_topi (fun v_2 ev_2 => ?_)
  obtain rfl : (nI k) = v_2 := (ev_2.trans ((congrArg xs (nI_clamp (by omega))).trans ea1)).symm
  refine lv_aload_n hx hb dL_law_438 rfl (lv_at hl 3 rfl) ?_
  refine zci (vx_runSW (As := [.ref (h 0), .int (nI k), .ref oa]) (rest := []) ⟨hx, hb, hml, hown, hts⟩ (c_L_open (words := k) (hw1) (hw6) (rfl) (hn0) (hn40) (fun q hq => zok_pos (hzk q hq))) (vx_cwSW 3 hts gL_law_L_open rfl rfl rfl hds_L_open ⟨Nat.le_of_ble_eq_true rfl, Nat.le_of_ble_eq_true rfl⟩) (zS hP hD hK hE hB hS) rfl rfl hl.1 rfl (lv_room (Nat.le_of_ble_eq_true rfl)) dL_law_439 ⟨(show cc + 0 ≤ 601024 by omega), (show ss + 0 ≤ 7293034 by omega)⟩) hS (fun H locs hP hD hS => ?_)
  have hP : va_P D vwCl ((zWT cI cJ h (n, L) (kt, km, kl) (pt, pm, pl) (((zoT L n kl pt pl (nu, le, ow, zfil 26 0 fo, 0, 0) k).1), ((zoT L n kl pt pl (nu, le, ow, zfil 26 0 fo, 0, 0) k).2.1), ((zoT L n kl pt pl (nu, le, ow, zfil 26 0 fo, 0, 0) k).2.2.1), ((zoT L n kl pt pl (nu, le, ow, zfil 26 0 fo, 0, 0) k).2.2.2.1), true, ((zoT L n kl pt pl (nu, le, ow, zfil 26 0 fo, 0, 0) k).2.2.2.2.1), ((zoT L n kl pt pl (nu, le, ow, zfil 26 0 fo, 0, 0) k).2.2.2.2.2), 0, 0, 0, 0) (yl, yc, yt, co, pa, su, sc) mc) ++ ((oa, .inl (cJ, 1, .inr (.inl (vp_updL yo 0 (((nI ((zoT L n kl pt pl (nu, le, ow, zfil 26 0 fo, 0, 0) k).2.2.2.2.1))).toInt64))))) :: (zWM cI cJ cZ h2 th (n, L) ((zcb kt pt), (zcb km pm), (zcb kl pl)) mc (false, wc, nu, lc, le, af, tr, ms, cl, tm) (co, yn, yh, pa)))) H := hP
  have hD : va_D (zAb s.heap.size) ((zWT cI cJ h (n, L) (kt, km, kl) (pt, pm, pl) (((zoT L n kl pt pl (nu, le, ow, zfil 26 0 fo, 0, 0) k).1), ((zoT L n kl pt pl (nu, le, ow, zfil 26 0 fo, 0, 0) k).2.1), ((zoT L n kl pt pl (nu, le, ow, zfil 26 0 fo, 0, 0) k).2.2.1), ((zoT L n kl pt pl (nu, le, ow, zfil 26 0 fo, 0, 0) k).2.2.2.1), true, ((zoT L n kl pt pl (nu, le, ow, zfil 26 0 fo, 0, 0) k).2.2.2.2.1), ((zoT L n kl pt pl (nu, le, ow, zfil 26 0 fo, 0, 0) k).2.2.2.2.2), 0, 0, 0, 0) (yl, yc, yt, co, pa, su, sc) mc) ++ ((oa, .inl (cJ, 1, .inr (.inl (vp_updL yo 0 (((nI ((zoT L n kl pt pl (nu, le, ow, zfil 26 0 fo, 0, 0) k).2.2.2.2.1))).toInt64))))) :: (zWM cI cJ cZ h2 th (n, L) ((zcb kt pt), (zcb km pm), (zcb kl pl)) mc (false, wc, nu, lc, le, af, tr, ms, cl, tm) (co, yn, yh, pa)))) := hD
  refine lv_istore (lv' := [(5, .int 0), (0, .ref b), (1, .ref (h 0)), (2, .ref (h2 0)), (3, .ref oa), (4, .int (nI (4 * j)))]) hx hb dL_law_442 hl (by decide) rfl (fun ls hl => ?_)
  refine lv_aload_n hx hb dL_law_444 rfl (lv_at hl 3 rfl) ?_
  refine lv_aload_n hx hb dL_law_445 rfl (lv_at hl 1 rfl) ?_
  refine lv_iload hx hb dL_law_446 (lv_at hl 5 rfl) ?_
  refine lv_iconst (v := 1) hx hb dL_law_448 (by decide) ?_
  refine lv_iadd hx hb dL_law_449 ?_
  refine lv_topi (fun v_3 ev_3 => ?_)
  obtain rfl : v_3 = (nI ((4 * j) + 1)) := ev_3.trans (nI_add (4 * j) 1)
  refine va_sld hx hb hX hbl hbA hS (vp_in_nI (n := ((4 * j) + 1)) (N := L9) (by omega) (by omega)) dL_law_450 ?_
  refine lv_topi (fun v_4 ev_4 => ?_)
  obtain rfl : (nI k) = v_4 := (ev_4.trans ((congrArg xs (nI_clamp (by omega))).trans ea1)).symm
  have hP9 : va_P D vwCl ((zWM cI cJ cZ h2 th (n, L) ((zcb kt pt), (zcb km pm), (zcb kl pl)) mc (false, wc, nu, lc, le, af, tr, ms, cl, tm) (co, yn, yh, pa)) ++ ((zWT cI cJ h (n, L) (kt, km, kl) (pt, pm, pl) (((zoT L n kl pt pl (nu, le, ow, zfil 26 0 fo, 0, 0) k).1), ((zoT L n kl pt pl (nu, le, ow, zfil 26 0 fo, 0, 0) k).2.1), ((zoT L n kl pt pl (nu, le, ow, zfil 26 0 fo, 0, 0) k).2.2.1), ((zoT L n kl pt pl (nu, le, ow, zfil 26 0 fo, 0, 0) k).2.2.2.1), true, ((zoT L n kl pt pl (nu, le, ow, zfil 26 0 fo, 0, 0) k).2.2.2.2.1), ((zoT L n kl pt pl (nu, le, ow, zfil 26 0 fo, 0, 0) k).2.2.2.2.2), 0, 0, 0, 0) (yl, yc, yt, co, pa, su, sc) mc) ++ [(oa, .inl (cJ, 1, .inr (.inl (vp_updL yo 0 (((nI ((zoT L n kl pt pl (nu, le, ow, zfil 26 0 fo, 0, 0) k).2.2.2.2.1))).toInt64)))))])) H := zswapP (A := (zWT cI cJ h (n, L) (kt, km, kl) (pt, pm, pl) (((zoT L n kl pt pl (nu, le, ow, zfil 26 0 fo, 0, 0) k).1), ((zoT L n kl pt pl (nu, le, ow, zfil 26 0 fo, 0, 0) k).2.1), ((zoT L n kl pt pl (nu, le, ow, zfil 26 0 fo, 0, 0) k).2.2.1), ((zoT L n kl pt pl (nu, le, ow, zfil 26 0 fo, 0, 0) k).2.2.2.1), true, ((zoT L n kl pt pl (nu, le, ow, zfil 26 0 fo, 0, 0) k).2.2.2.2.1), ((zoT L n kl pt pl (nu, le, ow, zfil 26 0 fo, 0, 0) k).2.2.2.2.2), 0, 0, 0, 0) (yl, yc, yt, co, pa, su, sc) mc) ++ [(oa, .inl (cJ, 1, .inr (.inl (vp_updL yo 0 (((nI ((zoT L n kl pt pl (nu, le, ow, zfil 26 0 fo, 0, 0) k).2.2.2.2.1))).toInt64)))))]) (Bw := (zWM cI cJ cZ h2 th (n, L) ((zcb kt pt), (zcb km pm), (zcb kl pl)) mc (false, wc, nu, lc, le, af, tr, ms, cl, tm) (co, yn, yh, pa))) hP
  have hD9 : va_D (zAb s.heap.size) ((zWM cI cJ cZ h2 th (n, L) ((zcb kt pt), (zcb km pm), (zcb kl pl)) mc (false, wc, nu, lc, le, af, tr, ms, cl, tm) (co, yn, yh, pa)) ++ ((zWT cI cJ h (n, L) (kt, km, kl) (pt, pm, pl) (((zoT L n kl pt pl (nu, le, ow, zfil 26 0 fo, 0, 0) k).1), ((zoT L n kl pt pl (nu, le, ow, zfil 26 0 fo, 0, 0) k).2.1), ((zoT L n kl pt pl (nu, le, ow, zfil 26 0 fo, 0, 0) k).2.2.1), ((zoT L n kl pt pl (nu, le, ow, zfil 26 0 fo, 0, 0) k).2.2.2.1), true, ((zoT L n kl pt pl (nu, le, ow, zfil 26 0 fo, 0, 0) k).2.2.2.2.1), ((zoT L n kl pt pl (nu, le, ow, zfil 26 0 fo, 0, 0) k).2.2.2.2.2), 0, 0, 0, 0) (yl, yc, yt, co, pa, su, sc) mc) ++ [(oa, .inl (cJ, 1, .inr (.inl (vp_updL yo 0 (((nI ((zoT L n kl pt pl (nu, le, ow, zfil 26 0 fo, 0, 0) k).2.2.2.2.1))).toInt64)))))])) := zswapD (A := (zWT cI cJ h (n, L) (kt, km, kl) (pt, pm, pl) (((zoT L n kl pt pl (nu, le, ow, zfil 26 0 fo, 0, 0) k).1), ((zoT L n kl pt pl (nu, le, ow, zfil 26 0 fo, 0, 0) k).2.1), ((zoT L n kl pt pl (nu, le, ow, zfil 26 0 fo, 0, 0) k).2.2.1), ((zoT L n kl pt pl (nu, le, ow, zfil 26 0 fo, 0, 0) k).2.2.2.1), true, ((zoT L n kl pt pl (nu, le, ow, zfil 26 0 fo, 0, 0) k).2.2.2.2.1), ((zoT L n kl pt pl (nu, le, ow, zfil 26 0 fo, 0, 0) k).2.2.2.2.2), 0, 0, 0, 0) (yl, yc, yt, co, pa, su, sc) mc) ++ [(oa, .inl (cJ, 1, .inr (.inl (vp_updL yo 0 (((nI ((zoT L n kl pt pl (nu, le, ow, zfil 26 0 fo, 0, 0) k).2.2.2.2.1))).toInt64)))))]) (Bw := (zWM cI cJ cZ h2 th (n, L) ((zcb kt pt), (zcb km pm), (zcb kl pl)) mc (false, wc, nu, lc, le, af, tr, ms, cl, tm) (co, yn, yh, pa))) hD
  refine zci (zrV (As := [.int (nI k)]) (rest := []) ⟨hx, hb, hml, hown, hts⟩ (zV 0 hP9 hD9 hK hE hB hS rfl rfl) (c_X5_open_t (words := k) (ow := ow) (fo := fo) (hw1) (hw6) (rfl) (hn0) (hn40) (hzk)) (cwV 1 hts gL_law_X5_open rfl rfl rfl hdv_X5_open ⟨Nat.le_of_ble_eq_true rfl, Nat.le_of_ble_eq_true rfl⟩) rfl rfl hl.1 rfl (lv_room (Nat.le_of_ble_eq_true rfl)) dL_law_451 ⟨(show cc + 0 + 0 ≤ 601024 by omega), (show ss + 0 + 0 ≤ 7293034 by omega)⟩) hS (fun H locs hP hD hS => ?_)
  have hP : va_P D vwCl ((zWT cI cJ h (n, L) (kt, km, kl) (pt, pm, pl) (((zoT L n kl pt pl (nu, le, ow, zfil 26 0 fo, 0, 0) k).1), ((zoT L n kl pt pl (nu, le, ow, zfil 26 0 fo, 0, 0) k).2.1), ((zoT L n kl pt pl (nu, le, ow, zfil 26 0 fo, 0, 0) k).2.2.1), ((zoT L n kl pt pl (nu, le, ow, zfil 26 0 fo, 0, 0) k).2.2.2.1), true, ((zoT L n kl pt pl (nu, le, ow, zfil 26 0 fo, 0, 0) k).2.2.2.2.1), ((zoT L n kl pt pl (nu, le, ow, zfil 26 0 fo, 0, 0) k).2.2.2.2.2), 0, 0, 0, 0) (yl, yc, yt, co, pa, su, sc) mc) ++ ((oa, .inl (cJ, 1, .inr (.inl (vp_updL yo 0 (((nI ((zoT L n kl pt pl (nu, le, ow, zfil 26 0 fo, 0, 0) k).2.2.2.2.1))).toInt64))))) :: (zWM cI cJ cZ h2 0 (n, L) ((zcb kt pt), (zcb km pm), (zcb kl pl)) mc (true, ((zoT L n kl pt pl (nu, le, ow, zfil 26 0 fo, 0, 0) k).2.2.2.2.1), ((zoT L n kl pt pl (nu, le, ow, zfil 26 0 fo, 0, 0) k).1), ((zoT L n kl pt pl (nu, le, ow, zfil 26 0 fo, 0, 0) k).2.2.2.2.2), ((zoT L n kl pt pl (nu, le, ow, zfil 26 0 fo, 0, 0) k).2.1), ((zoM L n kl pt pl (nu, le, af, 0, 0) k).2.2.1), 0, 0, 0, 0) (co, yn, yh, pa)))) H := zswapP (A := (zWM cI cJ cZ h2 0 (n, L) ((zcb kt pt), (zcb km pm), (zcb kl pl)) mc (true, ((zoT L n kl pt pl (nu, le, ow, zfil 26 0 fo, 0, 0) k).2.2.2.2.1), ((zoT L n kl pt pl (nu, le, ow, zfil 26 0 fo, 0, 0) k).1), ((zoT L n kl pt pl (nu, le, ow, zfil 26 0 fo, 0, 0) k).2.2.2.2.2), ((zoT L n kl pt pl (nu, le, ow, zfil 26 0 fo, 0, 0) k).2.1), ((zoM L n kl pt pl (nu, le, af, 0, 0) k).2.2.1), 0, 0, 0, 0) (co, yn, yh, pa))) (Bw := (zWT cI cJ h (n, L) (kt, km, kl) (pt, pm, pl) (((zoT L n kl pt pl (nu, le, ow, zfil 26 0 fo, 0, 0) k).1), ((zoT L n kl pt pl (nu, le, ow, zfil 26 0 fo, 0, 0) k).2.1), ((zoT L n kl pt pl (nu, le, ow, zfil 26 0 fo, 0, 0) k).2.2.1), ((zoT L n kl pt pl (nu, le, ow, zfil 26 0 fo, 0, 0) k).2.2.2.1), true, ((zoT L n kl pt pl (nu, le, ow, zfil 26 0 fo, 0, 0) k).2.2.2.2.1), ((zoT L n kl pt pl (nu, le, ow, zfil 26 0 fo, 0, 0) k).2.2.2.2.2), 0, 0, 0, 0) (yl, yc, yt, co, pa, su, sc) mc) ++ [(oa, .inl (cJ, 1, .inr (.inl (vp_updL yo 0 (((nI ((zoT L n kl pt pl (nu, le, ow, zfil 26 0 fo, 0, 0) k).2.2.2.2.1))).toInt64)))))]) hP
  have hD : va_D (zAb s.heap.size) ((zWT cI cJ h (n, L) (kt, km, kl) (pt, pm, pl) (((zoT L n kl pt pl (nu, le, ow, zfil 26 0 fo, 0, 0) k).1), ((zoT L n kl pt pl (nu, le, ow, zfil 26 0 fo, 0, 0) k).2.1), ((zoT L n kl pt pl (nu, le, ow, zfil 26 0 fo, 0, 0) k).2.2.1), ((zoT L n kl pt pl (nu, le, ow, zfil 26 0 fo, 0, 0) k).2.2.2.1), true, ((zoT L n kl pt pl (nu, le, ow, zfil 26 0 fo, 0, 0) k).2.2.2.2.1), ((zoT L n kl pt pl (nu, le, ow, zfil 26 0 fo, 0, 0) k).2.2.2.2.2), 0, 0, 0, 0) (yl, yc, yt, co, pa, su, sc) mc) ++ ((oa, .inl (cJ, 1, .inr (.inl (vp_updL yo 0 (((nI ((zoT L n kl pt pl (nu, le, ow, zfil 26 0 fo, 0, 0) k).2.2.2.2.1))).toInt64))))) :: (zWM cI cJ cZ h2 0 (n, L) ((zcb kt pt), (zcb km pm), (zcb kl pl)) mc (true, ((zoT L n kl pt pl (nu, le, ow, zfil 26 0 fo, 0, 0) k).2.2.2.2.1), ((zoT L n kl pt pl (nu, le, ow, zfil 26 0 fo, 0, 0) k).1), ((zoT L n kl pt pl (nu, le, ow, zfil 26 0 fo, 0, 0) k).2.2.2.2.2), ((zoT L n kl pt pl (nu, le, ow, zfil 26 0 fo, 0, 0) k).2.1), ((zoM L n kl pt pl (nu, le, af, 0, 0) k).2.2.1), 0, 0, 0, 0) (co, yn, yh, pa)))) := zswapD (A := (zWM cI cJ cZ h2 0 (n, L) ((zcb kt pt), (zcb km pm), (zcb kl pl)) mc (true, ((zoT L n kl pt pl (nu, le, ow, zfil 26 0 fo, 0, 0) k).2.2.2.2.1), ((zoT L n kl pt pl (nu, le, ow, zfil 26 0 fo, 0, 0) k).1), ((zoT L n kl pt pl (nu, le, ow, zfil 26 0 fo, 0, 0) k).2.2.2.2.2), ((zoT L n kl pt pl (nu, le, ow, zfil 26 0 fo, 0, 0) k).2.1), ((zoM L n kl pt pl (nu, le, af, 0, 0) k).2.2.1), 0, 0, 0, 0) (co, yn, yh, pa))) (Bw := (zWT cI cJ h (n, L) (kt, km, kl) (pt, pm, pl) (((zoT L n kl pt pl (nu, le, ow, zfil 26 0 fo, 0, 0) k).1), ((zoT L n kl pt pl (nu, le, ow, zfil 26 0 fo, 0, 0) k).2.1), ((zoT L n kl pt pl (nu, le, ow, zfil 26 0 fo, 0, 0) k).2.2.1), ((zoT L n kl pt pl (nu, le, ow, zfil 26 0 fo, 0, 0) k).2.2.2.1), true, ((zoT L n kl pt pl (nu, le, ow, zfil 26 0 fo, 0, 0) k).2.2.2.2.1), ((zoT L n kl pt pl (nu, le, ow, zfil 26 0 fo, 0, 0) k).2.2.2.2.2), 0, 0, 0, 0) (yl, yc, yt, co, pa, su, sc) mc) ++ [(oa, .inl (cJ, 1, .inr (.inl (vp_updL yo 0 (((nI ((zoT L n kl pt pl (nu, le, ow, zfil 26 0 fo, 0, 0) k).2.2.2.2.1))).toInt64)))))]) hD
  refine lv_istore (lv' := [(6, .int (nI ((zoT L n kl pt pl (nu, le, ow, zfil 26 0 fo, 0, 0) k).2.2.2.2.1))), (5, .int 0), (0, .ref b), (1, .ref (h 0)), (2, .ref (h2 0)), (3, .ref oa), (4, .int (nI (4 * j)))]) hx hb dL_law_454 hl (by decide) rfl (fun ls hl => ?_)
  refine lv_aload_n hx hb dL_law_456 rfl (lv_at hl 4 rfl) ?_
  have hP9 : va_P D vwCl ((zWM cI cJ cZ h2 0 (n, L) ((zcb kt pt), (zcb km pm), (zcb kl pl)) mc (true, ((zoT L n kl pt pl (nu, le, ow, zfil 26 0 fo, 0, 0) k).2.2.2.2.1), ((zoT L n kl pt pl (nu, le, ow, zfil 26 0 fo, 0, 0) k).1), ((zoT L n kl pt pl (nu, le, ow, zfil 26 0 fo, 0, 0) k).2.2.2.2.2), ((zoT L n kl pt pl (nu, le, ow, zfil 26 0 fo, 0, 0) k).2.1), ((zoM L n kl pt pl (nu, le, af, 0, 0) k).2.2.1), 0, 0, 0, 0) (co, yn, yh, pa)) ++ ((zWT cI cJ h (n, L) (kt, km, kl) (pt, pm, pl) (((zoT L n kl pt pl (nu, le, ow, zfil 26 0 fo, 0, 0) k).1), ((zoT L n kl pt pl (nu, le, ow, zfil 26 0 fo, 0, 0) k).2.1), ((zoT L n kl pt pl (nu, le, ow, zfil 26 0 fo, 0, 0) k).2.2.1), ((zoT L n kl pt pl (nu, le, ow, zfil 26 0 fo, 0, 0) k).2.2.2.1), true, ((zoT L n kl pt pl (nu, le, ow, zfil 26 0 fo, 0, 0) k).2.2.2.2.1), ((zoT L n kl pt pl (nu, le, ow, zfil 26 0 fo, 0, 0) k).2.2.2.2.2), 0, 0, 0, 0) (yl, yc, yt, co, pa, su, sc) mc) ++ [(oa, .inl (cJ, 1, .inr (.inl (vp_updL yo 0 (((nI ((zoT L n kl pt pl (nu, le, ow, zfil 26 0 fo, 0, 0) k).2.2.2.2.1))).toInt64)))))])) H := zswapP (A := (zWT cI cJ h (n, L) (kt, km, kl) (pt, pm, pl) (((zoT L n kl pt pl (nu, le, ow, zfil 26 0 fo, 0, 0) k).1), ((zoT L n kl pt pl (nu, le, ow, zfil 26 0 fo, 0, 0) k).2.1), ((zoT L n kl pt pl (nu, le, ow, zfil 26 0 fo, 0, 0) k).2.2.1), ((zoT L n kl pt pl (nu, le, ow, zfil 26 0 fo, 0, 0) k).2.2.2.1), true, ((zoT L n kl pt pl (nu, le, ow, zfil 26 0 fo, 0, 0) k).2.2.2.2.1), ((zoT L n kl pt pl (nu, le, ow, zfil 26 0 fo, 0, 0) k).2.2.2.2.2), 0, 0, 0, 0) (yl, yc, yt, co, pa, su, sc) mc) ++ [(oa, .inl (cJ, 1, .inr (.inl (vp_updL yo 0 (((nI ((zoT L n kl pt pl (nu, le, ow, zfil 26 0 fo, 0, 0) k).2.2.2.2.1))).toInt64)))))]) (Bw := (zWM cI cJ cZ h2 0 (n, L) ((zcb kt pt), (zcb km pm), (zcb kl pl)) mc (true, ((zoT L n kl pt pl (nu, le, ow, zfil 26 0 fo, 0, 0) k).2.2.2.2.1), ((zoT L n kl pt pl (nu, le, ow, zfil 26 0 fo, 0, 0) k).1), ((zoT L n kl pt pl (nu, le, ow, zfil 26 0 fo, 0, 0) k).2.2.2.2.2), ((zoT L n kl pt pl (nu, le, ow, zfil 26 0 fo, 0, 0) k).2.1), ((zoM L n kl pt pl (nu, le, af, 0, 0) k).2.2.1), 0, 0, 0, 0) (co, yn, yh, pa))) hP
  have hD9 : va_D (zAb s.heap.size) ((zWM cI cJ cZ h2 0 (n, L) ((zcb kt pt), (zcb km pm), (zcb kl pl)) mc (true, ((zoT L n kl pt pl (nu, le, ow, zfil 26 0 fo, 0, 0) k).2.2.2.2.1), ((zoT L n kl pt pl (nu, le, ow, zfil 26 0 fo, 0, 0) k).1), ((zoT L n kl pt pl (nu, le, ow, zfil 26 0 fo, 0, 0) k).2.2.2.2.2), ((zoT L n kl pt pl (nu, le, ow, zfil 26 0 fo, 0, 0) k).2.1), ((zoM L n kl pt pl (nu, le, af, 0, 0) k).2.2.1), 0, 0, 0, 0) (co, yn, yh, pa)) ++ ((zWT cI cJ h (n, L) (kt, km, kl) (pt, pm, pl) (((zoT L n kl pt pl (nu, le, ow, zfil 26 0 fo, 0, 0) k).1), ((zoT L n kl pt pl (nu, le, ow, zfil 26 0 fo, 0, 0) k).2.1), ((zoT L n kl pt pl (nu, le, ow, zfil 26 0 fo, 0, 0) k).2.2.1), ((zoT L n kl pt pl (nu, le, ow, zfil 26 0 fo, 0, 0) k).2.2.2.1), true, ((zoT L n kl pt pl (nu, le, ow, zfil 26 0 fo, 0, 0) k).2.2.2.2.1), ((zoT L n kl pt pl (nu, le, ow, zfil 26 0 fo, 0, 0) k).2.2.2.2.2), 0, 0, 0, 0) (yl, yc, yt, co, pa, su, sc) mc) ++ [(oa, .inl (cJ, 1, .inr (.inl (vp_updL yo 0 (((nI ((zoT L n kl pt pl (nu, le, ow, zfil 26 0 fo, 0, 0) k).2.2.2.2.1))).toInt64)))))])) := zswapD (A := (zWT cI cJ h (n, L) (kt, km, kl) (pt, pm, pl) (((zoT L n kl pt pl (nu, le, ow, zfil 26 0 fo, 0, 0) k).1), ((zoT L n kl pt pl (nu, le, ow, zfil 26 0 fo, 0, 0) k).2.1), ((zoT L n kl pt pl (nu, le, ow, zfil 26 0 fo, 0, 0) k).2.2.1), ((zoT L n kl pt pl (nu, le, ow, zfil 26 0 fo, 0, 0) k).2.2.2.1), true, ((zoT L n kl pt pl (nu, le, ow, zfil 26 0 fo, 0, 0) k).2.2.2.2.1), ((zoT L n kl pt pl (nu, le, ow, zfil 26 0 fo, 0, 0) k).2.2.2.2.2), 0, 0, 0, 0) (yl, yc, yt, co, pa, su, sc) mc) ++ [(oa, .inl (cJ, 1, .inr (.inl (vp_updL yo 0 (((nI ((zoT L n kl pt pl (nu, le, ow, zfil 26 0 fo, 0, 0) k).2.2.2.2.1))).toInt64)))))]) (Bw := (zWM cI cJ cZ h2 0 (n, L) ((zcb kt pt), (zcb km pm), (zcb kl pl)) mc (true, ((zoT L n kl pt pl (nu, le, ow, zfil 26 0 fo, 0, 0) k).2.2.2.2.1), ((zoT L n kl pt pl (nu, le, ow, zfil 26 0 fo, 0, 0) k).1), ((zoT L n kl pt pl (nu, le, ow, zfil 26 0 fo, 0, 0) k).2.2.2.2.2), ((zoT L n kl pt pl (nu, le, ow, zfil 26 0 fo, 0, 0) k).2.1), ((zoM L n kl pt pl (nu, le, af, 0, 0) k).2.2.1), 0, 0, 0, 0) (co, yn, yh, pa))) hD
  refine zci (zrV (As := []) (rest := []) ⟨hx, hb, hml, hown, hts⟩ (zV 0 hP9 hD9 hK hE hB hS rfl rfl) (c_X5_thrown  ) (cwV 0 hts gL_law_X5_thrown rfl rfl rfl hdv_X5_thrown ⟨Nat.le_of_ble_eq_true rfl, Nat.le_of_ble_eq_true rfl⟩) rfl rfl hl.1 rfl (lv_room (Nat.le_of_ble_eq_true rfl)) dL_law_457 ⟨(show cc + 0 + 0 + 0 ≤ 601024 by omega), (show ss + 0 + 0 + 0 ≤ 7293034 by omega)⟩) hS (fun H locs hP hD hS => ?_)
  have hP : va_P D vwCl ((zWT cI cJ h (n, L) (kt, km, kl) (pt, pm, pl) (((zoT L n kl pt pl (nu, le, ow, zfil 26 0 fo, 0, 0) k).1), ((zoT L n kl pt pl (nu, le, ow, zfil 26 0 fo, 0, 0) k).2.1), ((zoT L n kl pt pl (nu, le, ow, zfil 26 0 fo, 0, 0) k).2.2.1), ((zoT L n kl pt pl (nu, le, ow, zfil 26 0 fo, 0, 0) k).2.2.2.1), true, ((zoT L n kl pt pl (nu, le, ow, zfil 26 0 fo, 0, 0) k).2.2.2.2.1), ((zoT L n kl pt pl (nu, le, ow, zfil 26 0 fo, 0, 0) k).2.2.2.2.2), 0, 0, 0, 0) (yl, yc, yt, co, pa, su, sc) mc) ++ ((oa, .inl (cJ, 1, .inr (.inl (vp_updL yo 0 (((nI ((zoT L n kl pt pl (nu, le, ow, zfil 26 0 fo, 0, 0) k).2.2.2.2.1))).toInt64))))) :: (zWM cI cJ cZ h2 0 (n, L) ((zcb kt pt), (zcb km pm), (zcb kl pl)) mc (true, ((zoT L n kl pt pl (nu, le, ow, zfil 26 0 fo, 0, 0) k).2.2.2.2.1), ((zoT L n kl pt pl (nu, le, ow, zfil 26 0 fo, 0, 0) k).1), ((zoT L n kl pt pl (nu, le, ow, zfil 26 0 fo, 0, 0) k).2.2.2.2.2), ((zoT L n kl pt pl (nu, le, ow, zfil 26 0 fo, 0, 0) k).2.1), ((zoM L n kl pt pl (nu, le, af, 0, 0) k).2.2.1), 0, 0, 0, 0) (co, yn, yh, pa)))) H := zswapP (A := (zWM cI cJ cZ h2 0 (n, L) ((zcb kt pt), (zcb km pm), (zcb kl pl)) mc (true, ((zoT L n kl pt pl (nu, le, ow, zfil 26 0 fo, 0, 0) k).2.2.2.2.1), ((zoT L n kl pt pl (nu, le, ow, zfil 26 0 fo, 0, 0) k).1), ((zoT L n kl pt pl (nu, le, ow, zfil 26 0 fo, 0, 0) k).2.2.2.2.2), ((zoT L n kl pt pl (nu, le, ow, zfil 26 0 fo, 0, 0) k).2.1), ((zoM L n kl pt pl (nu, le, af, 0, 0) k).2.2.1), 0, 0, 0, 0) (co, yn, yh, pa))) (Bw := (zWT cI cJ h (n, L) (kt, km, kl) (pt, pm, pl) (((zoT L n kl pt pl (nu, le, ow, zfil 26 0 fo, 0, 0) k).1), ((zoT L n kl pt pl (nu, le, ow, zfil 26 0 fo, 0, 0) k).2.1), ((zoT L n kl pt pl (nu, le, ow, zfil 26 0 fo, 0, 0) k).2.2.1), ((zoT L n kl pt pl (nu, le, ow, zfil 26 0 fo, 0, 0) k).2.2.2.1), true, ((zoT L n kl pt pl (nu, le, ow, zfil 26 0 fo, 0, 0) k).2.2.2.2.1), ((zoT L n kl pt pl (nu, le, ow, zfil 26 0 fo, 0, 0) k).2.2.2.2.2), 0, 0, 0, 0) (yl, yc, yt, co, pa, su, sc) mc) ++ [(oa, .inl (cJ, 1, .inr (.inl (vp_updL yo 0 (((nI ((zoT L n kl pt pl (nu, le, ow, zfil 26 0 fo, 0, 0) k).2.2.2.2.1))).toInt64)))))]) hP
  have hD : va_D (zAb s.heap.size) ((zWT cI cJ h (n, L) (kt, km, kl) (pt, pm, pl) (((zoT L n kl pt pl (nu, le, ow, zfil 26 0 fo, 0, 0) k).1), ((zoT L n kl pt pl (nu, le, ow, zfil 26 0 fo, 0, 0) k).2.1), ((zoT L n kl pt pl (nu, le, ow, zfil 26 0 fo, 0, 0) k).2.2.1), ((zoT L n kl pt pl (nu, le, ow, zfil 26 0 fo, 0, 0) k).2.2.2.1), true, ((zoT L n kl pt pl (nu, le, ow, zfil 26 0 fo, 0, 0) k).2.2.2.2.1), ((zoT L n kl pt pl (nu, le, ow, zfil 26 0 fo, 0, 0) k).2.2.2.2.2), 0, 0, 0, 0) (yl, yc, yt, co, pa, su, sc) mc) ++ ((oa, .inl (cJ, 1, .inr (.inl (vp_updL yo 0 (((nI ((zoT L n kl pt pl (nu, le, ow, zfil 26 0 fo, 0, 0) k).2.2.2.2.1))).toInt64))))) :: (zWM cI cJ cZ h2 0 (n, L) ((zcb kt pt), (zcb km pm), (zcb kl pl)) mc (true, ((zoT L n kl pt pl (nu, le, ow, zfil 26 0 fo, 0, 0) k).2.2.2.2.1), ((zoT L n kl pt pl (nu, le, ow, zfil 26 0 fo, 0, 0) k).1), ((zoT L n kl pt pl (nu, le, ow, zfil 26 0 fo, 0, 0) k).2.2.2.2.2), ((zoT L n kl pt pl (nu, le, ow, zfil 26 0 fo, 0, 0) k).2.1), ((zoM L n kl pt pl (nu, le, af, 0, 0) k).2.2.1), 0, 0, 0, 0) (co, yn, yh, pa)))) := zswapD (A := (zWM cI cJ cZ h2 0 (n, L) ((zcb kt pt), (zcb km pm), (zcb kl pl)) mc (true, ((zoT L n kl pt pl (nu, le, ow, zfil 26 0 fo, 0, 0) k).2.2.2.2.1), ((zoT L n kl pt pl (nu, le, ow, zfil 26 0 fo, 0, 0) k).1), ((zoT L n kl pt pl (nu, le, ow, zfil 26 0 fo, 0, 0) k).2.2.2.2.2), ((zoT L n kl pt pl (nu, le, ow, zfil 26 0 fo, 0, 0) k).2.1), ((zoM L n kl pt pl (nu, le, af, 0, 0) k).2.2.1), 0, 0, 0, 0) (co, yn, yh, pa))) (Bw := (zWT cI cJ h (n, L) (kt, km, kl) (pt, pm, pl) (((zoT L n kl pt pl (nu, le, ow, zfil 26 0 fo, 0, 0) k).1), ((zoT L n kl pt pl (nu, le, ow, zfil 26 0 fo, 0, 0) k).2.1), ((zoT L n kl pt pl (nu, le, ow, zfil 26 0 fo, 0, 0) k).2.2.1), ((zoT L n kl pt pl (nu, le, ow, zfil 26 0 fo, 0, 0) k).2.2.2.1), true, ((zoT L n kl pt pl (nu, le, ow, zfil 26 0 fo, 0, 0) k).2.2.2.2.1), ((zoT L n kl pt pl (nu, le, ow, zfil 26 0 fo, 0, 0) k).2.2.2.2.2), 0, 0, 0, 0) (yl, yc, yt, co, pa, su, sc) mc) ++ [(oa, .inl (cJ, 1, .inr (.inl (vp_updL yo 0 (((nI ((zoT L n kl pt pl (nu, le, ow, zfil 26 0 fo, 0, 0) k).2.2.2.2.1))).toInt64)))))]) hD
  refine lv_iload hx hb dL_law_460 (lv_at hl 1 rfl) ?_
  refine lv_icmp_eq (tgt := 467) hx hb dL_law_462 (by decide) (fun c_5 => ?_) (fun c_5 => ?_)
  · skip
    refine lv_iload hx hb dL_law_467 (lv_at hl 1 rfl) ?_
    refine lv_if_ne (tgt := 484) hx hb dL_law_469 (by decide) (fun c_6 => ?_) (fun c_6 => ?_)
    · skip
      exfalso; first | omega | (revert c_6; decide) | (exact absurd rfl c_6) | simp_all
    · skip
      refine lv_aload_n hx hb dL_law_472 rfl (lv_at hl 5 rfl) ?_
      refine lv_iconst (v := 0) hx hb dL_law_473 (by decide) ?_
      refine va_lald hx hb hK hP 21 1 rfl rfl (vp_in_nI (n := 0) (N := 1) (by omega) (by omega)) dL_law_474 ?_
      refine lv_topl (fun v_7 ev_7 => ?_)
      obtain rfl : (((nI ((zoT L n kl pt pl (nu, le, ow, zfil 26 0 fo, 0, 0) k).2.2.2.2.1))).toInt64) = v_7 := (ev_7.trans (pk_uLs (f := yo) (k := 0) (x := (((nI ((zoT L n kl pt pl (nu, le, ow, zfil 26 0 fo, 0, 0) k).2.2.2.2.1))).toInt64)))).symm
      refine lv_iload hx hb dL_law_475 (lv_at hl 0 rfl) ?_
      refine lv_i2l (v := ((nI ((zoT L n kl pt pl (nu, le, ow, zfil 26 0 fo, 0, 0) k).2.2.2.2.1))).toInt64) hx hb dL_law_477 rfl ?_
      refine W.lcmp hx hb dL_law_478 ?_
      refine lv_if_eq (tgt := 484) hx hb dL_law_479 (by decide) (fun c_8 => ?_) (fun c_8 => ?_)
      · skip
        have c_8 : (((nI ((zoT L n kl pt pl (nu, le, ow, zfil 26 0 fo, 0, 0) k).2.2.2.2.1))).toInt64) = (((nI ((zoT L n kl pt pl (nu, le, ow, zfil 26 0 fo, 0, 0) k).2.2.2.2.1))).toInt64) := (lg_cmp_eq _ _).mp c_8
        refine lv_goto (tgt := 1191) hx hb dL_law_484 (by decide) ?_
        refine W.widen (k := cc + 2) (n := ss + 1542) (show cc + 0 + 0 + 0 ≤ cc + 2 by omega) (show ss + 0 + 0 + 0 ≤ ss + 1542 by omega) ?_
        exact kont h h2 oa (vp_updL yo 0 (((nI ((zoT L n kl pt pl (nu, le, ow, zfil 26 0 fo, 0, 0) k).2.2.2.2.1))).toInt64)) 0 n L kt km kl pt pm pl ((zoT L n kl pt pl (nu, le, ow, zfil 26 0 fo, 0, 0) k).1) ((zoT L n kl pt pl (nu, le, ow, zfil 26 0 fo, 0, 0) k).2.1) ((zoT L n kl pt pl (nu, le, ow, zfil 26 0 fo, 0, 0) k).2.2.1) ((zoT L n kl pt pl (nu, le, ow, zfil 26 0 fo, 0, 0) k).2.2.2.1) true ((zoT L n kl pt pl (nu, le, ow, zfil 26 0 fo, 0, 0) k).2.2.2.2.1) ((zoT L n kl pt pl (nu, le, ow, zfil 26 0 fo, 0, 0) k).2.2.2.2.2) 0 0 0 0 yl yc yt co pa su sc mc ((zoM L n kl pt pl (nu, le, af, 0, 0) k).2.2.1) yn yh (hI.oped (zRl_all hn40 hzk k hw6) (hR9.1) (hR9.2)) _ _ _ hP hD hS (lv_sub hl [2, 3, 4, 5, 6] rfl)
      · skip
        have c_8 : ¬ (((nI ((zoT L n kl pt pl (nu, le, ow, zfil 26 0 fo, 0, 0) k).2.2.2.2.1))).toInt64) = (((nI ((zoT L n kl pt pl (nu, le, ow, zfil 26 0 fo, 0, 0) k).2.2.2.2.1))).toInt64) := fun hh => c_8 ((lg_cmp_eq _ _).mpr hh)
        exact absurd rfl c_8
  · skip
    exfalso; first | omega | (revert c_5; decide) | (exact absurd rfl c_5) | simp_all

set_option maxHeartbeats 1000000 in
set_option maxRecDepth 100000 in
theorem law_opn_x1 {p : Program} {l : Launch} {e : Env} {s : State} {m : MethodId} {below : List Frame} {meth : Method} {c : Code} {b L9 : Nat} {xs : Nat → Int32} {D : va_G} {cI cJ cZ : ClassId} {kr kp j cc ss : Nat} {h h2 : Nat → Nat} {oa : Nat} {yo : Nat → Int64} {th : Int32} {n : Nat} {L : Nat → Int64} {kt : Nat → Int32} {km : Nat → Int32} {kl : Nat → Int32} {pt : Nat → Int32} {pm : Nat → Int32} {pl : Nat → Int32} {nu : Nat → Int32} {le : Nat → Int32} {ow : Nat → Int32} {fo : Nat → Int32} {run : Bool} {wc : Nat} {lc : Nat} {tr : Nat} {cl : Nat} {tm : Nat} {ms : Nat} {yl : Nat → Int32} {yc : Nat → Int32} {yt : Nat → Int32} {co : Nat} {pa : Int32} {su : Nat} {sc : Nat} {mc : Nat → Int32} {af : Nat → Int32} {yn : Nat} {yh : Nat → Int32} {i : Int32} (C : zLw p l s m meth c b L9 xs D cI cJ cZ kr kp) (hj : 4 * j + 4 ≤ L9) (hcc : cc + 2 ≤ 601024) (hss : ss + 1542 ≤ 7293034) (kont : zKt p l e s m below meth c b D cI cJ cZ j cc ss) (hI : zInv j n L pt le ow af run wc lc tr cl tm ms yl yc yt co yn su sc yh) (ea1 : xs (4 * j + 1) = i) (hi : i < 1 ∨ ¬ i ≤ 6) {H : Heap} {locs : List Loc} {ls : Array Slot} (hP : va_P D vwCl ((zWT cI cJ h (n, L) (kt, km, kl) (pt, pm, pl) (nu, le, ow, fo, run, wc, lc, tr, cl, tm, ms) (yl, yc, yt, co, pa, su, sc) mc) ++ ((oa, .inl (cJ, 1, .inr (.inl yo))) :: (zWM cI cJ cZ h2 th (n, L) ((zcb kt pt), (zcb km pm), (zcb kl pl)) mc (run, wc, nu, lc, le, af, tr, ms, cl, tm) (co, yn, yh, pa)))) H) (hD : va_D (zAb s.heap.size) ((zWT cI cJ h (n, L) (kt, km, kl) (pt, pm, pl) (nu, le, ow, fo, run, wc, lc, tr, cl, tm, ms) (yl, yc, yt, co, pa, su, sc) mc) ++ ((oa, .inl (cJ, 1, .inr (.inl yo))) :: (zWM cI cJ cZ h2 th (n, L) ((zcb kt pt), (zcb km pm), (zcb kl pl)) mc (run, wc, nu, lc, le, af, tr, ms, cl, tm) (co, yn, yh, pa))))) (hS : va_S (zAb s.heap.size) s.heap H locs) (hl : lv_has ls 9 [(0, .ref b), (1, .ref (h 0)), (2, .ref (h2 0)), (3, .ref oa), (4, .int (nI (4 * j)))]) : W p l e room_1 s m #[Value.ref b] below meth c H locs cc ss (lw_Z below #[Value.ref b] s) (F0 m 431 ls []) := by
  obtain ⟨C0, hls, hK, hE, hL9⟩ := C
  obtain ⟨hx, hb, hr, hml, hown, hts0, hX, hbl, hlocks, hgv⟩ := C0
  have hts : ∀ w ∈ wsL_law, w.before #[Value.ref b] s = true := fun w h => hts0 w (wsL_law_in w h)
  have hbA : ¬ zAb s.heap.size b := Nat.not_le.mpr hbl
  have hB : s.heap.size ≤ s.heap.size := Nat.le_refl _
  have hn40 := hI.1.1
  have hzk := hI.1.2
  obtain ⟨hwc6, hlc48, htrl, hclt, hms1⟩ := hI.2.1
  have hrt := hI.2.2.1
  have hle := hI.2.2.2.1
  have hMk := hI.2.2.2.2.1
  have hct := hI.2.2.2.2.2.1
  have hHi := hI.2.2.2.2.2.2.1
  have hsu := hI.2.2.2.2.2.2.2.2.1
  have hj5 : j ≤ 511 := by omega
  have hco : co < 256 := by have := hct.1; omega
  have hco6 : co ≤ 256 := Nat.le_of_lt hco
  have hsl : su < 2147483648 := by have := hsu.2.2; omega
  have hpt := hI.hpt (Nat.le_succ_of_le hj5)
  refine lv_aload_n hx hb dL_law_431 rfl (lv_at hl 1 rfl) ?_
  refine lv_aload_n hx hb dL_law_432 rfl (lv_at hl 0 rfl) ?_
  refine lv_iload hx hb dL_law_433 (lv_at hl 4 rfl) ?_
  refine lv_iconst (v := 1) hx hb dL_law_435 (by decide) ?_
  refine lv_iadd hx hb dL_law_436 ?_
  refine lv_topi (fun v_1 ev_1 => ?_)
  obtain rfl : v_1 = (nI ((4 * j) + 1)) := ev_1.trans (nI_add (4 * j) 1)
  refine va_sld hx hb hX hbl hbA hS (vp_in_nI (n := ((4 * j) + 1)) (N := L9) (by omega) (by omega)) dL_law_437 ?_
  refine lv_topi (fun v_2 ev_2 => ?_)
  obtain rfl : i = v_2 := (ev_2.trans ((congrArg xs (nI_clamp (by omega))).trans ea1)).symm
  refine lv_aload_n hx hb dL_law_438 rfl (lv_at hl 3 rfl) ?_
  refine zci (vx_runSW (As := [.ref (h 0), .int i, .ref oa]) (rest := []) ⟨hx, hb, hml, hown, hts⟩ (c_L_open_x1  hls (hi)) (vx_cwSW 3 hts gL_law_L_open rfl rfl rfl hds_L_open ⟨Nat.le_of_ble_eq_true rfl, Nat.le_of_ble_eq_true rfl⟩) (zS hP hD hK hE hB hS) rfl rfl hl.1 rfl (lv_room (Nat.le_of_ble_eq_true rfl)) dL_law_439 ⟨(show cc + 1 ≤ 601024 by omega), (show ss + 6 ≤ 7293034 by omega)⟩) hS (fun H locs hP hD hS => ?_)
  have hP : va_P D vwCl ((zWT cI cJ h (n, L) (kt, km, kl) (pt, pm, pl) (nu, le, ow, fo, run, wc, lc, tr, cl, tm, ms) (yl, yc, yt, co, pa, su, sc) mc) ++ ((oa, .inl (cJ, 1, .inr (.inl yo))) :: (zWM cI cJ cZ h2 th (n, L) ((zcb kt pt), (zcb km pm), (zcb kl pl)) mc (run, wc, nu, lc, le, af, tr, ms, cl, tm) (co, yn, yh, pa)))) H := hP
  have hD : va_D (zAb s.heap.size) ((zWT cI cJ h (n, L) (kt, km, kl) (pt, pm, pl) (nu, le, ow, fo, run, wc, lc, tr, cl, tm, ms) (yl, yc, yt, co, pa, su, sc) mc) ++ ((oa, .inl (cJ, 1, .inr (.inl yo))) :: (zWM cI cJ cZ h2 th (n, L) ((zcb kt pt), (zcb km pm), (zcb kl pl)) mc (run, wc, nu, lc, le, af, tr, ms, cl, tm) (co, yn, yh, pa)))) := hD
  refine lv_istore (lv' := [(5, .int 1), (0, .ref b), (1, .ref (h 0)), (2, .ref (h2 0)), (3, .ref oa), (4, .int (nI (4 * j)))]) hx hb dL_law_442 hl (by decide) rfl (fun ls hl => ?_)
  refine lv_aload_n hx hb dL_law_444 rfl (lv_at hl 3 rfl) ?_
  refine lv_aload_n hx hb dL_law_445 rfl (lv_at hl 1 rfl) ?_
  refine lv_iload hx hb dL_law_446 (lv_at hl 5 rfl) ?_
  refine lv_iconst (v := 1) hx hb dL_law_448 (by decide) ?_
  refine lv_iadd hx hb dL_law_449 ?_
  refine lv_topi (fun v_3 ev_3 => ?_)
  obtain rfl : v_3 = (nI ((4 * j) + 1)) := ev_3.trans (nI_add (4 * j) 1)
  refine va_sld hx hb hX hbl hbA hS (vp_in_nI (n := ((4 * j) + 1)) (N := L9) (by omega) (by omega)) dL_law_450 ?_
  refine lv_topi (fun v_4 ev_4 => ?_)
  obtain rfl : i = v_4 := (ev_4.trans ((congrArg xs (nI_clamp (by omega))).trans ea1)).symm
  have hP9 : va_P D vwCl ((zWM cI cJ cZ h2 th (n, L) ((zcb kt pt), (zcb km pm), (zcb kl pl)) mc (run, wc, nu, lc, le, af, tr, ms, cl, tm) (co, yn, yh, pa)) ++ ((zWT cI cJ h (n, L) (kt, km, kl) (pt, pm, pl) (nu, le, ow, fo, run, wc, lc, tr, cl, tm, ms) (yl, yc, yt, co, pa, su, sc) mc) ++ [(oa, .inl (cJ, 1, .inr (.inl yo)))])) H := zswapP (A := (zWT cI cJ h (n, L) (kt, km, kl) (pt, pm, pl) (nu, le, ow, fo, run, wc, lc, tr, cl, tm, ms) (yl, yc, yt, co, pa, su, sc) mc) ++ [(oa, .inl (cJ, 1, .inr (.inl yo)))]) (Bw := (zWM cI cJ cZ h2 th (n, L) ((zcb kt pt), (zcb km pm), (zcb kl pl)) mc (run, wc, nu, lc, le, af, tr, ms, cl, tm) (co, yn, yh, pa))) hP
  have hD9 : va_D (zAb s.heap.size) ((zWM cI cJ cZ h2 th (n, L) ((zcb kt pt), (zcb km pm), (zcb kl pl)) mc (run, wc, nu, lc, le, af, tr, ms, cl, tm) (co, yn, yh, pa)) ++ ((zWT cI cJ h (n, L) (kt, km, kl) (pt, pm, pl) (nu, le, ow, fo, run, wc, lc, tr, cl, tm, ms) (yl, yc, yt, co, pa, su, sc) mc) ++ [(oa, .inl (cJ, 1, .inr (.inl yo)))])) := zswapD (A := (zWT cI cJ h (n, L) (kt, km, kl) (pt, pm, pl) (nu, le, ow, fo, run, wc, lc, tr, cl, tm, ms) (yl, yc, yt, co, pa, su, sc) mc) ++ [(oa, .inl (cJ, 1, .inr (.inl yo)))]) (Bw := (zWM cI cJ cZ h2 th (n, L) ((zcb kt pt), (zcb km pm), (zcb kl pl)) mc (run, wc, nu, lc, le, af, tr, ms, cl, tm) (co, yn, yh, pa))) hD
  refine zci (zrV (As := [.int i]) (rest := []) ⟨hx, hb, hml, hown, hts⟩ (zV 0 hP9 hD9 hK hE hB hS rfl rfl) (c_X5_open_x1  (hi)) (cwV 1 hts gL_law_X5_open rfl rfl rfl hdv_X5_open ⟨Nat.le_of_ble_eq_true rfl, Nat.le_of_ble_eq_true rfl⟩) rfl rfl hl.1 rfl (lv_room (Nat.le_of_ble_eq_true rfl)) dL_law_451 ⟨(show cc + 1 + 0 ≤ 601024 by omega), (show ss + 6 + 0 ≤ 7293034 by omega)⟩) hS (fun H locs hP hD hS => ?_)
  have hP : va_P D vwCl ((zWT cI cJ h (n, L) (kt, km, kl) (pt, pm, pl) (nu, le, ow, fo, run, wc, lc, tr, cl, tm, ms) (yl, yc, yt, co, pa, su, sc) mc) ++ ((oa, .inl (cJ, 1, .inr (.inl yo))) :: (zWM cI cJ cZ h2 1 (n, L) ((zcb kt pt), (zcb km pm), (zcb kl pl)) mc (run, wc, nu, lc, le, af, tr, ms, cl, tm) (co, yn, yh, pa)))) H := zswapP (A := (zWM cI cJ cZ h2 1 (n, L) ((zcb kt pt), (zcb km pm), (zcb kl pl)) mc (run, wc, nu, lc, le, af, tr, ms, cl, tm) (co, yn, yh, pa))) (Bw := (zWT cI cJ h (n, L) (kt, km, kl) (pt, pm, pl) (nu, le, ow, fo, run, wc, lc, tr, cl, tm, ms) (yl, yc, yt, co, pa, su, sc) mc) ++ [(oa, .inl (cJ, 1, .inr (.inl yo)))]) hP
  have hD : va_D (zAb s.heap.size) ((zWT cI cJ h (n, L) (kt, km, kl) (pt, pm, pl) (nu, le, ow, fo, run, wc, lc, tr, cl, tm, ms) (yl, yc, yt, co, pa, su, sc) mc) ++ ((oa, .inl (cJ, 1, .inr (.inl yo))) :: (zWM cI cJ cZ h2 1 (n, L) ((zcb kt pt), (zcb km pm), (zcb kl pl)) mc (run, wc, nu, lc, le, af, tr, ms, cl, tm) (co, yn, yh, pa)))) := zswapD (A := (zWM cI cJ cZ h2 1 (n, L) ((zcb kt pt), (zcb km pm), (zcb kl pl)) mc (run, wc, nu, lc, le, af, tr, ms, cl, tm) (co, yn, yh, pa))) (Bw := (zWT cI cJ h (n, L) (kt, km, kl) (pt, pm, pl) (nu, le, ow, fo, run, wc, lc, tr, cl, tm, ms) (yl, yc, yt, co, pa, su, sc) mc) ++ [(oa, .inl (cJ, 1, .inr (.inl yo)))]) hD
  refine lv_istore (lv' := [(6, .int 0), (5, .int 1), (0, .ref b), (1, .ref (h 0)), (2, .ref (h2 0)), (3, .ref oa), (4, .int (nI (4 * j)))]) hx hb dL_law_454 hl (by decide) rfl (fun ls hl => ?_)
  refine lv_aload_n hx hb dL_law_456 rfl (lv_at hl 4 rfl) ?_
  have hP9 : va_P D vwCl ((zWM cI cJ cZ h2 1 (n, L) ((zcb kt pt), (zcb km pm), (zcb kl pl)) mc (run, wc, nu, lc, le, af, tr, ms, cl, tm) (co, yn, yh, pa)) ++ ((zWT cI cJ h (n, L) (kt, km, kl) (pt, pm, pl) (nu, le, ow, fo, run, wc, lc, tr, cl, tm, ms) (yl, yc, yt, co, pa, su, sc) mc) ++ [(oa, .inl (cJ, 1, .inr (.inl yo)))])) H := zswapP (A := (zWT cI cJ h (n, L) (kt, km, kl) (pt, pm, pl) (nu, le, ow, fo, run, wc, lc, tr, cl, tm, ms) (yl, yc, yt, co, pa, su, sc) mc) ++ [(oa, .inl (cJ, 1, .inr (.inl yo)))]) (Bw := (zWM cI cJ cZ h2 1 (n, L) ((zcb kt pt), (zcb km pm), (zcb kl pl)) mc (run, wc, nu, lc, le, af, tr, ms, cl, tm) (co, yn, yh, pa))) hP
  have hD9 : va_D (zAb s.heap.size) ((zWM cI cJ cZ h2 1 (n, L) ((zcb kt pt), (zcb km pm), (zcb kl pl)) mc (run, wc, nu, lc, le, af, tr, ms, cl, tm) (co, yn, yh, pa)) ++ ((zWT cI cJ h (n, L) (kt, km, kl) (pt, pm, pl) (nu, le, ow, fo, run, wc, lc, tr, cl, tm, ms) (yl, yc, yt, co, pa, su, sc) mc) ++ [(oa, .inl (cJ, 1, .inr (.inl yo)))])) := zswapD (A := (zWT cI cJ h (n, L) (kt, km, kl) (pt, pm, pl) (nu, le, ow, fo, run, wc, lc, tr, cl, tm, ms) (yl, yc, yt, co, pa, su, sc) mc) ++ [(oa, .inl (cJ, 1, .inr (.inl yo)))]) (Bw := (zWM cI cJ cZ h2 1 (n, L) ((zcb kt pt), (zcb km pm), (zcb kl pl)) mc (run, wc, nu, lc, le, af, tr, ms, cl, tm) (co, yn, yh, pa))) hD
  refine zci (zrV (As := []) (rest := []) ⟨hx, hb, hml, hown, hts⟩ (zV 0 hP9 hD9 hK hE hB hS rfl rfl) (c_X5_thrown  ) (cwV 0 hts gL_law_X5_thrown rfl rfl rfl hdv_X5_thrown ⟨Nat.le_of_ble_eq_true rfl, Nat.le_of_ble_eq_true rfl⟩) rfl rfl hl.1 rfl (lv_room (Nat.le_of_ble_eq_true rfl)) dL_law_457 ⟨(show cc + 1 + 0 + 0 ≤ 601024 by omega), (show ss + 6 + 0 + 0 ≤ 7293034 by omega)⟩) hS (fun H locs hP hD hS => ?_)
  have hP : va_P D vwCl ((zWT cI cJ h (n, L) (kt, km, kl) (pt, pm, pl) (nu, le, ow, fo, run, wc, lc, tr, cl, tm, ms) (yl, yc, yt, co, pa, su, sc) mc) ++ ((oa, .inl (cJ, 1, .inr (.inl yo))) :: (zWM cI cJ cZ h2 1 (n, L) ((zcb kt pt), (zcb km pm), (zcb kl pl)) mc (run, wc, nu, lc, le, af, tr, ms, cl, tm) (co, yn, yh, pa)))) H := zswapP (A := (zWM cI cJ cZ h2 1 (n, L) ((zcb kt pt), (zcb km pm), (zcb kl pl)) mc (run, wc, nu, lc, le, af, tr, ms, cl, tm) (co, yn, yh, pa))) (Bw := (zWT cI cJ h (n, L) (kt, km, kl) (pt, pm, pl) (nu, le, ow, fo, run, wc, lc, tr, cl, tm, ms) (yl, yc, yt, co, pa, su, sc) mc) ++ [(oa, .inl (cJ, 1, .inr (.inl yo)))]) hP
  have hD : va_D (zAb s.heap.size) ((zWT cI cJ h (n, L) (kt, km, kl) (pt, pm, pl) (nu, le, ow, fo, run, wc, lc, tr, cl, tm, ms) (yl, yc, yt, co, pa, su, sc) mc) ++ ((oa, .inl (cJ, 1, .inr (.inl yo))) :: (zWM cI cJ cZ h2 1 (n, L) ((zcb kt pt), (zcb km pm), (zcb kl pl)) mc (run, wc, nu, lc, le, af, tr, ms, cl, tm) (co, yn, yh, pa)))) := zswapD (A := (zWM cI cJ cZ h2 1 (n, L) ((zcb kt pt), (zcb km pm), (zcb kl pl)) mc (run, wc, nu, lc, le, af, tr, ms, cl, tm) (co, yn, yh, pa))) (Bw := (zWT cI cJ h (n, L) (kt, km, kl) (pt, pm, pl) (nu, le, ow, fo, run, wc, lc, tr, cl, tm, ms) (yl, yc, yt, co, pa, su, sc) mc) ++ [(oa, .inl (cJ, 1, .inr (.inl yo)))]) hD
  refine lv_iload hx hb dL_law_460 (lv_at hl 1 rfl) ?_
  refine lv_icmp_eq (tgt := 467) hx hb dL_law_462 (by decide) (fun c_5 => ?_) (fun c_5 => ?_)
  · skip
    refine lv_iload hx hb dL_law_467 (lv_at hl 1 rfl) ?_
    refine lv_if_ne (tgt := 484) hx hb dL_law_469 (by decide) (fun c_6 => ?_) (fun c_6 => ?_)
    · skip
      refine lv_goto (tgt := 1191) hx hb dL_law_484 (by decide) ?_
      refine W.widen (k := cc + 2) (n := ss + 1542) (show cc + 1 + 0 + 0 ≤ cc + 2 by omega) (show ss + 6 + 0 + 0 ≤ ss + 1542 by omega) ?_
      exact kont h h2 oa yo 1 n L kt km kl pt pm pl nu le ow fo run wc lc tr cl tm ms yl yc yt co pa su sc mc af yn yh (hI.mono) _ _ _ hP hD hS (lv_sub hl [2, 3, 4, 5, 6] rfl)
    · skip
      exfalso; first | omega | (revert c_6; decide) | (exact absurd rfl c_6) | simp_all
  · skip
    exfalso; first | omega | (revert c_5; decide) | (exact absurd rfl c_5) | simp_all

set_option maxHeartbeats 1000000 in
set_option maxRecDepth 100000 in
theorem law_opn_x2 {p : Program} {l : Launch} {e : Env} {s : State} {m : MethodId} {below : List Frame} {meth : Method} {c : Code} {b L9 : Nat} {xs : Nat → Int32} {D : va_G} {cI cJ cZ : ClassId} {kr kp j cc ss : Nat} {h h2 : Nat → Nat} {oa : Nat} {yo : Nat → Int64} {th : Int32} {n : Nat} {L : Nat → Int64} {kt : Nat → Int32} {km : Nat → Int32} {kl : Nat → Int32} {pt : Nat → Int32} {pm : Nat → Int32} {pl : Nat → Int32} {nu : Nat → Int32} {le : Nat → Int32} {ow : Nat → Int32} {fo : Nat → Int32} {run : Bool} {wc : Nat} {lc : Nat} {tr : Nat} {cl : Nat} {tm : Nat} {ms : Nat} {yl : Nat → Int32} {yc : Nat → Int32} {yt : Nat → Int32} {co : Nat} {pa : Int32} {su : Nat} {sc : Nat} {mc : Nat → Int32} {af : Nat → Int32} {yn : Nat} {yh : Nat → Int32} {i : Int32} (C : zLw p l s m meth c b L9 xs D cI cJ cZ kr kp) (hj : 4 * j + 4 ≤ L9) (hcc : cc + 2 ≤ 601024) (hss : ss + 1542 ≤ 7293034) (kont : zKt p l e s m below meth c b D cI cJ cZ j cc ss) (hI : zInv j n L pt le ow af run wc lc tr cl tm ms yl yc yt co yn su sc yh) (ea1 : xs (4 * j + 1) = i) (hi1 : ¬ i < 1) (hi6 : i ≤ 6) (hf : run = true ∨ n = 0) {H : Heap} {locs : List Loc} {ls : Array Slot} (hP : va_P D vwCl ((zWT cI cJ h (n, L) (kt, km, kl) (pt, pm, pl) (nu, le, ow, fo, run, wc, lc, tr, cl, tm, ms) (yl, yc, yt, co, pa, su, sc) mc) ++ ((oa, .inl (cJ, 1, .inr (.inl yo))) :: (zWM cI cJ cZ h2 th (n, L) ((zcb kt pt), (zcb km pm), (zcb kl pl)) mc (run, wc, nu, lc, le, af, tr, ms, cl, tm) (co, yn, yh, pa)))) H) (hD : va_D (zAb s.heap.size) ((zWT cI cJ h (n, L) (kt, km, kl) (pt, pm, pl) (nu, le, ow, fo, run, wc, lc, tr, cl, tm, ms) (yl, yc, yt, co, pa, su, sc) mc) ++ ((oa, .inl (cJ, 1, .inr (.inl yo))) :: (zWM cI cJ cZ h2 th (n, L) ((zcb kt pt), (zcb km pm), (zcb kl pl)) mc (run, wc, nu, lc, le, af, tr, ms, cl, tm) (co, yn, yh, pa))))) (hS : va_S (zAb s.heap.size) s.heap H locs) (hl : lv_has ls 9 [(0, .ref b), (1, .ref (h 0)), (2, .ref (h2 0)), (3, .ref oa), (4, .int (nI (4 * j)))]) : W p l e room_1 s m #[Value.ref b] below meth c H locs cc ss (lw_Z below #[Value.ref b] s) (F0 m 431 ls []) := by
  obtain ⟨C0, hls, hK, hE, hL9⟩ := C
  obtain ⟨hx, hb, hr, hml, hown, hts0, hX, hbl, hlocks, hgv⟩ := C0
  have hts : ∀ w ∈ wsL_law, w.before #[Value.ref b] s = true := fun w h => hts0 w (wsL_law_in w h)
  have hbA : ¬ zAb s.heap.size b := Nat.not_le.mpr hbl
  have hB : s.heap.size ≤ s.heap.size := Nat.le_refl _
  have hn40 := hI.1.1
  have hzk := hI.1.2
  obtain ⟨hwc6, hlc48, htrl, hclt, hms1⟩ := hI.2.1
  have hrt := hI.2.2.1
  have hle := hI.2.2.2.1
  have hMk := hI.2.2.2.2.1
  have hct := hI.2.2.2.2.2.1
  have hHi := hI.2.2.2.2.2.2.1
  have hsu := hI.2.2.2.2.2.2.2.2.1
  have hj5 : j ≤ 511 := by omega
  have hco : co < 256 := by have := hct.1; omega
  have hco6 : co ≤ 256 := Nat.le_of_lt hco
  have hsl : su < 2147483648 := by have := hsu.2.2; omega
  have hpt := hI.hpt (Nat.le_succ_of_le hj5)
  refine lv_aload_n hx hb dL_law_431 rfl (lv_at hl 1 rfl) ?_
  refine lv_aload_n hx hb dL_law_432 rfl (lv_at hl 0 rfl) ?_
  refine lv_iload hx hb dL_law_433 (lv_at hl 4 rfl) ?_
  refine lv_iconst (v := 1) hx hb dL_law_435 (by decide) ?_
  refine lv_iadd hx hb dL_law_436 ?_
  refine lv_topi (fun v_1 ev_1 => ?_)
  obtain rfl : v_1 = (nI ((4 * j) + 1)) := ev_1.trans (nI_add (4 * j) 1)
  refine va_sld hx hb hX hbl hbA hS (vp_in_nI (n := ((4 * j) + 1)) (N := L9) (by omega) (by omega)) dL_law_437 ?_
  refine lv_topi (fun v_2 ev_2 => ?_)
  obtain rfl : i = v_2 := (ev_2.trans ((congrArg xs (nI_clamp (by omega))).trans ea1)).symm
  refine lv_aload_n hx hb dL_law_438 rfl (lv_at hl 3 rfl) ?_
  refine zci (vx_runSW (As := [.ref (h 0), .int i, .ref oa]) (rest := []) ⟨hx, hb, hml, hown, hts⟩ (c_L_open_x2  hls (hi1) (hi6) (hf) (hn40)) (vx_cwSW 3 hts gL_law_L_open rfl rfl rfl hds_L_open ⟨Nat.le_of_ble_eq_true rfl, Nat.le_of_ble_eq_true rfl⟩) (zS hP hD hK hE hB hS) rfl rfl hl.1 rfl (lv_room (Nat.le_of_ble_eq_true rfl)) dL_law_439 ⟨(show cc + 1 ≤ 601024 by omega), (show ss + 6 ≤ 7293034 by omega)⟩) hS (fun H locs hP hD hS => ?_)
  have hP : va_P D vwCl ((zWT cI cJ h (n, L) (kt, km, kl) (pt, pm, pl) (nu, le, ow, fo, run, wc, lc, tr, cl, tm, ms) (yl, yc, yt, co, pa, su, sc) mc) ++ ((oa, .inl (cJ, 1, .inr (.inl yo))) :: (zWM cI cJ cZ h2 th (n, L) ((zcb kt pt), (zcb km pm), (zcb kl pl)) mc (run, wc, nu, lc, le, af, tr, ms, cl, tm) (co, yn, yh, pa)))) H := hP
  have hD : va_D (zAb s.heap.size) ((zWT cI cJ h (n, L) (kt, km, kl) (pt, pm, pl) (nu, le, ow, fo, run, wc, lc, tr, cl, tm, ms) (yl, yc, yt, co, pa, su, sc) mc) ++ ((oa, .inl (cJ, 1, .inr (.inl yo))) :: (zWM cI cJ cZ h2 th (n, L) ((zcb kt pt), (zcb km pm), (zcb kl pl)) mc (run, wc, nu, lc, le, af, tr, ms, cl, tm) (co, yn, yh, pa)))) := hD
  refine lv_istore (lv' := [(5, .int 2), (0, .ref b), (1, .ref (h 0)), (2, .ref (h2 0)), (3, .ref oa), (4, .int (nI (4 * j)))]) hx hb dL_law_442 hl (by decide) rfl (fun ls hl => ?_)
  refine lv_aload_n hx hb dL_law_444 rfl (lv_at hl 3 rfl) ?_
  refine lv_aload_n hx hb dL_law_445 rfl (lv_at hl 1 rfl) ?_
  refine lv_iload hx hb dL_law_446 (lv_at hl 5 rfl) ?_
  refine lv_iconst (v := 1) hx hb dL_law_448 (by decide) ?_
  refine lv_iadd hx hb dL_law_449 ?_
  refine lv_topi (fun v_3 ev_3 => ?_)
  obtain rfl : v_3 = (nI ((4 * j) + 1)) := ev_3.trans (nI_add (4 * j) 1)
  refine va_sld hx hb hX hbl hbA hS (vp_in_nI (n := ((4 * j) + 1)) (N := L9) (by omega) (by omega)) dL_law_450 ?_
  refine lv_topi (fun v_4 ev_4 => ?_)
  obtain rfl : i = v_4 := (ev_4.trans ((congrArg xs (nI_clamp (by omega))).trans ea1)).symm
  have hP9 : va_P D vwCl ((zWM cI cJ cZ h2 th (n, L) ((zcb kt pt), (zcb km pm), (zcb kl pl)) mc (run, wc, nu, lc, le, af, tr, ms, cl, tm) (co, yn, yh, pa)) ++ ((zWT cI cJ h (n, L) (kt, km, kl) (pt, pm, pl) (nu, le, ow, fo, run, wc, lc, tr, cl, tm, ms) (yl, yc, yt, co, pa, su, sc) mc) ++ [(oa, .inl (cJ, 1, .inr (.inl yo)))])) H := zswapP (A := (zWT cI cJ h (n, L) (kt, km, kl) (pt, pm, pl) (nu, le, ow, fo, run, wc, lc, tr, cl, tm, ms) (yl, yc, yt, co, pa, su, sc) mc) ++ [(oa, .inl (cJ, 1, .inr (.inl yo)))]) (Bw := (zWM cI cJ cZ h2 th (n, L) ((zcb kt pt), (zcb km pm), (zcb kl pl)) mc (run, wc, nu, lc, le, af, tr, ms, cl, tm) (co, yn, yh, pa))) hP
  have hD9 : va_D (zAb s.heap.size) ((zWM cI cJ cZ h2 th (n, L) ((zcb kt pt), (zcb km pm), (zcb kl pl)) mc (run, wc, nu, lc, le, af, tr, ms, cl, tm) (co, yn, yh, pa)) ++ ((zWT cI cJ h (n, L) (kt, km, kl) (pt, pm, pl) (nu, le, ow, fo, run, wc, lc, tr, cl, tm, ms) (yl, yc, yt, co, pa, su, sc) mc) ++ [(oa, .inl (cJ, 1, .inr (.inl yo)))])) := zswapD (A := (zWT cI cJ h (n, L) (kt, km, kl) (pt, pm, pl) (nu, le, ow, fo, run, wc, lc, tr, cl, tm, ms) (yl, yc, yt, co, pa, su, sc) mc) ++ [(oa, .inl (cJ, 1, .inr (.inl yo)))]) (Bw := (zWM cI cJ cZ h2 th (n, L) ((zcb kt pt), (zcb km pm), (zcb kl pl)) mc (run, wc, nu, lc, le, af, tr, ms, cl, tm) (co, yn, yh, pa))) hD
  refine zci (zrV (As := [.int i]) (rest := []) ⟨hx, hb, hml, hown, hts⟩ (zV 0 hP9 hD9 hK hE hB hS rfl rfl) (c_X5_open_x2  (hi1) (hi6) (hf) (hn40)) (cwV 1 hts gL_law_X5_open rfl rfl rfl hdv_X5_open ⟨Nat.le_of_ble_eq_true rfl, Nat.le_of_ble_eq_true rfl⟩) rfl rfl hl.1 rfl (lv_room (Nat.le_of_ble_eq_true rfl)) dL_law_451 ⟨(show cc + 1 + 0 ≤ 601024 by omega), (show ss + 6 + 0 ≤ 7293034 by omega)⟩) hS (fun H locs hP hD hS => ?_)
  have hP : va_P D vwCl ((zWT cI cJ h (n, L) (kt, km, kl) (pt, pm, pl) (nu, le, ow, fo, run, wc, lc, tr, cl, tm, ms) (yl, yc, yt, co, pa, su, sc) mc) ++ ((oa, .inl (cJ, 1, .inr (.inl yo))) :: (zWM cI cJ cZ h2 2 (n, L) ((zcb kt pt), (zcb km pm), (zcb kl pl)) mc (run, wc, nu, lc, le, af, tr, ms, cl, tm) (co, yn, yh, pa)))) H := zswapP (A := (zWM cI cJ cZ h2 2 (n, L) ((zcb kt pt), (zcb km pm), (zcb kl pl)) mc (run, wc, nu, lc, le, af, tr, ms, cl, tm) (co, yn, yh, pa))) (Bw := (zWT cI cJ h (n, L) (kt, km, kl) (pt, pm, pl) (nu, le, ow, fo, run, wc, lc, tr, cl, tm, ms) (yl, yc, yt, co, pa, su, sc) mc) ++ [(oa, .inl (cJ, 1, .inr (.inl yo)))]) hP
  have hD : va_D (zAb s.heap.size) ((zWT cI cJ h (n, L) (kt, km, kl) (pt, pm, pl) (nu, le, ow, fo, run, wc, lc, tr, cl, tm, ms) (yl, yc, yt, co, pa, su, sc) mc) ++ ((oa, .inl (cJ, 1, .inr (.inl yo))) :: (zWM cI cJ cZ h2 2 (n, L) ((zcb kt pt), (zcb km pm), (zcb kl pl)) mc (run, wc, nu, lc, le, af, tr, ms, cl, tm) (co, yn, yh, pa)))) := zswapD (A := (zWM cI cJ cZ h2 2 (n, L) ((zcb kt pt), (zcb km pm), (zcb kl pl)) mc (run, wc, nu, lc, le, af, tr, ms, cl, tm) (co, yn, yh, pa))) (Bw := (zWT cI cJ h (n, L) (kt, km, kl) (pt, pm, pl) (nu, le, ow, fo, run, wc, lc, tr, cl, tm, ms) (yl, yc, yt, co, pa, su, sc) mc) ++ [(oa, .inl (cJ, 1, .inr (.inl yo)))]) hD
  refine lv_istore (lv' := [(6, .int 0), (5, .int 2), (0, .ref b), (1, .ref (h 0)), (2, .ref (h2 0)), (3, .ref oa), (4, .int (nI (4 * j)))]) hx hb dL_law_454 hl (by decide) rfl (fun ls hl => ?_)
  refine lv_aload_n hx hb dL_law_456 rfl (lv_at hl 4 rfl) ?_
  have hP9 : va_P D vwCl ((zWM cI cJ cZ h2 2 (n, L) ((zcb kt pt), (zcb km pm), (zcb kl pl)) mc (run, wc, nu, lc, le, af, tr, ms, cl, tm) (co, yn, yh, pa)) ++ ((zWT cI cJ h (n, L) (kt, km, kl) (pt, pm, pl) (nu, le, ow, fo, run, wc, lc, tr, cl, tm, ms) (yl, yc, yt, co, pa, su, sc) mc) ++ [(oa, .inl (cJ, 1, .inr (.inl yo)))])) H := zswapP (A := (zWT cI cJ h (n, L) (kt, km, kl) (pt, pm, pl) (nu, le, ow, fo, run, wc, lc, tr, cl, tm, ms) (yl, yc, yt, co, pa, su, sc) mc) ++ [(oa, .inl (cJ, 1, .inr (.inl yo)))]) (Bw := (zWM cI cJ cZ h2 2 (n, L) ((zcb kt pt), (zcb km pm), (zcb kl pl)) mc (run, wc, nu, lc, le, af, tr, ms, cl, tm) (co, yn, yh, pa))) hP
  have hD9 : va_D (zAb s.heap.size) ((zWM cI cJ cZ h2 2 (n, L) ((zcb kt pt), (zcb km pm), (zcb kl pl)) mc (run, wc, nu, lc, le, af, tr, ms, cl, tm) (co, yn, yh, pa)) ++ ((zWT cI cJ h (n, L) (kt, km, kl) (pt, pm, pl) (nu, le, ow, fo, run, wc, lc, tr, cl, tm, ms) (yl, yc, yt, co, pa, su, sc) mc) ++ [(oa, .inl (cJ, 1, .inr (.inl yo)))])) := zswapD (A := (zWT cI cJ h (n, L) (kt, km, kl) (pt, pm, pl) (nu, le, ow, fo, run, wc, lc, tr, cl, tm, ms) (yl, yc, yt, co, pa, su, sc) mc) ++ [(oa, .inl (cJ, 1, .inr (.inl yo)))]) (Bw := (zWM cI cJ cZ h2 2 (n, L) ((zcb kt pt), (zcb km pm), (zcb kl pl)) mc (run, wc, nu, lc, le, af, tr, ms, cl, tm) (co, yn, yh, pa))) hD
  refine zci (zrV (As := []) (rest := []) ⟨hx, hb, hml, hown, hts⟩ (zV 0 hP9 hD9 hK hE hB hS rfl rfl) (c_X5_thrown  ) (cwV 0 hts gL_law_X5_thrown rfl rfl rfl hdv_X5_thrown ⟨Nat.le_of_ble_eq_true rfl, Nat.le_of_ble_eq_true rfl⟩) rfl rfl hl.1 rfl (lv_room (Nat.le_of_ble_eq_true rfl)) dL_law_457 ⟨(show cc + 1 + 0 + 0 ≤ 601024 by omega), (show ss + 6 + 0 + 0 ≤ 7293034 by omega)⟩) hS (fun H locs hP hD hS => ?_)
  have hP : va_P D vwCl ((zWT cI cJ h (n, L) (kt, km, kl) (pt, pm, pl) (nu, le, ow, fo, run, wc, lc, tr, cl, tm, ms) (yl, yc, yt, co, pa, su, sc) mc) ++ ((oa, .inl (cJ, 1, .inr (.inl yo))) :: (zWM cI cJ cZ h2 2 (n, L) ((zcb kt pt), (zcb km pm), (zcb kl pl)) mc (run, wc, nu, lc, le, af, tr, ms, cl, tm) (co, yn, yh, pa)))) H := zswapP (A := (zWM cI cJ cZ h2 2 (n, L) ((zcb kt pt), (zcb km pm), (zcb kl pl)) mc (run, wc, nu, lc, le, af, tr, ms, cl, tm) (co, yn, yh, pa))) (Bw := (zWT cI cJ h (n, L) (kt, km, kl) (pt, pm, pl) (nu, le, ow, fo, run, wc, lc, tr, cl, tm, ms) (yl, yc, yt, co, pa, su, sc) mc) ++ [(oa, .inl (cJ, 1, .inr (.inl yo)))]) hP
  have hD : va_D (zAb s.heap.size) ((zWT cI cJ h (n, L) (kt, km, kl) (pt, pm, pl) (nu, le, ow, fo, run, wc, lc, tr, cl, tm, ms) (yl, yc, yt, co, pa, su, sc) mc) ++ ((oa, .inl (cJ, 1, .inr (.inl yo))) :: (zWM cI cJ cZ h2 2 (n, L) ((zcb kt pt), (zcb km pm), (zcb kl pl)) mc (run, wc, nu, lc, le, af, tr, ms, cl, tm) (co, yn, yh, pa)))) := zswapD (A := (zWM cI cJ cZ h2 2 (n, L) ((zcb kt pt), (zcb km pm), (zcb kl pl)) mc (run, wc, nu, lc, le, af, tr, ms, cl, tm) (co, yn, yh, pa))) (Bw := (zWT cI cJ h (n, L) (kt, km, kl) (pt, pm, pl) (nu, le, ow, fo, run, wc, lc, tr, cl, tm, ms) (yl, yc, yt, co, pa, su, sc) mc) ++ [(oa, .inl (cJ, 1, .inr (.inl yo)))]) hD
  refine lv_iload hx hb dL_law_460 (lv_at hl 1 rfl) ?_
  refine lv_icmp_eq (tgt := 467) hx hb dL_law_462 (by decide) (fun c_5 => ?_) (fun c_5 => ?_)
  · skip
    refine lv_iload hx hb dL_law_467 (lv_at hl 1 rfl) ?_
    refine lv_if_ne (tgt := 484) hx hb dL_law_469 (by decide) (fun c_6 => ?_) (fun c_6 => ?_)
    · skip
      refine lv_goto (tgt := 1191) hx hb dL_law_484 (by decide) ?_
      refine W.widen (k := cc + 2) (n := ss + 1542) (show cc + 1 + 0 + 0 ≤ cc + 2 by omega) (show ss + 6 + 0 + 0 ≤ ss + 1542 by omega) ?_
      exact kont h h2 oa yo 2 n L kt km kl pt pm pl nu le ow fo run wc lc tr cl tm ms yl yc yt co pa su sc mc af yn yh (hI.mono) _ _ _ hP hD hS (lv_sub hl [2, 3, 4, 5, 6] rfl)
    · skip
      exfalso; first | omega | (revert c_6; decide) | (exact absurd rfl c_6) | simp_all
  · skip
    exfalso; first | omega | (revert c_5; decide) | (exact absurd rfl c_5) | simp_all

set_option maxHeartbeats 1000000 in
set_option maxRecDepth 100000 in
theorem law_openWord {p : Program} {l : Launch} {e : Env} {s : State} {m : MethodId} {below : List Frame} {meth : Method} {c : Code} {b L9 : Nat} {xs : Nat → Int32} {D : va_G} {cI cJ cZ : ClassId} {kr kp j cc ss : Nat} {h h2 : Nat → Nat} {oa : Nat} {yo : Nat → Int64} {th : Int32} {n : Nat} {L : Nat → Int64} {kt : Nat → Int32} {km : Nat → Int32} {kl : Nat → Int32} {pt : Nat → Int32} {pm : Nat → Int32} {pl : Nat → Int32} {nu : Nat → Int32} {le : Nat → Int32} {ow : Nat → Int32} {fo : Nat → Int32} {run : Bool} {wc : Nat} {lc : Nat} {tr : Nat} {cl : Nat} {tm : Nat} {ms : Nat} {yl : Nat → Int32} {yc : Nat → Int32} {yt : Nat → Int32} {co : Nat} {pa : Int32} {su : Nat} {sc : Nat} {mc : Nat → Int32} {af : Nat → Int32} {yn : Nat} {yh : Nat → Int32} {k : Nat} (C : zLw p l s m meth c b L9 xs D cI cJ cZ kr kp) (hj : 4 * j + 4 ≤ L9) (hcc : cc + 2 ≤ 601024) (hss : ss + 1542 ≤ 7293034) (kont : zKt p l e s m below meth c b D cI cJ cZ j cc ss) (hI : zInv j n L pt le ow af false wc lc tr cl tm ms yl yc yt co yn su sc yh) (ea1 : xs (4 * j + 1) = nI k) (hk : k < n) {H : Heap} {locs : List Loc} {ls : Array Slot} (hP : va_P D vwCl ((zWT cI cJ h (n, L) (kt, km, kl) (pt, pm, pl) (nu, le, ow, fo, false, wc, lc, tr, cl, tm, ms) (yl, yc, yt, co, pa, su, sc) mc) ++ ((oa, .inl (cJ, 1, .inr (.inl yo))) :: (zWM cI cJ cZ h2 th (n, L) ((zcb kt pt), (zcb km pm), (zcb kl pl)) mc (false, wc, nu, lc, le, af, tr, ms, cl, tm) (co, yn, yh, pa)))) H) (hD : va_D (zAb s.heap.size) ((zWT cI cJ h (n, L) (kt, km, kl) (pt, pm, pl) (nu, le, ow, fo, false, wc, lc, tr, cl, tm, ms) (yl, yc, yt, co, pa, su, sc) mc) ++ ((oa, .inl (cJ, 1, .inr (.inl yo))) :: (zWM cI cJ cZ h2 th (n, L) ((zcb kt pt), (zcb km pm), (zcb kl pl)) mc (false, wc, nu, lc, le, af, tr, ms, cl, tm) (co, yn, yh, pa))))) (hS : va_S (zAb s.heap.size) s.heap H locs) (hl : lv_has ls 9 [(0, .ref b), (1, .ref (h 0)), (2, .ref (h2 0)), (3, .ref oa), (4, .int (nI (4 * j)))]) : W p l e room_1 s m #[Value.ref b] below meth c H locs cc ss (lw_Z below #[Value.ref b] s) (F0 m 487 ls []) := by
  obtain ⟨C0, hls, hK, hE, hL9⟩ := C
  obtain ⟨hx, hb, hr, hml, hown, hts0, hX, hbl, hlocks, hgv⟩ := C0
  have hts : ∀ w ∈ wsL_law, w.before #[Value.ref b] s = true := fun w h => hts0 w (wsL_law_in w h)
  have hbA : ¬ zAb s.heap.size b := Nat.not_le.mpr hbl
  have hB : s.heap.size ≤ s.heap.size := Nat.le_refl _
  have hn40 := hI.1.1
  have hzk := hI.1.2
  obtain ⟨hwc6, hlc48, htrl, hclt, hms1⟩ := hI.2.1
  have hrt := hI.2.2.1
  have hle := hI.2.2.2.1
  have hMk := hI.2.2.2.2.1
  have hct := hI.2.2.2.2.2.1
  have hHi := hI.2.2.2.2.2.2.1
  have hsu := hI.2.2.2.2.2.2.2.2.1
  have hj5 : j ≤ 511 := by omega
  have hco : co < 256 := by have := hct.1; omega
  have hco6 : co ≤ 256 := Nat.le_of_lt hco
  have hsl : su < 2147483648 := by have := hsu.2.2; omega
  have hpt := hI.hpt (Nat.le_succ_of_le hj5)
  refine lv_aload_n hx hb dL_law_487 rfl (lv_at hl 1 rfl) ?_
  refine lv_aload_n hx hb dL_law_488 rfl (lv_at hl 0 rfl) ?_
  refine lv_iload hx hb dL_law_489 (lv_at hl 4 rfl) ?_
  refine lv_iconst (v := 1) hx hb dL_law_491 (by decide) ?_
  refine lv_iadd hx hb dL_law_492 ?_
  refine lv_topi (fun v_1 ev_1 => ?_)
  obtain rfl : v_1 = (nI ((4 * j) + 1)) := ev_1.trans (nI_add (4 * j) 1)
  refine va_sld hx hb hX hbl hbA hS (vp_in_nI (n := ((4 * j) + 1)) (N := L9) (by omega) (by omega)) dL_law_493 ?_
  refine lv_topi (fun v_2 ev_2 => ?_)
  obtain rfl : (nI k) = v_2 := (ev_2.trans ((congrArg xs (nI_clamp (by omega))).trans ea1)).symm
  refine lv_aload_n hx hb dL_law_494 rfl (lv_at hl 3 rfl) ?_
  refine zci (vx_runSW (As := [.ref (h 0), .int (nI k), .ref oa]) (rest := []) ⟨hx, hb, hml, hown, hts⟩ (c_L_openWord (k := k) (hk) (hn40) (rfl)) (vx_cwSW 3 hts gL_law_L_openWord rfl rfl rfl hds_L_openWord ⟨Nat.le_of_ble_eq_true rfl, Nat.le_of_ble_eq_true rfl⟩) (zS hP hD hK hE hB hS) rfl rfl hl.1 rfl (lv_room (Nat.le_of_ble_eq_true rfl)) dL_law_495 ⟨(show cc + 0 ≤ 601024 by omega), (show ss + 0 ≤ 7293034 by omega)⟩) hS (fun H locs hP hD hS => ?_)
  have hP : va_P D vwCl ((zWT cI cJ h (n, L) (kt, km, kl) (pt, pm, pl) ((upd nu 0 (nI k)), (zale le 0 (L k) (zsz (L k))), (zaow ow 0 0 (zsz (L k))), (zafo (zfil 26 0 fo) (L k) (zsz (L k))), true, (0 + 1), (0 + zsz (L k)), 0, 0, 0, 0) (yl, yc, yt, co, pa, su, sc) mc) ++ ((oa, .inl (cJ, 1, .inr (.inl (vp_updL yo 0 (((nI (0 + zsz (L k)))).toInt64))))) :: (zWM cI cJ cZ h2 th (n, L) ((zcb kt pt), (zcb km pm), (zcb kl pl)) mc (false, wc, nu, lc, le, af, tr, ms, cl, tm) (co, yn, yh, pa)))) H := hP
  have hD : va_D (zAb s.heap.size) ((zWT cI cJ h (n, L) (kt, km, kl) (pt, pm, pl) ((upd nu 0 (nI k)), (zale le 0 (L k) (zsz (L k))), (zaow ow 0 0 (zsz (L k))), (zafo (zfil 26 0 fo) (L k) (zsz (L k))), true, (0 + 1), (0 + zsz (L k)), 0, 0, 0, 0) (yl, yc, yt, co, pa, su, sc) mc) ++ ((oa, .inl (cJ, 1, .inr (.inl (vp_updL yo 0 (((nI (0 + zsz (L k)))).toInt64))))) :: (zWM cI cJ cZ h2 th (n, L) ((zcb kt pt), (zcb km pm), (zcb kl pl)) mc (false, wc, nu, lc, le, af, tr, ms, cl, tm) (co, yn, yh, pa)))) := hD
  refine lv_istore (lv' := [(5, .int 0), (0, .ref b), (1, .ref (h 0)), (2, .ref (h2 0)), (3, .ref oa), (4, .int (nI (4 * j)))]) hx hb dL_law_498 hl (by decide) rfl (fun ls hl => ?_)
  refine lv_aload_n hx hb dL_law_500 rfl (lv_at hl 3 rfl) ?_
  refine lv_aload_n hx hb dL_law_501 rfl (lv_at hl 1 rfl) ?_
  refine lv_iload hx hb dL_law_502 (lv_at hl 5 rfl) ?_
  refine lv_iconst (v := 1) hx hb dL_law_504 (by decide) ?_
  refine lv_iadd hx hb dL_law_505 ?_
  refine lv_topi (fun v_3 ev_3 => ?_)
  obtain rfl : v_3 = (nI ((4 * j) + 1)) := ev_3.trans (nI_add (4 * j) 1)
  refine va_sld hx hb hX hbl hbA hS (vp_in_nI (n := ((4 * j) + 1)) (N := L9) (by omega) (by omega)) dL_law_506 ?_
  refine lv_topi (fun v_4 ev_4 => ?_)
  obtain rfl : (nI k) = v_4 := (ev_4.trans ((congrArg xs (nI_clamp (by omega))).trans ea1)).symm
  have hP9 : va_P D vwCl ((zWM cI cJ cZ h2 th (n, L) ((zcb kt pt), (zcb km pm), (zcb kl pl)) mc (false, wc, nu, lc, le, af, tr, ms, cl, tm) (co, yn, yh, pa)) ++ ((zWT cI cJ h (n, L) (kt, km, kl) (pt, pm, pl) ((upd nu 0 (nI k)), (zale le 0 (L k) (zsz (L k))), (zaow ow 0 0 (zsz (L k))), (zafo (zfil 26 0 fo) (L k) (zsz (L k))), true, (0 + 1), (0 + zsz (L k)), 0, 0, 0, 0) (yl, yc, yt, co, pa, su, sc) mc) ++ [(oa, .inl (cJ, 1, .inr (.inl (vp_updL yo 0 (((nI (0 + zsz (L k)))).toInt64)))))])) H := zswapP (A := (zWT cI cJ h (n, L) (kt, km, kl) (pt, pm, pl) ((upd nu 0 (nI k)), (zale le 0 (L k) (zsz (L k))), (zaow ow 0 0 (zsz (L k))), (zafo (zfil 26 0 fo) (L k) (zsz (L k))), true, (0 + 1), (0 + zsz (L k)), 0, 0, 0, 0) (yl, yc, yt, co, pa, su, sc) mc) ++ [(oa, .inl (cJ, 1, .inr (.inl (vp_updL yo 0 (((nI (0 + zsz (L k)))).toInt64)))))]) (Bw := (zWM cI cJ cZ h2 th (n, L) ((zcb kt pt), (zcb km pm), (zcb kl pl)) mc (false, wc, nu, lc, le, af, tr, ms, cl, tm) (co, yn, yh, pa))) hP
  have hD9 : va_D (zAb s.heap.size) ((zWM cI cJ cZ h2 th (n, L) ((zcb kt pt), (zcb km pm), (zcb kl pl)) mc (false, wc, nu, lc, le, af, tr, ms, cl, tm) (co, yn, yh, pa)) ++ ((zWT cI cJ h (n, L) (kt, km, kl) (pt, pm, pl) ((upd nu 0 (nI k)), (zale le 0 (L k) (zsz (L k))), (zaow ow 0 0 (zsz (L k))), (zafo (zfil 26 0 fo) (L k) (zsz (L k))), true, (0 + 1), (0 + zsz (L k)), 0, 0, 0, 0) (yl, yc, yt, co, pa, su, sc) mc) ++ [(oa, .inl (cJ, 1, .inr (.inl (vp_updL yo 0 (((nI (0 + zsz (L k)))).toInt64)))))])) := zswapD (A := (zWT cI cJ h (n, L) (kt, km, kl) (pt, pm, pl) ((upd nu 0 (nI k)), (zale le 0 (L k) (zsz (L k))), (zaow ow 0 0 (zsz (L k))), (zafo (zfil 26 0 fo) (L k) (zsz (L k))), true, (0 + 1), (0 + zsz (L k)), 0, 0, 0, 0) (yl, yc, yt, co, pa, su, sc) mc) ++ [(oa, .inl (cJ, 1, .inr (.inl (vp_updL yo 0 (((nI (0 + zsz (L k)))).toInt64)))))]) (Bw := (zWM cI cJ cZ h2 th (n, L) ((zcb kt pt), (zcb km pm), (zcb kl pl)) mc (false, wc, nu, lc, le, af, tr, ms, cl, tm) (co, yn, yh, pa))) hD
  refine zci (zrV (As := [.int (nI k)]) (rest := []) ⟨hx, hb, hml, hown, hts⟩ (zV 0 hP9 hD9 hK hE hB hS rfl rfl) (c_X5_openWord (k := k) (hk) (hn40) (rfl)) (cwV 1 hts gL_law_X5_openWord rfl rfl rfl hdv_X5_openWord ⟨Nat.le_of_ble_eq_true rfl, Nat.le_of_ble_eq_true rfl⟩) rfl rfl hl.1 rfl (lv_room (Nat.le_of_ble_eq_true rfl)) dL_law_507 ⟨(show cc + 0 + 0 ≤ 601024 by omega), (show ss + 0 + 0 ≤ 7293034 by omega)⟩) hS (fun H locs hP hD hS => ?_)
  have hP : va_P D vwCl ((zWT cI cJ h (n, L) (kt, km, kl) (pt, pm, pl) ((upd nu 0 (nI k)), (zale le 0 (L k) (zsz (L k))), (zaow ow 0 0 (zsz (L k))), (zafo (zfil 26 0 fo) (L k) (zsz (L k))), true, (0 + 1), (0 + zsz (L k)), 0, 0, 0, 0) (yl, yc, yt, co, pa, su, sc) mc) ++ ((oa, .inl (cJ, 1, .inr (.inl (vp_updL yo 0 (((nI (0 + zsz (L k)))).toInt64))))) :: (zWM cI cJ cZ h2 0 (n, L) ((zcb kt pt), (zcb km pm), (zcb kl pl)) mc (true, (0 + 1), (upd nu 0 (nI k)), (0 + zsz (L k)), (zale le 0 (L k) (zsz (L k))), (zaaf af 0 (zsz (L k))), 0, 0, 0, 0) (co, yn, yh, pa)))) H := zswapP (A := (zWM cI cJ cZ h2 0 (n, L) ((zcb kt pt), (zcb km pm), (zcb kl pl)) mc (true, (0 + 1), (upd nu 0 (nI k)), (0 + zsz (L k)), (zale le 0 (L k) (zsz (L k))), (zaaf af 0 (zsz (L k))), 0, 0, 0, 0) (co, yn, yh, pa))) (Bw := (zWT cI cJ h (n, L) (kt, km, kl) (pt, pm, pl) ((upd nu 0 (nI k)), (zale le 0 (L k) (zsz (L k))), (zaow ow 0 0 (zsz (L k))), (zafo (zfil 26 0 fo) (L k) (zsz (L k))), true, (0 + 1), (0 + zsz (L k)), 0, 0, 0, 0) (yl, yc, yt, co, pa, su, sc) mc) ++ [(oa, .inl (cJ, 1, .inr (.inl (vp_updL yo 0 (((nI (0 + zsz (L k)))).toInt64)))))]) hP
  have hD : va_D (zAb s.heap.size) ((zWT cI cJ h (n, L) (kt, km, kl) (pt, pm, pl) ((upd nu 0 (nI k)), (zale le 0 (L k) (zsz (L k))), (zaow ow 0 0 (zsz (L k))), (zafo (zfil 26 0 fo) (L k) (zsz (L k))), true, (0 + 1), (0 + zsz (L k)), 0, 0, 0, 0) (yl, yc, yt, co, pa, su, sc) mc) ++ ((oa, .inl (cJ, 1, .inr (.inl (vp_updL yo 0 (((nI (0 + zsz (L k)))).toInt64))))) :: (zWM cI cJ cZ h2 0 (n, L) ((zcb kt pt), (zcb km pm), (zcb kl pl)) mc (true, (0 + 1), (upd nu 0 (nI k)), (0 + zsz (L k)), (zale le 0 (L k) (zsz (L k))), (zaaf af 0 (zsz (L k))), 0, 0, 0, 0) (co, yn, yh, pa)))) := zswapD (A := (zWM cI cJ cZ h2 0 (n, L) ((zcb kt pt), (zcb km pm), (zcb kl pl)) mc (true, (0 + 1), (upd nu 0 (nI k)), (0 + zsz (L k)), (zale le 0 (L k) (zsz (L k))), (zaaf af 0 (zsz (L k))), 0, 0, 0, 0) (co, yn, yh, pa))) (Bw := (zWT cI cJ h (n, L) (kt, km, kl) (pt, pm, pl) ((upd nu 0 (nI k)), (zale le 0 (L k) (zsz (L k))), (zaow ow 0 0 (zsz (L k))), (zafo (zfil 26 0 fo) (L k) (zsz (L k))), true, (0 + 1), (0 + zsz (L k)), 0, 0, 0, 0) (yl, yc, yt, co, pa, su, sc) mc) ++ [(oa, .inl (cJ, 1, .inr (.inl (vp_updL yo 0 (((nI (0 + zsz (L k)))).toInt64)))))]) hD
  refine lv_istore (lv' := [(6, .int (nI (0 + zsz (L k)))), (5, .int 0), (0, .ref b), (1, .ref (h 0)), (2, .ref (h2 0)), (3, .ref oa), (4, .int (nI (4 * j)))]) hx hb dL_law_510 hl (by decide) rfl (fun ls hl => ?_)
  refine lv_aload_n hx hb dL_law_512 rfl (lv_at hl 4 rfl) ?_
  have hP9 : va_P D vwCl ((zWM cI cJ cZ h2 0 (n, L) ((zcb kt pt), (zcb km pm), (zcb kl pl)) mc (true, (0 + 1), (upd nu 0 (nI k)), (0 + zsz (L k)), (zale le 0 (L k) (zsz (L k))), (zaaf af 0 (zsz (L k))), 0, 0, 0, 0) (co, yn, yh, pa)) ++ ((zWT cI cJ h (n, L) (kt, km, kl) (pt, pm, pl) ((upd nu 0 (nI k)), (zale le 0 (L k) (zsz (L k))), (zaow ow 0 0 (zsz (L k))), (zafo (zfil 26 0 fo) (L k) (zsz (L k))), true, (0 + 1), (0 + zsz (L k)), 0, 0, 0, 0) (yl, yc, yt, co, pa, su, sc) mc) ++ [(oa, .inl (cJ, 1, .inr (.inl (vp_updL yo 0 (((nI (0 + zsz (L k)))).toInt64)))))])) H := zswapP (A := (zWT cI cJ h (n, L) (kt, km, kl) (pt, pm, pl) ((upd nu 0 (nI k)), (zale le 0 (L k) (zsz (L k))), (zaow ow 0 0 (zsz (L k))), (zafo (zfil 26 0 fo) (L k) (zsz (L k))), true, (0 + 1), (0 + zsz (L k)), 0, 0, 0, 0) (yl, yc, yt, co, pa, su, sc) mc) ++ [(oa, .inl (cJ, 1, .inr (.inl (vp_updL yo 0 (((nI (0 + zsz (L k)))).toInt64)))))]) (Bw := (zWM cI cJ cZ h2 0 (n, L) ((zcb kt pt), (zcb km pm), (zcb kl pl)) mc (true, (0 + 1), (upd nu 0 (nI k)), (0 + zsz (L k)), (zale le 0 (L k) (zsz (L k))), (zaaf af 0 (zsz (L k))), 0, 0, 0, 0) (co, yn, yh, pa))) hP
  have hD9 : va_D (zAb s.heap.size) ((zWM cI cJ cZ h2 0 (n, L) ((zcb kt pt), (zcb km pm), (zcb kl pl)) mc (true, (0 + 1), (upd nu 0 (nI k)), (0 + zsz (L k)), (zale le 0 (L k) (zsz (L k))), (zaaf af 0 (zsz (L k))), 0, 0, 0, 0) (co, yn, yh, pa)) ++ ((zWT cI cJ h (n, L) (kt, km, kl) (pt, pm, pl) ((upd nu 0 (nI k)), (zale le 0 (L k) (zsz (L k))), (zaow ow 0 0 (zsz (L k))), (zafo (zfil 26 0 fo) (L k) (zsz (L k))), true, (0 + 1), (0 + zsz (L k)), 0, 0, 0, 0) (yl, yc, yt, co, pa, su, sc) mc) ++ [(oa, .inl (cJ, 1, .inr (.inl (vp_updL yo 0 (((nI (0 + zsz (L k)))).toInt64)))))])) := zswapD (A := (zWT cI cJ h (n, L) (kt, km, kl) (pt, pm, pl) ((upd nu 0 (nI k)), (zale le 0 (L k) (zsz (L k))), (zaow ow 0 0 (zsz (L k))), (zafo (zfil 26 0 fo) (L k) (zsz (L k))), true, (0 + 1), (0 + zsz (L k)), 0, 0, 0, 0) (yl, yc, yt, co, pa, su, sc) mc) ++ [(oa, .inl (cJ, 1, .inr (.inl (vp_updL yo 0 (((nI (0 + zsz (L k)))).toInt64)))))]) (Bw := (zWM cI cJ cZ h2 0 (n, L) ((zcb kt pt), (zcb km pm), (zcb kl pl)) mc (true, (0 + 1), (upd nu 0 (nI k)), (0 + zsz (L k)), (zale le 0 (L k) (zsz (L k))), (zaaf af 0 (zsz (L k))), 0, 0, 0, 0) (co, yn, yh, pa))) hD
  refine zci (zrV (As := []) (rest := []) ⟨hx, hb, hml, hown, hts⟩ (zV 0 hP9 hD9 hK hE hB hS rfl rfl) (c_X5_thrown  ) (cwV 0 hts gL_law_X5_thrown rfl rfl rfl hdv_X5_thrown ⟨Nat.le_of_ble_eq_true rfl, Nat.le_of_ble_eq_true rfl⟩) rfl rfl hl.1 rfl (lv_room (Nat.le_of_ble_eq_true rfl)) dL_law_513 ⟨(show cc + 0 + 0 + 0 ≤ 601024 by omega), (show ss + 0 + 0 + 0 ≤ 7293034 by omega)⟩) hS (fun H locs hP hD hS => ?_)
  have hP : va_P D vwCl ((zWT cI cJ h (n, L) (kt, km, kl) (pt, pm, pl) ((upd nu 0 (nI k)), (zale le 0 (L k) (zsz (L k))), (zaow ow 0 0 (zsz (L k))), (zafo (zfil 26 0 fo) (L k) (zsz (L k))), true, (0 + 1), (0 + zsz (L k)), 0, 0, 0, 0) (yl, yc, yt, co, pa, su, sc) mc) ++ ((oa, .inl (cJ, 1, .inr (.inl (vp_updL yo 0 (((nI (0 + zsz (L k)))).toInt64))))) :: (zWM cI cJ cZ h2 0 (n, L) ((zcb kt pt), (zcb km pm), (zcb kl pl)) mc (true, (0 + 1), (upd nu 0 (nI k)), (0 + zsz (L k)), (zale le 0 (L k) (zsz (L k))), (zaaf af 0 (zsz (L k))), 0, 0, 0, 0) (co, yn, yh, pa)))) H := zswapP (A := (zWM cI cJ cZ h2 0 (n, L) ((zcb kt pt), (zcb km pm), (zcb kl pl)) mc (true, (0 + 1), (upd nu 0 (nI k)), (0 + zsz (L k)), (zale le 0 (L k) (zsz (L k))), (zaaf af 0 (zsz (L k))), 0, 0, 0, 0) (co, yn, yh, pa))) (Bw := (zWT cI cJ h (n, L) (kt, km, kl) (pt, pm, pl) ((upd nu 0 (nI k)), (zale le 0 (L k) (zsz (L k))), (zaow ow 0 0 (zsz (L k))), (zafo (zfil 26 0 fo) (L k) (zsz (L k))), true, (0 + 1), (0 + zsz (L k)), 0, 0, 0, 0) (yl, yc, yt, co, pa, su, sc) mc) ++ [(oa, .inl (cJ, 1, .inr (.inl (vp_updL yo 0 (((nI (0 + zsz (L k)))).toInt64)))))]) hP
  have hD : va_D (zAb s.heap.size) ((zWT cI cJ h (n, L) (kt, km, kl) (pt, pm, pl) ((upd nu 0 (nI k)), (zale le 0 (L k) (zsz (L k))), (zaow ow 0 0 (zsz (L k))), (zafo (zfil 26 0 fo) (L k) (zsz (L k))), true, (0 + 1), (0 + zsz (L k)), 0, 0, 0, 0) (yl, yc, yt, co, pa, su, sc) mc) ++ ((oa, .inl (cJ, 1, .inr (.inl (vp_updL yo 0 (((nI (0 + zsz (L k)))).toInt64))))) :: (zWM cI cJ cZ h2 0 (n, L) ((zcb kt pt), (zcb km pm), (zcb kl pl)) mc (true, (0 + 1), (upd nu 0 (nI k)), (0 + zsz (L k)), (zale le 0 (L k) (zsz (L k))), (zaaf af 0 (zsz (L k))), 0, 0, 0, 0) (co, yn, yh, pa)))) := zswapD (A := (zWM cI cJ cZ h2 0 (n, L) ((zcb kt pt), (zcb km pm), (zcb kl pl)) mc (true, (0 + 1), (upd nu 0 (nI k)), (0 + zsz (L k)), (zale le 0 (L k) (zsz (L k))), (zaaf af 0 (zsz (L k))), 0, 0, 0, 0) (co, yn, yh, pa))) (Bw := (zWT cI cJ h (n, L) (kt, km, kl) (pt, pm, pl) ((upd nu 0 (nI k)), (zale le 0 (L k) (zsz (L k))), (zaow ow 0 0 (zsz (L k))), (zafo (zfil 26 0 fo) (L k) (zsz (L k))), true, (0 + 1), (0 + zsz (L k)), 0, 0, 0, 0) (yl, yc, yt, co, pa, su, sc) mc) ++ [(oa, .inl (cJ, 1, .inr (.inl (vp_updL yo 0 (((nI (0 + zsz (L k)))).toInt64)))))]) hD
  refine lv_iload hx hb dL_law_516 (lv_at hl 1 rfl) ?_
  refine lv_icmp_eq (tgt := 523) hx hb dL_law_518 (by decide) (fun c_5 => ?_) (fun c_5 => ?_)
  · skip
    refine lv_iload hx hb dL_law_523 (lv_at hl 1 rfl) ?_
    refine lv_if_ne (tgt := 540) hx hb dL_law_525 (by decide) (fun c_6 => ?_) (fun c_6 => ?_)
    · skip
      exfalso; first | omega | (revert c_6; decide) | (exact absurd rfl c_6) | simp_all
    · skip
      refine lv_aload_n hx hb dL_law_528 rfl (lv_at hl 5 rfl) ?_
      refine lv_iconst (v := 0) hx hb dL_law_529 (by decide) ?_
      refine va_lald hx hb hK hP 21 1 rfl rfl (vp_in_nI (n := 0) (N := 1) (by omega) (by omega)) dL_law_530 ?_
      refine lv_topl (fun v_7 ev_7 => ?_)
      obtain rfl : (((nI (0 + zsz (L k)))).toInt64) = v_7 := (ev_7.trans (pk_uLs (f := yo) (k := 0) (x := (((nI (0 + zsz (L k)))).toInt64)))).symm
      refine lv_iload hx hb dL_law_531 (lv_at hl 0 rfl) ?_
      refine lv_i2l (v := ((nI (0 + zsz (L k)))).toInt64) hx hb dL_law_533 rfl ?_
      refine W.lcmp hx hb dL_law_534 ?_
      refine lv_if_eq (tgt := 540) hx hb dL_law_535 (by decide) (fun c_8 => ?_) (fun c_8 => ?_)
      · skip
        have c_8 : (((nI (0 + zsz (L k)))).toInt64) = (((nI (0 + zsz (L k)))).toInt64) := (lg_cmp_eq _ _).mp c_8
        refine lv_goto (tgt := 1191) hx hb dL_law_540 (by decide) ?_
        refine W.widen (k := cc + 2) (n := ss + 1542) (show cc + 0 + 0 + 0 ≤ cc + 2 by omega) (show ss + 0 + 0 + 0 ≤ ss + 1542 by omega) ?_
        exact kont h h2 oa (vp_updL yo 0 (((nI (0 + zsz (L k)))).toInt64)) 0 n L kt km kl pt pm pl (upd nu 0 (nI k)) (zale le 0 (L k) (zsz (L k))) (zaow ow 0 0 (zsz (L k))) (zafo (zfil 26 0 fo) (L k) (zsz (L k))) true (0 + 1) (0 + zsz (L k)) 0 0 0 0 yl yc yt co pa su sc mc (zaaf af 0 (zsz (L k))) yn yh (hI.opedW (nu := nu) (fo := fo) hk) _ _ _ hP hD hS (lv_sub hl [2, 3, 4, 5, 6] rfl)
      · skip
        have c_8 : ¬ (((nI (0 + zsz (L k)))).toInt64) = (((nI (0 + zsz (L k)))).toInt64) := fun hh => c_8 ((lg_cmp_eq _ _).mpr hh)
        exact absurd rfl c_8
  · skip
    exfalso; first | omega | (revert c_5; decide) | (exact absurd rfl c_5) | simp_all

set_option maxHeartbeats 1000000 in
set_option maxRecDepth 100000 in
theorem law_openWord_x1 {p : Program} {l : Launch} {e : Env} {s : State} {m : MethodId} {below : List Frame} {meth : Method} {c : Code} {b L9 : Nat} {xs : Nat → Int32} {D : va_G} {cI cJ cZ : ClassId} {kr kp j cc ss : Nat} {h h2 : Nat → Nat} {oa : Nat} {yo : Nat → Int64} {th : Int32} {n : Nat} {L : Nat → Int64} {kt : Nat → Int32} {km : Nat → Int32} {kl : Nat → Int32} {pt : Nat → Int32} {pm : Nat → Int32} {pl : Nat → Int32} {nu : Nat → Int32} {le : Nat → Int32} {ow : Nat → Int32} {fo : Nat → Int32} {run : Bool} {wc : Nat} {lc : Nat} {tr : Nat} {cl : Nat} {tm : Nat} {ms : Nat} {yl : Nat → Int32} {yc : Nat → Int32} {yt : Nat → Int32} {co : Nat} {pa : Int32} {su : Nat} {sc : Nat} {mc : Nat → Int32} {af : Nat → Int32} {yn : Nat} {yh : Nat → Int32} {i : Int32} (C : zLw p l s m meth c b L9 xs D cI cJ cZ kr kp) (hj : 4 * j + 4 ≤ L9) (hcc : cc + 2 ≤ 601024) (hss : ss + 1542 ≤ 7293034) (kont : zKt p l e s m below meth c b D cI cJ cZ j cc ss) (hI : zInv j n L pt le ow af run wc lc tr cl tm ms yl yc yt co yn su sc yh) (ea1 : xs (4 * j + 1) = i) (hi : i < 0 ∨ nI n ≤ i) {H : Heap} {locs : List Loc} {ls : Array Slot} (hP : va_P D vwCl ((zWT cI cJ h (n, L) (kt, km, kl) (pt, pm, pl) (nu, le, ow, fo, run, wc, lc, tr, cl, tm, ms) (yl, yc, yt, co, pa, su, sc) mc) ++ ((oa, .inl (cJ, 1, .inr (.inl yo))) :: (zWM cI cJ cZ h2 th (n, L) ((zcb kt pt), (zcb km pm), (zcb kl pl)) mc (run, wc, nu, lc, le, af, tr, ms, cl, tm) (co, yn, yh, pa)))) H) (hD : va_D (zAb s.heap.size) ((zWT cI cJ h (n, L) (kt, km, kl) (pt, pm, pl) (nu, le, ow, fo, run, wc, lc, tr, cl, tm, ms) (yl, yc, yt, co, pa, su, sc) mc) ++ ((oa, .inl (cJ, 1, .inr (.inl yo))) :: (zWM cI cJ cZ h2 th (n, L) ((zcb kt pt), (zcb km pm), (zcb kl pl)) mc (run, wc, nu, lc, le, af, tr, ms, cl, tm) (co, yn, yh, pa))))) (hS : va_S (zAb s.heap.size) s.heap H locs) (hl : lv_has ls 9 [(0, .ref b), (1, .ref (h 0)), (2, .ref (h2 0)), (3, .ref oa), (4, .int (nI (4 * j)))]) : W p l e room_1 s m #[Value.ref b] below meth c H locs cc ss (lw_Z below #[Value.ref b] s) (F0 m 487 ls []) := by
  obtain ⟨C0, hls, hK, hE, hL9⟩ := C
  obtain ⟨hx, hb, hr, hml, hown, hts0, hX, hbl, hlocks, hgv⟩ := C0
  have hts : ∀ w ∈ wsL_law, w.before #[Value.ref b] s = true := fun w h => hts0 w (wsL_law_in w h)
  have hbA : ¬ zAb s.heap.size b := Nat.not_le.mpr hbl
  have hB : s.heap.size ≤ s.heap.size := Nat.le_refl _
  have hn40 := hI.1.1
  have hzk := hI.1.2
  obtain ⟨hwc6, hlc48, htrl, hclt, hms1⟩ := hI.2.1
  have hrt := hI.2.2.1
  have hle := hI.2.2.2.1
  have hMk := hI.2.2.2.2.1
  have hct := hI.2.2.2.2.2.1
  have hHi := hI.2.2.2.2.2.2.1
  have hsu := hI.2.2.2.2.2.2.2.2.1
  have hj5 : j ≤ 511 := by omega
  have hco : co < 256 := by have := hct.1; omega
  have hco6 : co ≤ 256 := Nat.le_of_lt hco
  have hsl : su < 2147483648 := by have := hsu.2.2; omega
  have hpt := hI.hpt (Nat.le_succ_of_le hj5)
  refine lv_aload_n hx hb dL_law_487 rfl (lv_at hl 1 rfl) ?_
  refine lv_aload_n hx hb dL_law_488 rfl (lv_at hl 0 rfl) ?_
  refine lv_iload hx hb dL_law_489 (lv_at hl 4 rfl) ?_
  refine lv_iconst (v := 1) hx hb dL_law_491 (by decide) ?_
  refine lv_iadd hx hb dL_law_492 ?_
  refine lv_topi (fun v_1 ev_1 => ?_)
  obtain rfl : v_1 = (nI ((4 * j) + 1)) := ev_1.trans (nI_add (4 * j) 1)
  refine va_sld hx hb hX hbl hbA hS (vp_in_nI (n := ((4 * j) + 1)) (N := L9) (by omega) (by omega)) dL_law_493 ?_
  refine lv_topi (fun v_2 ev_2 => ?_)
  obtain rfl : i = v_2 := (ev_2.trans ((congrArg xs (nI_clamp (by omega))).trans ea1)).symm
  refine lv_aload_n hx hb dL_law_494 rfl (lv_at hl 3 rfl) ?_
  refine zci (vx_runSW (As := [.ref (h 0), .int i, .ref oa]) (rest := []) ⟨hx, hb, hml, hown, hts⟩ (c_L_openWord_x1  hls (hi) (hn40)) (vx_cwSW 3 hts gL_law_L_openWord rfl rfl rfl hds_L_openWord ⟨Nat.le_of_ble_eq_true rfl, Nat.le_of_ble_eq_true rfl⟩) (zS hP hD hK hE hB hS) rfl rfl hl.1 rfl (lv_room (Nat.le_of_ble_eq_true rfl)) dL_law_495 ⟨(show cc + 1 ≤ 601024 by omega), (show ss + 6 ≤ 7293034 by omega)⟩) hS (fun H locs hP hD hS => ?_)
  have hP : va_P D vwCl ((zWT cI cJ h (n, L) (kt, km, kl) (pt, pm, pl) (nu, le, ow, fo, run, wc, lc, tr, cl, tm, ms) (yl, yc, yt, co, pa, su, sc) mc) ++ ((oa, .inl (cJ, 1, .inr (.inl yo))) :: (zWM cI cJ cZ h2 th (n, L) ((zcb kt pt), (zcb km pm), (zcb kl pl)) mc (run, wc, nu, lc, le, af, tr, ms, cl, tm) (co, yn, yh, pa)))) H := hP
  have hD : va_D (zAb s.heap.size) ((zWT cI cJ h (n, L) (kt, km, kl) (pt, pm, pl) (nu, le, ow, fo, run, wc, lc, tr, cl, tm, ms) (yl, yc, yt, co, pa, su, sc) mc) ++ ((oa, .inl (cJ, 1, .inr (.inl yo))) :: (zWM cI cJ cZ h2 th (n, L) ((zcb kt pt), (zcb km pm), (zcb kl pl)) mc (run, wc, nu, lc, le, af, tr, ms, cl, tm) (co, yn, yh, pa)))) := hD
  refine lv_istore (lv' := [(5, .int 1), (0, .ref b), (1, .ref (h 0)), (2, .ref (h2 0)), (3, .ref oa), (4, .int (nI (4 * j)))]) hx hb dL_law_498 hl (by decide) rfl (fun ls hl => ?_)
  refine lv_aload_n hx hb dL_law_500 rfl (lv_at hl 3 rfl) ?_
  refine lv_aload_n hx hb dL_law_501 rfl (lv_at hl 1 rfl) ?_
  refine lv_iload hx hb dL_law_502 (lv_at hl 5 rfl) ?_
  refine lv_iconst (v := 1) hx hb dL_law_504 (by decide) ?_
  refine lv_iadd hx hb dL_law_505 ?_
  refine lv_topi (fun v_3 ev_3 => ?_)
  obtain rfl : v_3 = (nI ((4 * j) + 1)) := ev_3.trans (nI_add (4 * j) 1)
  refine va_sld hx hb hX hbl hbA hS (vp_in_nI (n := ((4 * j) + 1)) (N := L9) (by omega) (by omega)) dL_law_506 ?_
  refine lv_topi (fun v_4 ev_4 => ?_)
  obtain rfl : i = v_4 := (ev_4.trans ((congrArg xs (nI_clamp (by omega))).trans ea1)).symm
  have hP9 : va_P D vwCl ((zWM cI cJ cZ h2 th (n, L) ((zcb kt pt), (zcb km pm), (zcb kl pl)) mc (run, wc, nu, lc, le, af, tr, ms, cl, tm) (co, yn, yh, pa)) ++ ((zWT cI cJ h (n, L) (kt, km, kl) (pt, pm, pl) (nu, le, ow, fo, run, wc, lc, tr, cl, tm, ms) (yl, yc, yt, co, pa, su, sc) mc) ++ [(oa, .inl (cJ, 1, .inr (.inl yo)))])) H := zswapP (A := (zWT cI cJ h (n, L) (kt, km, kl) (pt, pm, pl) (nu, le, ow, fo, run, wc, lc, tr, cl, tm, ms) (yl, yc, yt, co, pa, su, sc) mc) ++ [(oa, .inl (cJ, 1, .inr (.inl yo)))]) (Bw := (zWM cI cJ cZ h2 th (n, L) ((zcb kt pt), (zcb km pm), (zcb kl pl)) mc (run, wc, nu, lc, le, af, tr, ms, cl, tm) (co, yn, yh, pa))) hP
  have hD9 : va_D (zAb s.heap.size) ((zWM cI cJ cZ h2 th (n, L) ((zcb kt pt), (zcb km pm), (zcb kl pl)) mc (run, wc, nu, lc, le, af, tr, ms, cl, tm) (co, yn, yh, pa)) ++ ((zWT cI cJ h (n, L) (kt, km, kl) (pt, pm, pl) (nu, le, ow, fo, run, wc, lc, tr, cl, tm, ms) (yl, yc, yt, co, pa, su, sc) mc) ++ [(oa, .inl (cJ, 1, .inr (.inl yo)))])) := zswapD (A := (zWT cI cJ h (n, L) (kt, km, kl) (pt, pm, pl) (nu, le, ow, fo, run, wc, lc, tr, cl, tm, ms) (yl, yc, yt, co, pa, su, sc) mc) ++ [(oa, .inl (cJ, 1, .inr (.inl yo)))]) (Bw := (zWM cI cJ cZ h2 th (n, L) ((zcb kt pt), (zcb km pm), (zcb kl pl)) mc (run, wc, nu, lc, le, af, tr, ms, cl, tm) (co, yn, yh, pa))) hD
  refine zci (zrV (As := [.int i]) (rest := []) ⟨hx, hb, hml, hown, hts⟩ (zV 0 hP9 hD9 hK hE hB hS rfl rfl) (c_X5_openWord_x1  (hi) (hn40)) (cwV 1 hts gL_law_X5_openWord rfl rfl rfl hdv_X5_openWord ⟨Nat.le_of_ble_eq_true rfl, Nat.le_of_ble_eq_true rfl⟩) rfl rfl hl.1 rfl (lv_room (Nat.le_of_ble_eq_true rfl)) dL_law_507 ⟨(show cc + 1 + 0 ≤ 601024 by omega), (show ss + 6 + 0 ≤ 7293034 by omega)⟩) hS (fun H locs hP hD hS => ?_)
  have hP : va_P D vwCl ((zWT cI cJ h (n, L) (kt, km, kl) (pt, pm, pl) (nu, le, ow, fo, run, wc, lc, tr, cl, tm, ms) (yl, yc, yt, co, pa, su, sc) mc) ++ ((oa, .inl (cJ, 1, .inr (.inl yo))) :: (zWM cI cJ cZ h2 1 (n, L) ((zcb kt pt), (zcb km pm), (zcb kl pl)) mc (run, wc, nu, lc, le, af, tr, ms, cl, tm) (co, yn, yh, pa)))) H := zswapP (A := (zWM cI cJ cZ h2 1 (n, L) ((zcb kt pt), (zcb km pm), (zcb kl pl)) mc (run, wc, nu, lc, le, af, tr, ms, cl, tm) (co, yn, yh, pa))) (Bw := (zWT cI cJ h (n, L) (kt, km, kl) (pt, pm, pl) (nu, le, ow, fo, run, wc, lc, tr, cl, tm, ms) (yl, yc, yt, co, pa, su, sc) mc) ++ [(oa, .inl (cJ, 1, .inr (.inl yo)))]) hP
  have hD : va_D (zAb s.heap.size) ((zWT cI cJ h (n, L) (kt, km, kl) (pt, pm, pl) (nu, le, ow, fo, run, wc, lc, tr, cl, tm, ms) (yl, yc, yt, co, pa, su, sc) mc) ++ ((oa, .inl (cJ, 1, .inr (.inl yo))) :: (zWM cI cJ cZ h2 1 (n, L) ((zcb kt pt), (zcb km pm), (zcb kl pl)) mc (run, wc, nu, lc, le, af, tr, ms, cl, tm) (co, yn, yh, pa)))) := zswapD (A := (zWM cI cJ cZ h2 1 (n, L) ((zcb kt pt), (zcb km pm), (zcb kl pl)) mc (run, wc, nu, lc, le, af, tr, ms, cl, tm) (co, yn, yh, pa))) (Bw := (zWT cI cJ h (n, L) (kt, km, kl) (pt, pm, pl) (nu, le, ow, fo, run, wc, lc, tr, cl, tm, ms) (yl, yc, yt, co, pa, su, sc) mc) ++ [(oa, .inl (cJ, 1, .inr (.inl yo)))]) hD
  refine lv_istore (lv' := [(6, .int 0), (5, .int 1), (0, .ref b), (1, .ref (h 0)), (2, .ref (h2 0)), (3, .ref oa), (4, .int (nI (4 * j)))]) hx hb dL_law_510 hl (by decide) rfl (fun ls hl => ?_)
  refine lv_aload_n hx hb dL_law_512 rfl (lv_at hl 4 rfl) ?_
  have hP9 : va_P D vwCl ((zWM cI cJ cZ h2 1 (n, L) ((zcb kt pt), (zcb km pm), (zcb kl pl)) mc (run, wc, nu, lc, le, af, tr, ms, cl, tm) (co, yn, yh, pa)) ++ ((zWT cI cJ h (n, L) (kt, km, kl) (pt, pm, pl) (nu, le, ow, fo, run, wc, lc, tr, cl, tm, ms) (yl, yc, yt, co, pa, su, sc) mc) ++ [(oa, .inl (cJ, 1, .inr (.inl yo)))])) H := zswapP (A := (zWT cI cJ h (n, L) (kt, km, kl) (pt, pm, pl) (nu, le, ow, fo, run, wc, lc, tr, cl, tm, ms) (yl, yc, yt, co, pa, su, sc) mc) ++ [(oa, .inl (cJ, 1, .inr (.inl yo)))]) (Bw := (zWM cI cJ cZ h2 1 (n, L) ((zcb kt pt), (zcb km pm), (zcb kl pl)) mc (run, wc, nu, lc, le, af, tr, ms, cl, tm) (co, yn, yh, pa))) hP
  have hD9 : va_D (zAb s.heap.size) ((zWM cI cJ cZ h2 1 (n, L) ((zcb kt pt), (zcb km pm), (zcb kl pl)) mc (run, wc, nu, lc, le, af, tr, ms, cl, tm) (co, yn, yh, pa)) ++ ((zWT cI cJ h (n, L) (kt, km, kl) (pt, pm, pl) (nu, le, ow, fo, run, wc, lc, tr, cl, tm, ms) (yl, yc, yt, co, pa, su, sc) mc) ++ [(oa, .inl (cJ, 1, .inr (.inl yo)))])) := zswapD (A := (zWT cI cJ h (n, L) (kt, km, kl) (pt, pm, pl) (nu, le, ow, fo, run, wc, lc, tr, cl, tm, ms) (yl, yc, yt, co, pa, su, sc) mc) ++ [(oa, .inl (cJ, 1, .inr (.inl yo)))]) (Bw := (zWM cI cJ cZ h2 1 (n, L) ((zcb kt pt), (zcb km pm), (zcb kl pl)) mc (run, wc, nu, lc, le, af, tr, ms, cl, tm) (co, yn, yh, pa))) hD
  refine zci (zrV (As := []) (rest := []) ⟨hx, hb, hml, hown, hts⟩ (zV 0 hP9 hD9 hK hE hB hS rfl rfl) (c_X5_thrown  ) (cwV 0 hts gL_law_X5_thrown rfl rfl rfl hdv_X5_thrown ⟨Nat.le_of_ble_eq_true rfl, Nat.le_of_ble_eq_true rfl⟩) rfl rfl hl.1 rfl (lv_room (Nat.le_of_ble_eq_true rfl)) dL_law_513 ⟨(show cc + 1 + 0 + 0 ≤ 601024 by omega), (show ss + 6 + 0 + 0 ≤ 7293034 by omega)⟩) hS (fun H locs hP hD hS => ?_)
  have hP : va_P D vwCl ((zWT cI cJ h (n, L) (kt, km, kl) (pt, pm, pl) (nu, le, ow, fo, run, wc, lc, tr, cl, tm, ms) (yl, yc, yt, co, pa, su, sc) mc) ++ ((oa, .inl (cJ, 1, .inr (.inl yo))) :: (zWM cI cJ cZ h2 1 (n, L) ((zcb kt pt), (zcb km pm), (zcb kl pl)) mc (run, wc, nu, lc, le, af, tr, ms, cl, tm) (co, yn, yh, pa)))) H := zswapP (A := (zWM cI cJ cZ h2 1 (n, L) ((zcb kt pt), (zcb km pm), (zcb kl pl)) mc (run, wc, nu, lc, le, af, tr, ms, cl, tm) (co, yn, yh, pa))) (Bw := (zWT cI cJ h (n, L) (kt, km, kl) (pt, pm, pl) (nu, le, ow, fo, run, wc, lc, tr, cl, tm, ms) (yl, yc, yt, co, pa, su, sc) mc) ++ [(oa, .inl (cJ, 1, .inr (.inl yo)))]) hP
  have hD : va_D (zAb s.heap.size) ((zWT cI cJ h (n, L) (kt, km, kl) (pt, pm, pl) (nu, le, ow, fo, run, wc, lc, tr, cl, tm, ms) (yl, yc, yt, co, pa, su, sc) mc) ++ ((oa, .inl (cJ, 1, .inr (.inl yo))) :: (zWM cI cJ cZ h2 1 (n, L) ((zcb kt pt), (zcb km pm), (zcb kl pl)) mc (run, wc, nu, lc, le, af, tr, ms, cl, tm) (co, yn, yh, pa)))) := zswapD (A := (zWM cI cJ cZ h2 1 (n, L) ((zcb kt pt), (zcb km pm), (zcb kl pl)) mc (run, wc, nu, lc, le, af, tr, ms, cl, tm) (co, yn, yh, pa))) (Bw := (zWT cI cJ h (n, L) (kt, km, kl) (pt, pm, pl) (nu, le, ow, fo, run, wc, lc, tr, cl, tm, ms) (yl, yc, yt, co, pa, su, sc) mc) ++ [(oa, .inl (cJ, 1, .inr (.inl yo)))]) hD
  refine lv_iload hx hb dL_law_516 (lv_at hl 1 rfl) ?_
  refine lv_icmp_eq (tgt := 523) hx hb dL_law_518 (by decide) (fun c_5 => ?_) (fun c_5 => ?_)
  · skip
    refine lv_iload hx hb dL_law_523 (lv_at hl 1 rfl) ?_
    refine lv_if_ne (tgt := 540) hx hb dL_law_525 (by decide) (fun c_6 => ?_) (fun c_6 => ?_)
    · skip
      refine lv_goto (tgt := 1191) hx hb dL_law_540 (by decide) ?_
      refine W.widen (k := cc + 2) (n := ss + 1542) (show cc + 1 + 0 + 0 ≤ cc + 2 by omega) (show ss + 6 + 0 + 0 ≤ ss + 1542 by omega) ?_
      exact kont h h2 oa yo 1 n L kt km kl pt pm pl nu le ow fo run wc lc tr cl tm ms yl yc yt co pa su sc mc af yn yh (hI.mono) _ _ _ hP hD hS (lv_sub hl [2, 3, 4, 5, 6] rfl)
    · skip
      exfalso; first | omega | (revert c_6; decide) | (exact absurd rfl c_6) | simp_all
  · skip
    exfalso; first | omega | (revert c_5; decide) | (exact absurd rfl c_5) | simp_all

set_option maxHeartbeats 1000000 in
set_option maxRecDepth 100000 in
theorem law_openWord_x2 {p : Program} {l : Launch} {e : Env} {s : State} {m : MethodId} {below : List Frame} {meth : Method} {c : Code} {b L9 : Nat} {xs : Nat → Int32} {D : va_G} {cI cJ cZ : ClassId} {kr kp j cc ss : Nat} {h h2 : Nat → Nat} {oa : Nat} {yo : Nat → Int64} {th : Int32} {n : Nat} {L : Nat → Int64} {kt : Nat → Int32} {km : Nat → Int32} {kl : Nat → Int32} {pt : Nat → Int32} {pm : Nat → Int32} {pl : Nat → Int32} {nu : Nat → Int32} {le : Nat → Int32} {ow : Nat → Int32} {fo : Nat → Int32} {run : Bool} {wc : Nat} {lc : Nat} {tr : Nat} {cl : Nat} {tm : Nat} {ms : Nat} {yl : Nat → Int32} {yc : Nat → Int32} {yt : Nat → Int32} {co : Nat} {pa : Int32} {su : Nat} {sc : Nat} {mc : Nat → Int32} {af : Nat → Int32} {yn : Nat} {yh : Nat → Int32} {k : Nat} (C : zLw p l s m meth c b L9 xs D cI cJ cZ kr kp) (hj : 4 * j + 4 ≤ L9) (hcc : cc + 2 ≤ 601024) (hss : ss + 1542 ≤ 7293034) (kont : zKt p l e s m below meth c b D cI cJ cZ j cc ss) (hI : zInv j n L pt le ow af true wc lc tr cl tm ms yl yc yt co yn su sc yh) (ea1 : xs (4 * j + 1) = nI k) (hk : k < n) {H : Heap} {locs : List Loc} {ls : Array Slot} (hP : va_P D vwCl ((zWT cI cJ h (n, L) (kt, km, kl) (pt, pm, pl) (nu, le, ow, fo, true, wc, lc, tr, cl, tm, ms) (yl, yc, yt, co, pa, su, sc) mc) ++ ((oa, .inl (cJ, 1, .inr (.inl yo))) :: (zWM cI cJ cZ h2 th (n, L) ((zcb kt pt), (zcb km pm), (zcb kl pl)) mc (true, wc, nu, lc, le, af, tr, ms, cl, tm) (co, yn, yh, pa)))) H) (hD : va_D (zAb s.heap.size) ((zWT cI cJ h (n, L) (kt, km, kl) (pt, pm, pl) (nu, le, ow, fo, true, wc, lc, tr, cl, tm, ms) (yl, yc, yt, co, pa, su, sc) mc) ++ ((oa, .inl (cJ, 1, .inr (.inl yo))) :: (zWM cI cJ cZ h2 th (n, L) ((zcb kt pt), (zcb km pm), (zcb kl pl)) mc (true, wc, nu, lc, le, af, tr, ms, cl, tm) (co, yn, yh, pa))))) (hS : va_S (zAb s.heap.size) s.heap H locs) (hl : lv_has ls 9 [(0, .ref b), (1, .ref (h 0)), (2, .ref (h2 0)), (3, .ref oa), (4, .int (nI (4 * j)))]) : W p l e room_1 s m #[Value.ref b] below meth c H locs cc ss (lw_Z below #[Value.ref b] s) (F0 m 487 ls []) := by
  obtain ⟨C0, hls, hK, hE, hL9⟩ := C
  obtain ⟨hx, hb, hr, hml, hown, hts0, hX, hbl, hlocks, hgv⟩ := C0
  have hts : ∀ w ∈ wsL_law, w.before #[Value.ref b] s = true := fun w h => hts0 w (wsL_law_in w h)
  have hbA : ¬ zAb s.heap.size b := Nat.not_le.mpr hbl
  have hB : s.heap.size ≤ s.heap.size := Nat.le_refl _
  have hn40 := hI.1.1
  have hzk := hI.1.2
  obtain ⟨hwc6, hlc48, htrl, hclt, hms1⟩ := hI.2.1
  have hrt := hI.2.2.1
  have hle := hI.2.2.2.1
  have hMk := hI.2.2.2.2.1
  have hct := hI.2.2.2.2.2.1
  have hHi := hI.2.2.2.2.2.2.1
  have hsu := hI.2.2.2.2.2.2.2.2.1
  have hj5 : j ≤ 511 := by omega
  have hco : co < 256 := by have := hct.1; omega
  have hco6 : co ≤ 256 := Nat.le_of_lt hco
  have hsl : su < 2147483648 := by have := hsu.2.2; omega
  have hpt := hI.hpt (Nat.le_succ_of_le hj5)
  refine lv_aload_n hx hb dL_law_487 rfl (lv_at hl 1 rfl) ?_
  refine lv_aload_n hx hb dL_law_488 rfl (lv_at hl 0 rfl) ?_
  refine lv_iload hx hb dL_law_489 (lv_at hl 4 rfl) ?_
  refine lv_iconst (v := 1) hx hb dL_law_491 (by decide) ?_
  refine lv_iadd hx hb dL_law_492 ?_
  refine lv_topi (fun v_1 ev_1 => ?_)
  obtain rfl : v_1 = (nI ((4 * j) + 1)) := ev_1.trans (nI_add (4 * j) 1)
  refine va_sld hx hb hX hbl hbA hS (vp_in_nI (n := ((4 * j) + 1)) (N := L9) (by omega) (by omega)) dL_law_493 ?_
  refine lv_topi (fun v_2 ev_2 => ?_)
  obtain rfl : (nI k) = v_2 := (ev_2.trans ((congrArg xs (nI_clamp (by omega))).trans ea1)).symm
  refine lv_aload_n hx hb dL_law_494 rfl (lv_at hl 3 rfl) ?_
  refine zci (vx_runSW (As := [.ref (h 0), .int (nI k), .ref oa]) (rest := []) ⟨hx, hb, hml, hown, hts⟩ (c_L_openWord_x2 (k := k) hls (hk) (hn40) (rfl)) (vx_cwSW 3 hts gL_law_L_openWord rfl rfl rfl hds_L_openWord ⟨Nat.le_of_ble_eq_true rfl, Nat.le_of_ble_eq_true rfl⟩) (zS hP hD hK hE hB hS) rfl rfl hl.1 rfl (lv_room (Nat.le_of_ble_eq_true rfl)) dL_law_495 ⟨(show cc + 1 ≤ 601024 by omega), (show ss + 6 ≤ 7293034 by omega)⟩) hS (fun H locs hP hD hS => ?_)
  have hP : va_P D vwCl ((zWT cI cJ h (n, L) (kt, km, kl) (pt, pm, pl) (nu, le, ow, fo, true, wc, lc, tr, cl, tm, ms) (yl, yc, yt, co, pa, su, sc) mc) ++ ((oa, .inl (cJ, 1, .inr (.inl yo))) :: (zWM cI cJ cZ h2 th (n, L) ((zcb kt pt), (zcb km pm), (zcb kl pl)) mc (true, wc, nu, lc, le, af, tr, ms, cl, tm) (co, yn, yh, pa)))) H := hP
  have hD : va_D (zAb s.heap.size) ((zWT cI cJ h (n, L) (kt, km, kl) (pt, pm, pl) (nu, le, ow, fo, true, wc, lc, tr, cl, tm, ms) (yl, yc, yt, co, pa, su, sc) mc) ++ ((oa, .inl (cJ, 1, .inr (.inl yo))) :: (zWM cI cJ cZ h2 th (n, L) ((zcb kt pt), (zcb km pm), (zcb kl pl)) mc (true, wc, nu, lc, le, af, tr, ms, cl, tm) (co, yn, yh, pa)))) := hD
  refine lv_istore (lv' := [(5, .int 2), (0, .ref b), (1, .ref (h 0)), (2, .ref (h2 0)), (3, .ref oa), (4, .int (nI (4 * j)))]) hx hb dL_law_498 hl (by decide) rfl (fun ls hl => ?_)
  refine lv_aload_n hx hb dL_law_500 rfl (lv_at hl 3 rfl) ?_
  refine lv_aload_n hx hb dL_law_501 rfl (lv_at hl 1 rfl) ?_
  refine lv_iload hx hb dL_law_502 (lv_at hl 5 rfl) ?_
  refine lv_iconst (v := 1) hx hb dL_law_504 (by decide) ?_
  refine lv_iadd hx hb dL_law_505 ?_
  refine lv_topi (fun v_3 ev_3 => ?_)
  obtain rfl : v_3 = (nI ((4 * j) + 1)) := ev_3.trans (nI_add (4 * j) 1)
  refine va_sld hx hb hX hbl hbA hS (vp_in_nI (n := ((4 * j) + 1)) (N := L9) (by omega) (by omega)) dL_law_506 ?_
  refine lv_topi (fun v_4 ev_4 => ?_)
  obtain rfl : (nI k) = v_4 := (ev_4.trans ((congrArg xs (nI_clamp (by omega))).trans ea1)).symm
  have hP9 : va_P D vwCl ((zWM cI cJ cZ h2 th (n, L) ((zcb kt pt), (zcb km pm), (zcb kl pl)) mc (true, wc, nu, lc, le, af, tr, ms, cl, tm) (co, yn, yh, pa)) ++ ((zWT cI cJ h (n, L) (kt, km, kl) (pt, pm, pl) (nu, le, ow, fo, true, wc, lc, tr, cl, tm, ms) (yl, yc, yt, co, pa, su, sc) mc) ++ [(oa, .inl (cJ, 1, .inr (.inl yo)))])) H := zswapP (A := (zWT cI cJ h (n, L) (kt, km, kl) (pt, pm, pl) (nu, le, ow, fo, true, wc, lc, tr, cl, tm, ms) (yl, yc, yt, co, pa, su, sc) mc) ++ [(oa, .inl (cJ, 1, .inr (.inl yo)))]) (Bw := (zWM cI cJ cZ h2 th (n, L) ((zcb kt pt), (zcb km pm), (zcb kl pl)) mc (true, wc, nu, lc, le, af, tr, ms, cl, tm) (co, yn, yh, pa))) hP
  have hD9 : va_D (zAb s.heap.size) ((zWM cI cJ cZ h2 th (n, L) ((zcb kt pt), (zcb km pm), (zcb kl pl)) mc (true, wc, nu, lc, le, af, tr, ms, cl, tm) (co, yn, yh, pa)) ++ ((zWT cI cJ h (n, L) (kt, km, kl) (pt, pm, pl) (nu, le, ow, fo, true, wc, lc, tr, cl, tm, ms) (yl, yc, yt, co, pa, su, sc) mc) ++ [(oa, .inl (cJ, 1, .inr (.inl yo)))])) := zswapD (A := (zWT cI cJ h (n, L) (kt, km, kl) (pt, pm, pl) (nu, le, ow, fo, true, wc, lc, tr, cl, tm, ms) (yl, yc, yt, co, pa, su, sc) mc) ++ [(oa, .inl (cJ, 1, .inr (.inl yo)))]) (Bw := (zWM cI cJ cZ h2 th (n, L) ((zcb kt pt), (zcb km pm), (zcb kl pl)) mc (true, wc, nu, lc, le, af, tr, ms, cl, tm) (co, yn, yh, pa))) hD
  refine zci (zrV (As := [.int (nI k)]) (rest := []) ⟨hx, hb, hml, hown, hts⟩ (zV 0 hP9 hD9 hK hE hB hS rfl rfl) (c_X5_openWord_x2 (k := k) (hk) (hn40) (rfl)) (cwV 1 hts gL_law_X5_openWord rfl rfl rfl hdv_X5_openWord ⟨Nat.le_of_ble_eq_true rfl, Nat.le_of_ble_eq_true rfl⟩) rfl rfl hl.1 rfl (lv_room (Nat.le_of_ble_eq_true rfl)) dL_law_507 ⟨(show cc + 1 + 0 ≤ 601024 by omega), (show ss + 6 + 0 ≤ 7293034 by omega)⟩) hS (fun H locs hP hD hS => ?_)
  have hP : va_P D vwCl ((zWT cI cJ h (n, L) (kt, km, kl) (pt, pm, pl) (nu, le, ow, fo, true, wc, lc, tr, cl, tm, ms) (yl, yc, yt, co, pa, su, sc) mc) ++ ((oa, .inl (cJ, 1, .inr (.inl yo))) :: (zWM cI cJ cZ h2 2 (n, L) ((zcb kt pt), (zcb km pm), (zcb kl pl)) mc (true, wc, nu, lc, le, af, tr, ms, cl, tm) (co, yn, yh, pa)))) H := zswapP (A := (zWM cI cJ cZ h2 2 (n, L) ((zcb kt pt), (zcb km pm), (zcb kl pl)) mc (true, wc, nu, lc, le, af, tr, ms, cl, tm) (co, yn, yh, pa))) (Bw := (zWT cI cJ h (n, L) (kt, km, kl) (pt, pm, pl) (nu, le, ow, fo, true, wc, lc, tr, cl, tm, ms) (yl, yc, yt, co, pa, su, sc) mc) ++ [(oa, .inl (cJ, 1, .inr (.inl yo)))]) hP
  have hD : va_D (zAb s.heap.size) ((zWT cI cJ h (n, L) (kt, km, kl) (pt, pm, pl) (nu, le, ow, fo, true, wc, lc, tr, cl, tm, ms) (yl, yc, yt, co, pa, su, sc) mc) ++ ((oa, .inl (cJ, 1, .inr (.inl yo))) :: (zWM cI cJ cZ h2 2 (n, L) ((zcb kt pt), (zcb km pm), (zcb kl pl)) mc (true, wc, nu, lc, le, af, tr, ms, cl, tm) (co, yn, yh, pa)))) := zswapD (A := (zWM cI cJ cZ h2 2 (n, L) ((zcb kt pt), (zcb km pm), (zcb kl pl)) mc (true, wc, nu, lc, le, af, tr, ms, cl, tm) (co, yn, yh, pa))) (Bw := (zWT cI cJ h (n, L) (kt, km, kl) (pt, pm, pl) (nu, le, ow, fo, true, wc, lc, tr, cl, tm, ms) (yl, yc, yt, co, pa, su, sc) mc) ++ [(oa, .inl (cJ, 1, .inr (.inl yo)))]) hD
  refine lv_istore (lv' := [(6, .int 0), (5, .int 2), (0, .ref b), (1, .ref (h 0)), (2, .ref (h2 0)), (3, .ref oa), (4, .int (nI (4 * j)))]) hx hb dL_law_510 hl (by decide) rfl (fun ls hl => ?_)
  refine lv_aload_n hx hb dL_law_512 rfl (lv_at hl 4 rfl) ?_
  have hP9 : va_P D vwCl ((zWM cI cJ cZ h2 2 (n, L) ((zcb kt pt), (zcb km pm), (zcb kl pl)) mc (true, wc, nu, lc, le, af, tr, ms, cl, tm) (co, yn, yh, pa)) ++ ((zWT cI cJ h (n, L) (kt, km, kl) (pt, pm, pl) (nu, le, ow, fo, true, wc, lc, tr, cl, tm, ms) (yl, yc, yt, co, pa, su, sc) mc) ++ [(oa, .inl (cJ, 1, .inr (.inl yo)))])) H := zswapP (A := (zWT cI cJ h (n, L) (kt, km, kl) (pt, pm, pl) (nu, le, ow, fo, true, wc, lc, tr, cl, tm, ms) (yl, yc, yt, co, pa, su, sc) mc) ++ [(oa, .inl (cJ, 1, .inr (.inl yo)))]) (Bw := (zWM cI cJ cZ h2 2 (n, L) ((zcb kt pt), (zcb km pm), (zcb kl pl)) mc (true, wc, nu, lc, le, af, tr, ms, cl, tm) (co, yn, yh, pa))) hP
  have hD9 : va_D (zAb s.heap.size) ((zWM cI cJ cZ h2 2 (n, L) ((zcb kt pt), (zcb km pm), (zcb kl pl)) mc (true, wc, nu, lc, le, af, tr, ms, cl, tm) (co, yn, yh, pa)) ++ ((zWT cI cJ h (n, L) (kt, km, kl) (pt, pm, pl) (nu, le, ow, fo, true, wc, lc, tr, cl, tm, ms) (yl, yc, yt, co, pa, su, sc) mc) ++ [(oa, .inl (cJ, 1, .inr (.inl yo)))])) := zswapD (A := (zWT cI cJ h (n, L) (kt, km, kl) (pt, pm, pl) (nu, le, ow, fo, true, wc, lc, tr, cl, tm, ms) (yl, yc, yt, co, pa, su, sc) mc) ++ [(oa, .inl (cJ, 1, .inr (.inl yo)))]) (Bw := (zWM cI cJ cZ h2 2 (n, L) ((zcb kt pt), (zcb km pm), (zcb kl pl)) mc (true, wc, nu, lc, le, af, tr, ms, cl, tm) (co, yn, yh, pa))) hD
  refine zci (zrV (As := []) (rest := []) ⟨hx, hb, hml, hown, hts⟩ (zV 0 hP9 hD9 hK hE hB hS rfl rfl) (c_X5_thrown  ) (cwV 0 hts gL_law_X5_thrown rfl rfl rfl hdv_X5_thrown ⟨Nat.le_of_ble_eq_true rfl, Nat.le_of_ble_eq_true rfl⟩) rfl rfl hl.1 rfl (lv_room (Nat.le_of_ble_eq_true rfl)) dL_law_513 ⟨(show cc + 1 + 0 + 0 ≤ 601024 by omega), (show ss + 6 + 0 + 0 ≤ 7293034 by omega)⟩) hS (fun H locs hP hD hS => ?_)
  have hP : va_P D vwCl ((zWT cI cJ h (n, L) (kt, km, kl) (pt, pm, pl) (nu, le, ow, fo, true, wc, lc, tr, cl, tm, ms) (yl, yc, yt, co, pa, su, sc) mc) ++ ((oa, .inl (cJ, 1, .inr (.inl yo))) :: (zWM cI cJ cZ h2 2 (n, L) ((zcb kt pt), (zcb km pm), (zcb kl pl)) mc (true, wc, nu, lc, le, af, tr, ms, cl, tm) (co, yn, yh, pa)))) H := zswapP (A := (zWM cI cJ cZ h2 2 (n, L) ((zcb kt pt), (zcb km pm), (zcb kl pl)) mc (true, wc, nu, lc, le, af, tr, ms, cl, tm) (co, yn, yh, pa))) (Bw := (zWT cI cJ h (n, L) (kt, km, kl) (pt, pm, pl) (nu, le, ow, fo, true, wc, lc, tr, cl, tm, ms) (yl, yc, yt, co, pa, su, sc) mc) ++ [(oa, .inl (cJ, 1, .inr (.inl yo)))]) hP
  have hD : va_D (zAb s.heap.size) ((zWT cI cJ h (n, L) (kt, km, kl) (pt, pm, pl) (nu, le, ow, fo, true, wc, lc, tr, cl, tm, ms) (yl, yc, yt, co, pa, su, sc) mc) ++ ((oa, .inl (cJ, 1, .inr (.inl yo))) :: (zWM cI cJ cZ h2 2 (n, L) ((zcb kt pt), (zcb km pm), (zcb kl pl)) mc (true, wc, nu, lc, le, af, tr, ms, cl, tm) (co, yn, yh, pa)))) := zswapD (A := (zWM cI cJ cZ h2 2 (n, L) ((zcb kt pt), (zcb km pm), (zcb kl pl)) mc (true, wc, nu, lc, le, af, tr, ms, cl, tm) (co, yn, yh, pa))) (Bw := (zWT cI cJ h (n, L) (kt, km, kl) (pt, pm, pl) (nu, le, ow, fo, true, wc, lc, tr, cl, tm, ms) (yl, yc, yt, co, pa, su, sc) mc) ++ [(oa, .inl (cJ, 1, .inr (.inl yo)))]) hD
  refine lv_iload hx hb dL_law_516 (lv_at hl 1 rfl) ?_
  refine lv_icmp_eq (tgt := 523) hx hb dL_law_518 (by decide) (fun c_5 => ?_) (fun c_5 => ?_)
  · skip
    refine lv_iload hx hb dL_law_523 (lv_at hl 1 rfl) ?_
    refine lv_if_ne (tgt := 540) hx hb dL_law_525 (by decide) (fun c_6 => ?_) (fun c_6 => ?_)
    · skip
      refine lv_goto (tgt := 1191) hx hb dL_law_540 (by decide) ?_
      refine W.widen (k := cc + 2) (n := ss + 1542) (show cc + 1 + 0 + 0 ≤ cc + 2 by omega) (show ss + 6 + 0 + 0 ≤ ss + 1542 by omega) ?_
      exact kont h h2 oa yo 2 n L kt km kl pt pm pl nu le ow fo true wc lc tr cl tm ms yl yc yt co pa su sc mc af yn yh (hI.mono) _ _ _ hP hD hS (lv_sub hl [2, 3, 4, 5, 6] rfl)
    · skip
      exfalso; first | omega | (revert c_6; decide) | (exact absurd rfl c_6) | simp_all
  · skip
    exfalso; first | omega | (revert c_5; decide) | (exact absurd rfl c_5) | simp_all

set_option maxHeartbeats 1000000 in
set_option maxRecDepth 100000 in
theorem law_giveUp {p : Program} {l : Launch} {e : Env} {s : State} {m : MethodId} {below : List Frame} {meth : Method} {c : Code} {b L9 : Nat} {xs : Nat → Int32} {D : va_G} {cI cJ cZ : ClassId} {kr kp j cc ss : Nat} {h h2 : Nat → Nat} {oa : Nat} {yo : Nat → Int64} {th : Int32} {n : Nat} {L : Nat → Int64} {kt : Nat → Int32} {km : Nat → Int32} {kl : Nat → Int32} {pt : Nat → Int32} {pm : Nat → Int32} {pl : Nat → Int32} {nu : Nat → Int32} {le : Nat → Int32} {ow : Nat → Int32} {fo : Nat → Int32} {run : Bool} {wc : Nat} {lc : Nat} {tr : Nat} {cl : Nat} {tm : Nat} {ms : Nat} {yl : Nat → Int32} {yc : Nat → Int32} {yt : Nat → Int32} {co : Nat} {pa : Int32} {su : Nat} {sc : Nat} {mc : Nat → Int32} {af : Nat → Int32} {yn : Nat} {yh : Nat → Int32}  (C : zLw p l s m meth c b L9 xs D cI cJ cZ kr kp) (hj : 4 * j + 4 ≤ L9) (hcc : cc + 2 ≤ 601024) (hss : ss + 1542 ≤ 7293034) (kont : zKt p l e s m below meth c b D cI cJ cZ j cc ss) (hI : zInv j n L pt le ow af true wc lc tr cl tm ms yl yc yt co yn su sc yh)  {H : Heap} {locs : List Loc} {ls : Array Slot} (hP : va_P D vwCl ((zWT cI cJ h (n, L) (kt, km, kl) (pt, pm, pl) (nu, le, ow, fo, true, wc, lc, tr, cl, tm, ms) (yl, yc, yt, co, pa, su, sc) mc) ++ ((oa, .inl (cJ, 1, .inr (.inl yo))) :: (zWM cI cJ cZ h2 th (n, L) ((zcb kt pt), (zcb km pm), (zcb kl pl)) mc (true, wc, nu, lc, le, af, tr, ms, cl, tm) (co, yn, yh, pa)))) H) (hD : va_D (zAb s.heap.size) ((zWT cI cJ h (n, L) (kt, km, kl) (pt, pm, pl) (nu, le, ow, fo, true, wc, lc, tr, cl, tm, ms) (yl, yc, yt, co, pa, su, sc) mc) ++ ((oa, .inl (cJ, 1, .inr (.inl yo))) :: (zWM cI cJ cZ h2 th (n, L) ((zcb kt pt), (zcb km pm), (zcb kl pl)) mc (true, wc, nu, lc, le, af, tr, ms, cl, tm) (co, yn, yh, pa))))) (hS : va_S (zAb s.heap.size) s.heap H locs) (hl : lv_has ls 9 [(0, .ref b), (1, .ref (h 0)), (2, .ref (h2 0)), (3, .ref oa), (4, .int (nI (4 * j)))]) : W p l e room_1 s m #[Value.ref b] below meth c H locs cc ss (lw_Z below #[Value.ref b] s) (F0 m 543 ls []) := by
  obtain ⟨C0, hls, hK, hE, hL9⟩ := C
  obtain ⟨hx, hb, hr, hml, hown, hts0, hX, hbl, hlocks, hgv⟩ := C0
  have hts : ∀ w ∈ wsL_law, w.before #[Value.ref b] s = true := fun w h => hts0 w (wsL_law_in w h)
  have hbA : ¬ zAb s.heap.size b := Nat.not_le.mpr hbl
  have hB : s.heap.size ≤ s.heap.size := Nat.le_refl _
  have hn40 := hI.1.1
  have hzk := hI.1.2
  obtain ⟨hwc6, hlc48, htrl, hclt, hms1⟩ := hI.2.1
  have hrt := hI.2.2.1
  have hle := hI.2.2.2.1
  have hMk := hI.2.2.2.2.1
  have hct := hI.2.2.2.2.2.1
  have hHi := hI.2.2.2.2.2.2.1
  have hsu := hI.2.2.2.2.2.2.2.2.1
  have hj5 : j ≤ 511 := by omega
  have hco : co < 256 := by have := hct.1; omega
  have hco6 : co ≤ 256 := Nat.le_of_lt hco
  have hsl : su < 2147483648 := by have := hsu.2.2; omega
  have hpt := hI.hpt (Nat.le_succ_of_le hj5)
  refine lv_aload_n hx hb dL_law_543 rfl (lv_at hl 1 rfl) ?_
  refine lv_aload_n hx hb dL_law_544 rfl (lv_at hl 3 rfl) ?_
  refine zci (vx_runSW (As := [.ref (h 0), .ref oa]) (rest := []) ⟨hx, hb, hml, hown, hts⟩ (c_L_giveUp  (rfl) (htrl)) (vx_cwSW 2 hts gL_law_L_giveUp rfl rfl rfl hds_L_giveUp ⟨Nat.le_of_ble_eq_true rfl, Nat.le_of_ble_eq_true rfl⟩) (zS hP hD hK hE hB hS) rfl rfl hl.1 rfl (lv_room (Nat.le_of_ble_eq_true rfl)) dL_law_545 ⟨(show cc + 0 ≤ 601024 by omega), (show ss + 0 ≤ 7293034 by omega)⟩) hS (fun H locs hP hD hS => ?_)
  have hP : va_P D vwCl ((zWT cI cJ h (n, L) (kt, km, kl) (pt, pm, pl) (nu, le, ow, fo, false, wc, lc, tr, cl, tm, ms) (yl, yc, yt, co, pa, su, sc) mc) ++ ((oa, .inl (cJ, 1, .inr (.inl (vp_updL yo 0 (((nI (lc - tr))).toInt64))))) :: (zWM cI cJ cZ h2 th (n, L) ((zcb kt pt), (zcb km pm), (zcb kl pl)) mc (true, wc, nu, lc, le, af, tr, ms, cl, tm) (co, yn, yh, pa)))) H := hP
  have hD : va_D (zAb s.heap.size) ((zWT cI cJ h (n, L) (kt, km, kl) (pt, pm, pl) (nu, le, ow, fo, false, wc, lc, tr, cl, tm, ms) (yl, yc, yt, co, pa, su, sc) mc) ++ ((oa, .inl (cJ, 1, .inr (.inl (vp_updL yo 0 (((nI (lc - tr))).toInt64))))) :: (zWM cI cJ cZ h2 th (n, L) ((zcb kt pt), (zcb km pm), (zcb kl pl)) mc (true, wc, nu, lc, le, af, tr, ms, cl, tm) (co, yn, yh, pa)))) := hD
  refine lv_istore (lv' := [(5, .int 0), (0, .ref b), (1, .ref (h 0)), (2, .ref (h2 0)), (3, .ref oa), (4, .int (nI (4 * j)))]) hx hb dL_law_548 hl (by decide) rfl (fun ls hl => ?_)
  refine lv_aload_n hx hb dL_law_550 rfl (lv_at hl 3 rfl) ?_
  have hP9 : va_P D vwCl ((zWM cI cJ cZ h2 th (n, L) ((zcb kt pt), (zcb km pm), (zcb kl pl)) mc (true, wc, nu, lc, le, af, tr, ms, cl, tm) (co, yn, yh, pa)) ++ ((zWT cI cJ h (n, L) (kt, km, kl) (pt, pm, pl) (nu, le, ow, fo, false, wc, lc, tr, cl, tm, ms) (yl, yc, yt, co, pa, su, sc) mc) ++ [(oa, .inl (cJ, 1, .inr (.inl (vp_updL yo 0 (((nI (lc - tr))).toInt64)))))])) H := zswapP (A := (zWT cI cJ h (n, L) (kt, km, kl) (pt, pm, pl) (nu, le, ow, fo, false, wc, lc, tr, cl, tm, ms) (yl, yc, yt, co, pa, su, sc) mc) ++ [(oa, .inl (cJ, 1, .inr (.inl (vp_updL yo 0 (((nI (lc - tr))).toInt64)))))]) (Bw := (zWM cI cJ cZ h2 th (n, L) ((zcb kt pt), (zcb km pm), (zcb kl pl)) mc (true, wc, nu, lc, le, af, tr, ms, cl, tm) (co, yn, yh, pa))) hP
  have hD9 : va_D (zAb s.heap.size) ((zWM cI cJ cZ h2 th (n, L) ((zcb kt pt), (zcb km pm), (zcb kl pl)) mc (true, wc, nu, lc, le, af, tr, ms, cl, tm) (co, yn, yh, pa)) ++ ((zWT cI cJ h (n, L) (kt, km, kl) (pt, pm, pl) (nu, le, ow, fo, false, wc, lc, tr, cl, tm, ms) (yl, yc, yt, co, pa, su, sc) mc) ++ [(oa, .inl (cJ, 1, .inr (.inl (vp_updL yo 0 (((nI (lc - tr))).toInt64)))))])) := zswapD (A := (zWT cI cJ h (n, L) (kt, km, kl) (pt, pm, pl) (nu, le, ow, fo, false, wc, lc, tr, cl, tm, ms) (yl, yc, yt, co, pa, su, sc) mc) ++ [(oa, .inl (cJ, 1, .inr (.inl (vp_updL yo 0 (((nI (lc - tr))).toInt64)))))]) (Bw := (zWM cI cJ cZ h2 th (n, L) ((zcb kt pt), (zcb km pm), (zcb kl pl)) mc (true, wc, nu, lc, le, af, tr, ms, cl, tm) (co, yn, yh, pa))) hD
  refine zci (zrV (As := []) (rest := []) ⟨hx, hb, hml, hown, hts⟩ (zV 0 hP9 hD9 hK hE hB hS rfl rfl) (c_X5_giveUp  (rfl) (htrl)) (cwV 0 hts gL_law_X5_giveUp rfl rfl rfl hdv_X5_giveUp ⟨Nat.le_of_ble_eq_true rfl, Nat.le_of_ble_eq_true rfl⟩) rfl rfl hl.1 rfl (lv_room (Nat.le_of_ble_eq_true rfl)) dL_law_551 ⟨(show cc + 0 + 0 ≤ 601024 by omega), (show ss + 0 + 0 ≤ 7293034 by omega)⟩) hS (fun H locs hP hD hS => ?_)
  have hP : va_P D vwCl ((zWT cI cJ h (n, L) (kt, km, kl) (pt, pm, pl) (nu, le, ow, fo, false, wc, lc, tr, cl, tm, ms) (yl, yc, yt, co, pa, su, sc) mc) ++ ((oa, .inl (cJ, 1, .inr (.inl (vp_updL yo 0 (((nI (lc - tr))).toInt64))))) :: (zWM cI cJ cZ h2 0 (n, L) ((zcb kt pt), (zcb km pm), (zcb kl pl)) mc (false, wc, nu, lc, le, af, tr, ms, cl, tm) (co, yn, yh, pa)))) H := zswapP (A := (zWM cI cJ cZ h2 0 (n, L) ((zcb kt pt), (zcb km pm), (zcb kl pl)) mc (false, wc, nu, lc, le, af, tr, ms, cl, tm) (co, yn, yh, pa))) (Bw := (zWT cI cJ h (n, L) (kt, km, kl) (pt, pm, pl) (nu, le, ow, fo, false, wc, lc, tr, cl, tm, ms) (yl, yc, yt, co, pa, su, sc) mc) ++ [(oa, .inl (cJ, 1, .inr (.inl (vp_updL yo 0 (((nI (lc - tr))).toInt64)))))]) hP
  have hD : va_D (zAb s.heap.size) ((zWT cI cJ h (n, L) (kt, km, kl) (pt, pm, pl) (nu, le, ow, fo, false, wc, lc, tr, cl, tm, ms) (yl, yc, yt, co, pa, su, sc) mc) ++ ((oa, .inl (cJ, 1, .inr (.inl (vp_updL yo 0 (((nI (lc - tr))).toInt64))))) :: (zWM cI cJ cZ h2 0 (n, L) ((zcb kt pt), (zcb km pm), (zcb kl pl)) mc (false, wc, nu, lc, le, af, tr, ms, cl, tm) (co, yn, yh, pa)))) := zswapD (A := (zWM cI cJ cZ h2 0 (n, L) ((zcb kt pt), (zcb km pm), (zcb kl pl)) mc (false, wc, nu, lc, le, af, tr, ms, cl, tm) (co, yn, yh, pa))) (Bw := (zWT cI cJ h (n, L) (kt, km, kl) (pt, pm, pl) (nu, le, ow, fo, false, wc, lc, tr, cl, tm, ms) (yl, yc, yt, co, pa, su, sc) mc) ++ [(oa, .inl (cJ, 1, .inr (.inl (vp_updL yo 0 (((nI (lc - tr))).toInt64)))))]) hD
  refine lv_istore (lv' := [(6, .int (nI (lc - tr))), (5, .int 0), (0, .ref b), (1, .ref (h 0)), (2, .ref (h2 0)), (3, .ref oa), (4, .int (nI (4 * j)))]) hx hb dL_law_554 hl (by decide) rfl (fun ls hl => ?_)
  refine lv_aload_n hx hb dL_law_556 rfl (lv_at hl 4 rfl) ?_
  have hP9 : va_P D vwCl ((zWM cI cJ cZ h2 0 (n, L) ((zcb kt pt), (zcb km pm), (zcb kl pl)) mc (false, wc, nu, lc, le, af, tr, ms, cl, tm) (co, yn, yh, pa)) ++ ((zWT cI cJ h (n, L) (kt, km, kl) (pt, pm, pl) (nu, le, ow, fo, false, wc, lc, tr, cl, tm, ms) (yl, yc, yt, co, pa, su, sc) mc) ++ [(oa, .inl (cJ, 1, .inr (.inl (vp_updL yo 0 (((nI (lc - tr))).toInt64)))))])) H := zswapP (A := (zWT cI cJ h (n, L) (kt, km, kl) (pt, pm, pl) (nu, le, ow, fo, false, wc, lc, tr, cl, tm, ms) (yl, yc, yt, co, pa, su, sc) mc) ++ [(oa, .inl (cJ, 1, .inr (.inl (vp_updL yo 0 (((nI (lc - tr))).toInt64)))))]) (Bw := (zWM cI cJ cZ h2 0 (n, L) ((zcb kt pt), (zcb km pm), (zcb kl pl)) mc (false, wc, nu, lc, le, af, tr, ms, cl, tm) (co, yn, yh, pa))) hP
  have hD9 : va_D (zAb s.heap.size) ((zWM cI cJ cZ h2 0 (n, L) ((zcb kt pt), (zcb km pm), (zcb kl pl)) mc (false, wc, nu, lc, le, af, tr, ms, cl, tm) (co, yn, yh, pa)) ++ ((zWT cI cJ h (n, L) (kt, km, kl) (pt, pm, pl) (nu, le, ow, fo, false, wc, lc, tr, cl, tm, ms) (yl, yc, yt, co, pa, su, sc) mc) ++ [(oa, .inl (cJ, 1, .inr (.inl (vp_updL yo 0 (((nI (lc - tr))).toInt64)))))])) := zswapD (A := (zWT cI cJ h (n, L) (kt, km, kl) (pt, pm, pl) (nu, le, ow, fo, false, wc, lc, tr, cl, tm, ms) (yl, yc, yt, co, pa, su, sc) mc) ++ [(oa, .inl (cJ, 1, .inr (.inl (vp_updL yo 0 (((nI (lc - tr))).toInt64)))))]) (Bw := (zWM cI cJ cZ h2 0 (n, L) ((zcb kt pt), (zcb km pm), (zcb kl pl)) mc (false, wc, nu, lc, le, af, tr, ms, cl, tm) (co, yn, yh, pa))) hD
  refine zci (zrV (As := []) (rest := []) ⟨hx, hb, hml, hown, hts⟩ (zV 0 hP9 hD9 hK hE hB hS rfl rfl) (c_X5_thrown  ) (cwV 0 hts gL_law_X5_thrown rfl rfl rfl hdv_X5_thrown ⟨Nat.le_of_ble_eq_true rfl, Nat.le_of_ble_eq_true rfl⟩) rfl rfl hl.1 rfl (lv_room (Nat.le_of_ble_eq_true rfl)) dL_law_557 ⟨(show cc + 0 + 0 + 0 ≤ 601024 by omega), (show ss + 0 + 0 + 0 ≤ 7293034 by omega)⟩) hS (fun H locs hP hD hS => ?_)
  have hP : va_P D vwCl ((zWT cI cJ h (n, L) (kt, km, kl) (pt, pm, pl) (nu, le, ow, fo, false, wc, lc, tr, cl, tm, ms) (yl, yc, yt, co, pa, su, sc) mc) ++ ((oa, .inl (cJ, 1, .inr (.inl (vp_updL yo 0 (((nI (lc - tr))).toInt64))))) :: (zWM cI cJ cZ h2 0 (n, L) ((zcb kt pt), (zcb km pm), (zcb kl pl)) mc (false, wc, nu, lc, le, af, tr, ms, cl, tm) (co, yn, yh, pa)))) H := zswapP (A := (zWM cI cJ cZ h2 0 (n, L) ((zcb kt pt), (zcb km pm), (zcb kl pl)) mc (false, wc, nu, lc, le, af, tr, ms, cl, tm) (co, yn, yh, pa))) (Bw := (zWT cI cJ h (n, L) (kt, km, kl) (pt, pm, pl) (nu, le, ow, fo, false, wc, lc, tr, cl, tm, ms) (yl, yc, yt, co, pa, su, sc) mc) ++ [(oa, .inl (cJ, 1, .inr (.inl (vp_updL yo 0 (((nI (lc - tr))).toInt64)))))]) hP
  have hD : va_D (zAb s.heap.size) ((zWT cI cJ h (n, L) (kt, km, kl) (pt, pm, pl) (nu, le, ow, fo, false, wc, lc, tr, cl, tm, ms) (yl, yc, yt, co, pa, su, sc) mc) ++ ((oa, .inl (cJ, 1, .inr (.inl (vp_updL yo 0 (((nI (lc - tr))).toInt64))))) :: (zWM cI cJ cZ h2 0 (n, L) ((zcb kt pt), (zcb km pm), (zcb kl pl)) mc (false, wc, nu, lc, le, af, tr, ms, cl, tm) (co, yn, yh, pa)))) := zswapD (A := (zWM cI cJ cZ h2 0 (n, L) ((zcb kt pt), (zcb km pm), (zcb kl pl)) mc (false, wc, nu, lc, le, af, tr, ms, cl, tm) (co, yn, yh, pa))) (Bw := (zWT cI cJ h (n, L) (kt, km, kl) (pt, pm, pl) (nu, le, ow, fo, false, wc, lc, tr, cl, tm, ms) (yl, yc, yt, co, pa, su, sc) mc) ++ [(oa, .inl (cJ, 1, .inr (.inl (vp_updL yo 0 (((nI (lc - tr))).toInt64)))))]) hD
  refine lv_iload hx hb dL_law_560 (lv_at hl 1 rfl) ?_
  refine lv_icmp_eq (tgt := 567) hx hb dL_law_562 (by decide) (fun c_1 => ?_) (fun c_1 => ?_)
  · skip
    refine lv_iload hx hb dL_law_567 (lv_at hl 1 rfl) ?_
    refine lv_if_ne (tgt := 584) hx hb dL_law_569 (by decide) (fun c_2 => ?_) (fun c_2 => ?_)
    · skip
      exfalso; first | omega | (revert c_2; decide) | (exact absurd rfl c_2) | simp_all
    · skip
      refine lv_aload_n hx hb dL_law_572 rfl (lv_at hl 5 rfl) ?_
      refine lv_iconst (v := 0) hx hb dL_law_573 (by decide) ?_
      refine va_lald hx hb hK hP 21 1 rfl rfl (vp_in_nI (n := 0) (N := 1) (by omega) (by omega)) dL_law_574 ?_
      refine lv_topl (fun v_3 ev_3 => ?_)
      obtain rfl : (((nI (lc - tr))).toInt64) = v_3 := (ev_3.trans (pk_uLs (f := yo) (k := 0) (x := (((nI (lc - tr))).toInt64)))).symm
      refine lv_iload hx hb dL_law_575 (lv_at hl 0 rfl) ?_
      refine lv_i2l (v := ((nI (lc - tr))).toInt64) hx hb dL_law_577 rfl ?_
      refine W.lcmp hx hb dL_law_578 ?_
      refine lv_if_eq (tgt := 584) hx hb dL_law_579 (by decide) (fun c_4 => ?_) (fun c_4 => ?_)
      · skip
        have c_4 : (((nI (lc - tr))).toInt64) = (((nI (lc - tr))).toInt64) := (lg_cmp_eq _ _).mp c_4
        refine lv_goto (tgt := 1191) hx hb dL_law_584 (by decide) ?_
        refine W.widen (k := cc + 2) (n := ss + 1542) (show cc + 0 + 0 + 0 ≤ cc + 2 by omega) (show ss + 0 + 0 + 0 ≤ ss + 1542 by omega) ?_
        exact kont h h2 oa (vp_updL yo 0 (((nI (lc - tr))).toInt64)) 0 n L kt km kl pt pm pl nu le ow fo false wc lc tr cl tm ms yl yc yt co pa su sc mc af yn yh (hI.give) _ _ _ hP hD hS (lv_sub hl [2, 3, 4, 5, 6] rfl)
      · skip
        have c_4 : ¬ (((nI (lc - tr))).toInt64) = (((nI (lc - tr))).toInt64) := fun hh => c_4 ((lg_cmp_eq _ _).mpr hh)
        exact absurd rfl c_4
  · skip
    exfalso; first | omega | (revert c_1; decide) | (exact absurd rfl c_1) | simp_all

set_option maxHeartbeats 1000000 in
set_option maxRecDepth 100000 in
theorem law_giveUp_x {p : Program} {l : Launch} {e : Env} {s : State} {m : MethodId} {below : List Frame} {meth : Method} {c : Code} {b L9 : Nat} {xs : Nat → Int32} {D : va_G} {cI cJ cZ : ClassId} {kr kp j cc ss : Nat} {h h2 : Nat → Nat} {oa : Nat} {yo : Nat → Int64} {th : Int32} {n : Nat} {L : Nat → Int64} {kt : Nat → Int32} {km : Nat → Int32} {kl : Nat → Int32} {pt : Nat → Int32} {pm : Nat → Int32} {pl : Nat → Int32} {nu : Nat → Int32} {le : Nat → Int32} {ow : Nat → Int32} {fo : Nat → Int32} {run : Bool} {wc : Nat} {lc : Nat} {tr : Nat} {cl : Nat} {tm : Nat} {ms : Nat} {yl : Nat → Int32} {yc : Nat → Int32} {yt : Nat → Int32} {co : Nat} {pa : Int32} {su : Nat} {sc : Nat} {mc : Nat → Int32} {af : Nat → Int32} {yn : Nat} {yh : Nat → Int32}  (C : zLw p l s m meth c b L9 xs D cI cJ cZ kr kp) (hj : 4 * j + 4 ≤ L9) (hcc : cc + 2 ≤ 601024) (hss : ss + 1542 ≤ 7293034) (kont : zKt p l e s m below meth c b D cI cJ cZ j cc ss) (hI : zInv j n L pt le ow af false wc lc tr cl tm ms yl yc yt co yn su sc yh)  {H : Heap} {locs : List Loc} {ls : Array Slot} (hP : va_P D vwCl ((zWT cI cJ h (n, L) (kt, km, kl) (pt, pm, pl) (nu, le, ow, fo, false, wc, lc, tr, cl, tm, ms) (yl, yc, yt, co, pa, su, sc) mc) ++ ((oa, .inl (cJ, 1, .inr (.inl yo))) :: (zWM cI cJ cZ h2 th (n, L) ((zcb kt pt), (zcb km pm), (zcb kl pl)) mc (false, wc, nu, lc, le, af, tr, ms, cl, tm) (co, yn, yh, pa)))) H) (hD : va_D (zAb s.heap.size) ((zWT cI cJ h (n, L) (kt, km, kl) (pt, pm, pl) (nu, le, ow, fo, false, wc, lc, tr, cl, tm, ms) (yl, yc, yt, co, pa, su, sc) mc) ++ ((oa, .inl (cJ, 1, .inr (.inl yo))) :: (zWM cI cJ cZ h2 th (n, L) ((zcb kt pt), (zcb km pm), (zcb kl pl)) mc (false, wc, nu, lc, le, af, tr, ms, cl, tm) (co, yn, yh, pa))))) (hS : va_S (zAb s.heap.size) s.heap H locs) (hl : lv_has ls 9 [(0, .ref b), (1, .ref (h 0)), (2, .ref (h2 0)), (3, .ref oa), (4, .int (nI (4 * j)))]) : W p l e room_1 s m #[Value.ref b] below meth c H locs cc ss (lw_Z below #[Value.ref b] s) (F0 m 543 ls []) := by
  obtain ⟨C0, hls, hK, hE, hL9⟩ := C
  obtain ⟨hx, hb, hr, hml, hown, hts0, hX, hbl, hlocks, hgv⟩ := C0
  have hts : ∀ w ∈ wsL_law, w.before #[Value.ref b] s = true := fun w h => hts0 w (wsL_law_in w h)
  have hbA : ¬ zAb s.heap.size b := Nat.not_le.mpr hbl
  have hB : s.heap.size ≤ s.heap.size := Nat.le_refl _
  have hn40 := hI.1.1
  have hzk := hI.1.2
  obtain ⟨hwc6, hlc48, htrl, hclt, hms1⟩ := hI.2.1
  have hrt := hI.2.2.1
  have hle := hI.2.2.2.1
  have hMk := hI.2.2.2.2.1
  have hct := hI.2.2.2.2.2.1
  have hHi := hI.2.2.2.2.2.2.1
  have hsu := hI.2.2.2.2.2.2.2.2.1
  have hj5 : j ≤ 511 := by omega
  have hco : co < 256 := by have := hct.1; omega
  have hco6 : co ≤ 256 := Nat.le_of_lt hco
  have hsl : su < 2147483648 := by have := hsu.2.2; omega
  have hpt := hI.hpt (Nat.le_succ_of_le hj5)
  refine lv_aload_n hx hb dL_law_543 rfl (lv_at hl 1 rfl) ?_
  refine lv_aload_n hx hb dL_law_544 rfl (lv_at hl 3 rfl) ?_
  refine zci (vx_runSW (As := [.ref (h 0), .ref oa]) (rest := []) ⟨hx, hb, hml, hown, hts⟩ (c_L_giveUp_x  hls (rfl)) (vx_cwSW 2 hts gL_law_L_giveUp rfl rfl rfl hds_L_giveUp ⟨Nat.le_of_ble_eq_true rfl, Nat.le_of_ble_eq_true rfl⟩) (zS hP hD hK hE hB hS) rfl rfl hl.1 rfl (lv_room (Nat.le_of_ble_eq_true rfl)) dL_law_545 ⟨(show cc + 1 ≤ 601024 by omega), (show ss + 6 ≤ 7293034 by omega)⟩) hS (fun H locs hP hD hS => ?_)
  have hP : va_P D vwCl ((zWT cI cJ h (n, L) (kt, km, kl) (pt, pm, pl) (nu, le, ow, fo, false, wc, lc, tr, cl, tm, ms) (yl, yc, yt, co, pa, su, sc) mc) ++ ((oa, .inl (cJ, 1, .inr (.inl yo))) :: (zWM cI cJ cZ h2 th (n, L) ((zcb kt pt), (zcb km pm), (zcb kl pl)) mc (false, wc, nu, lc, le, af, tr, ms, cl, tm) (co, yn, yh, pa)))) H := hP
  have hD : va_D (zAb s.heap.size) ((zWT cI cJ h (n, L) (kt, km, kl) (pt, pm, pl) (nu, le, ow, fo, false, wc, lc, tr, cl, tm, ms) (yl, yc, yt, co, pa, su, sc) mc) ++ ((oa, .inl (cJ, 1, .inr (.inl yo))) :: (zWM cI cJ cZ h2 th (n, L) ((zcb kt pt), (zcb km pm), (zcb kl pl)) mc (false, wc, nu, lc, le, af, tr, ms, cl, tm) (co, yn, yh, pa)))) := hD
  refine lv_istore (lv' := [(5, .int 1), (0, .ref b), (1, .ref (h 0)), (2, .ref (h2 0)), (3, .ref oa), (4, .int (nI (4 * j)))]) hx hb dL_law_548 hl (by decide) rfl (fun ls hl => ?_)
  refine lv_aload_n hx hb dL_law_550 rfl (lv_at hl 3 rfl) ?_
  have hP9 : va_P D vwCl ((zWM cI cJ cZ h2 th (n, L) ((zcb kt pt), (zcb km pm), (zcb kl pl)) mc (false, wc, nu, lc, le, af, tr, ms, cl, tm) (co, yn, yh, pa)) ++ ((zWT cI cJ h (n, L) (kt, km, kl) (pt, pm, pl) (nu, le, ow, fo, false, wc, lc, tr, cl, tm, ms) (yl, yc, yt, co, pa, su, sc) mc) ++ [(oa, .inl (cJ, 1, .inr (.inl yo)))])) H := zswapP (A := (zWT cI cJ h (n, L) (kt, km, kl) (pt, pm, pl) (nu, le, ow, fo, false, wc, lc, tr, cl, tm, ms) (yl, yc, yt, co, pa, su, sc) mc) ++ [(oa, .inl (cJ, 1, .inr (.inl yo)))]) (Bw := (zWM cI cJ cZ h2 th (n, L) ((zcb kt pt), (zcb km pm), (zcb kl pl)) mc (false, wc, nu, lc, le, af, tr, ms, cl, tm) (co, yn, yh, pa))) hP
  have hD9 : va_D (zAb s.heap.size) ((zWM cI cJ cZ h2 th (n, L) ((zcb kt pt), (zcb km pm), (zcb kl pl)) mc (false, wc, nu, lc, le, af, tr, ms, cl, tm) (co, yn, yh, pa)) ++ ((zWT cI cJ h (n, L) (kt, km, kl) (pt, pm, pl) (nu, le, ow, fo, false, wc, lc, tr, cl, tm, ms) (yl, yc, yt, co, pa, su, sc) mc) ++ [(oa, .inl (cJ, 1, .inr (.inl yo)))])) := zswapD (A := (zWT cI cJ h (n, L) (kt, km, kl) (pt, pm, pl) (nu, le, ow, fo, false, wc, lc, tr, cl, tm, ms) (yl, yc, yt, co, pa, su, sc) mc) ++ [(oa, .inl (cJ, 1, .inr (.inl yo)))]) (Bw := (zWM cI cJ cZ h2 th (n, L) ((zcb kt pt), (zcb km pm), (zcb kl pl)) mc (false, wc, nu, lc, le, af, tr, ms, cl, tm) (co, yn, yh, pa))) hD
  refine zci (zrV (As := []) (rest := []) ⟨hx, hb, hml, hown, hts⟩ (zV 0 hP9 hD9 hK hE hB hS rfl rfl) (c_X5_giveUp_x  (rfl)) (cwV 0 hts gL_law_X5_giveUp rfl rfl rfl hdv_X5_giveUp ⟨Nat.le_of_ble_eq_true rfl, Nat.le_of_ble_eq_true rfl⟩) rfl rfl hl.1 rfl (lv_room (Nat.le_of_ble_eq_true rfl)) dL_law_551 ⟨(show cc + 1 + 0 ≤ 601024 by omega), (show ss + 6 + 0 ≤ 7293034 by omega)⟩) hS (fun H locs hP hD hS => ?_)
  have hP : va_P D vwCl ((zWT cI cJ h (n, L) (kt, km, kl) (pt, pm, pl) (nu, le, ow, fo, false, wc, lc, tr, cl, tm, ms) (yl, yc, yt, co, pa, su, sc) mc) ++ ((oa, .inl (cJ, 1, .inr (.inl yo))) :: (zWM cI cJ cZ h2 1 (n, L) ((zcb kt pt), (zcb km pm), (zcb kl pl)) mc (false, wc, nu, lc, le, af, tr, ms, cl, tm) (co, yn, yh, pa)))) H := zswapP (A := (zWM cI cJ cZ h2 1 (n, L) ((zcb kt pt), (zcb km pm), (zcb kl pl)) mc (false, wc, nu, lc, le, af, tr, ms, cl, tm) (co, yn, yh, pa))) (Bw := (zWT cI cJ h (n, L) (kt, km, kl) (pt, pm, pl) (nu, le, ow, fo, false, wc, lc, tr, cl, tm, ms) (yl, yc, yt, co, pa, su, sc) mc) ++ [(oa, .inl (cJ, 1, .inr (.inl yo)))]) hP
  have hD : va_D (zAb s.heap.size) ((zWT cI cJ h (n, L) (kt, km, kl) (pt, pm, pl) (nu, le, ow, fo, false, wc, lc, tr, cl, tm, ms) (yl, yc, yt, co, pa, su, sc) mc) ++ ((oa, .inl (cJ, 1, .inr (.inl yo))) :: (zWM cI cJ cZ h2 1 (n, L) ((zcb kt pt), (zcb km pm), (zcb kl pl)) mc (false, wc, nu, lc, le, af, tr, ms, cl, tm) (co, yn, yh, pa)))) := zswapD (A := (zWM cI cJ cZ h2 1 (n, L) ((zcb kt pt), (zcb km pm), (zcb kl pl)) mc (false, wc, nu, lc, le, af, tr, ms, cl, tm) (co, yn, yh, pa))) (Bw := (zWT cI cJ h (n, L) (kt, km, kl) (pt, pm, pl) (nu, le, ow, fo, false, wc, lc, tr, cl, tm, ms) (yl, yc, yt, co, pa, su, sc) mc) ++ [(oa, .inl (cJ, 1, .inr (.inl yo)))]) hD
  refine lv_istore (lv' := [(6, .int 0), (5, .int 1), (0, .ref b), (1, .ref (h 0)), (2, .ref (h2 0)), (3, .ref oa), (4, .int (nI (4 * j)))]) hx hb dL_law_554 hl (by decide) rfl (fun ls hl => ?_)
  refine lv_aload_n hx hb dL_law_556 rfl (lv_at hl 4 rfl) ?_
  have hP9 : va_P D vwCl ((zWM cI cJ cZ h2 1 (n, L) ((zcb kt pt), (zcb km pm), (zcb kl pl)) mc (false, wc, nu, lc, le, af, tr, ms, cl, tm) (co, yn, yh, pa)) ++ ((zWT cI cJ h (n, L) (kt, km, kl) (pt, pm, pl) (nu, le, ow, fo, false, wc, lc, tr, cl, tm, ms) (yl, yc, yt, co, pa, su, sc) mc) ++ [(oa, .inl (cJ, 1, .inr (.inl yo)))])) H := zswapP (A := (zWT cI cJ h (n, L) (kt, km, kl) (pt, pm, pl) (nu, le, ow, fo, false, wc, lc, tr, cl, tm, ms) (yl, yc, yt, co, pa, su, sc) mc) ++ [(oa, .inl (cJ, 1, .inr (.inl yo)))]) (Bw := (zWM cI cJ cZ h2 1 (n, L) ((zcb kt pt), (zcb km pm), (zcb kl pl)) mc (false, wc, nu, lc, le, af, tr, ms, cl, tm) (co, yn, yh, pa))) hP
  have hD9 : va_D (zAb s.heap.size) ((zWM cI cJ cZ h2 1 (n, L) ((zcb kt pt), (zcb km pm), (zcb kl pl)) mc (false, wc, nu, lc, le, af, tr, ms, cl, tm) (co, yn, yh, pa)) ++ ((zWT cI cJ h (n, L) (kt, km, kl) (pt, pm, pl) (nu, le, ow, fo, false, wc, lc, tr, cl, tm, ms) (yl, yc, yt, co, pa, su, sc) mc) ++ [(oa, .inl (cJ, 1, .inr (.inl yo)))])) := zswapD (A := (zWT cI cJ h (n, L) (kt, km, kl) (pt, pm, pl) (nu, le, ow, fo, false, wc, lc, tr, cl, tm, ms) (yl, yc, yt, co, pa, su, sc) mc) ++ [(oa, .inl (cJ, 1, .inr (.inl yo)))]) (Bw := (zWM cI cJ cZ h2 1 (n, L) ((zcb kt pt), (zcb km pm), (zcb kl pl)) mc (false, wc, nu, lc, le, af, tr, ms, cl, tm) (co, yn, yh, pa))) hD
  refine zci (zrV (As := []) (rest := []) ⟨hx, hb, hml, hown, hts⟩ (zV 0 hP9 hD9 hK hE hB hS rfl rfl) (c_X5_thrown  ) (cwV 0 hts gL_law_X5_thrown rfl rfl rfl hdv_X5_thrown ⟨Nat.le_of_ble_eq_true rfl, Nat.le_of_ble_eq_true rfl⟩) rfl rfl hl.1 rfl (lv_room (Nat.le_of_ble_eq_true rfl)) dL_law_557 ⟨(show cc + 1 + 0 + 0 ≤ 601024 by omega), (show ss + 6 + 0 + 0 ≤ 7293034 by omega)⟩) hS (fun H locs hP hD hS => ?_)
  have hP : va_P D vwCl ((zWT cI cJ h (n, L) (kt, km, kl) (pt, pm, pl) (nu, le, ow, fo, false, wc, lc, tr, cl, tm, ms) (yl, yc, yt, co, pa, su, sc) mc) ++ ((oa, .inl (cJ, 1, .inr (.inl yo))) :: (zWM cI cJ cZ h2 1 (n, L) ((zcb kt pt), (zcb km pm), (zcb kl pl)) mc (false, wc, nu, lc, le, af, tr, ms, cl, tm) (co, yn, yh, pa)))) H := zswapP (A := (zWM cI cJ cZ h2 1 (n, L) ((zcb kt pt), (zcb km pm), (zcb kl pl)) mc (false, wc, nu, lc, le, af, tr, ms, cl, tm) (co, yn, yh, pa))) (Bw := (zWT cI cJ h (n, L) (kt, km, kl) (pt, pm, pl) (nu, le, ow, fo, false, wc, lc, tr, cl, tm, ms) (yl, yc, yt, co, pa, su, sc) mc) ++ [(oa, .inl (cJ, 1, .inr (.inl yo)))]) hP
  have hD : va_D (zAb s.heap.size) ((zWT cI cJ h (n, L) (kt, km, kl) (pt, pm, pl) (nu, le, ow, fo, false, wc, lc, tr, cl, tm, ms) (yl, yc, yt, co, pa, su, sc) mc) ++ ((oa, .inl (cJ, 1, .inr (.inl yo))) :: (zWM cI cJ cZ h2 1 (n, L) ((zcb kt pt), (zcb km pm), (zcb kl pl)) mc (false, wc, nu, lc, le, af, tr, ms, cl, tm) (co, yn, yh, pa)))) := zswapD (A := (zWM cI cJ cZ h2 1 (n, L) ((zcb kt pt), (zcb km pm), (zcb kl pl)) mc (false, wc, nu, lc, le, af, tr, ms, cl, tm) (co, yn, yh, pa))) (Bw := (zWT cI cJ h (n, L) (kt, km, kl) (pt, pm, pl) (nu, le, ow, fo, false, wc, lc, tr, cl, tm, ms) (yl, yc, yt, co, pa, su, sc) mc) ++ [(oa, .inl (cJ, 1, .inr (.inl yo)))]) hD
  refine lv_iload hx hb dL_law_560 (lv_at hl 1 rfl) ?_
  refine lv_icmp_eq (tgt := 567) hx hb dL_law_562 (by decide) (fun c_1 => ?_) (fun c_1 => ?_)
  · skip
    refine lv_iload hx hb dL_law_567 (lv_at hl 1 rfl) ?_
    refine lv_if_ne (tgt := 584) hx hb dL_law_569 (by decide) (fun c_2 => ?_) (fun c_2 => ?_)
    · skip
      refine lv_goto (tgt := 1191) hx hb dL_law_584 (by decide) ?_
      refine W.widen (k := cc + 2) (n := ss + 1542) (show cc + 1 + 0 + 0 ≤ cc + 2 by omega) (show ss + 6 + 0 + 0 ≤ ss + 1542 by omega) ?_
      exact kont h h2 oa yo 1 n L kt km kl pt pm pl nu le ow fo false wc lc tr cl tm ms yl yc yt co pa su sc mc af yn yh (hI.mono) _ _ _ hP hD hS (lv_sub hl [2, 3, 4, 5, 6] rfl)
    · skip
      exfalso; first | omega | (revert c_2; decide) | (exact absurd rfl c_2) | simp_all
  · skip
    exfalso; first | omega | (revert c_1; decide) | (exact absurd rfl c_1) | simp_all

set_option maxHeartbeats 1000000 in
set_option maxRecDepth 100000 in
theorem law_isOpen {p : Program} {l : Launch} {e : Env} {s : State} {m : MethodId} {below : List Frame} {meth : Method} {c : Code} {b L9 : Nat} {xs : Nat → Int32} {D : va_G} {cI cJ cZ : ClassId} {kr kp j cc ss : Nat} {h h2 : Nat → Nat} {oa : Nat} {yo : Nat → Int64} {th : Int32} {n : Nat} {L : Nat → Int64} {kt : Nat → Int32} {km : Nat → Int32} {kl : Nat → Int32} {pt : Nat → Int32} {pm : Nat → Int32} {pl : Nat → Int32} {nu : Nat → Int32} {le : Nat → Int32} {ow : Nat → Int32} {fo : Nat → Int32} {run : Bool} {wc : Nat} {lc : Nat} {tr : Nat} {cl : Nat} {tm : Nat} {ms : Nat} {yl : Nat → Int32} {yc : Nat → Int32} {yt : Nat → Int32} {co : Nat} {pa : Int32} {su : Nat} {sc : Nat} {mc : Nat → Int32} {af : Nat → Int32} {yn : Nat} {yh : Nat → Int32}  (C : zLw p l s m meth c b L9 xs D cI cJ cZ kr kp) (hj : 4 * j + 4 ≤ L9) (hcc : cc + 2 ≤ 601024) (hss : ss + 1542 ≤ 7293034) (kont : zKt p l e s m below meth c b D cI cJ cZ j cc ss) (hI : zInv j n L pt le ow af run wc lc tr cl tm ms yl yc yt co yn su sc yh)  {H : Heap} {locs : List Loc} {ls : Array Slot} (hP : va_P D vwCl ((zWT cI cJ h (n, L) (kt, km, kl) (pt, pm, pl) (nu, le, ow, fo, run, wc, lc, tr, cl, tm, ms) (yl, yc, yt, co, pa, su, sc) mc) ++ ((oa, .inl (cJ, 1, .inr (.inl yo))) :: (zWM cI cJ cZ h2 th (n, L) ((zcb kt pt), (zcb km pm), (zcb kl pl)) mc (run, wc, nu, lc, le, af, tr, ms, cl, tm) (co, yn, yh, pa)))) H) (hD : va_D (zAb s.heap.size) ((zWT cI cJ h (n, L) (kt, km, kl) (pt, pm, pl) (nu, le, ow, fo, run, wc, lc, tr, cl, tm, ms) (yl, yc, yt, co, pa, su, sc) mc) ++ ((oa, .inl (cJ, 1, .inr (.inl yo))) :: (zWM cI cJ cZ h2 th (n, L) ((zcb kt pt), (zcb km pm), (zcb kl pl)) mc (run, wc, nu, lc, le, af, tr, ms, cl, tm) (co, yn, yh, pa))))) (hS : va_S (zAb s.heap.size) s.heap H locs) (hl : lv_has ls 9 [(0, .ref b), (1, .ref (h 0)), (2, .ref (h2 0)), (3, .ref oa), (4, .int (nI (4 * j)))]) : W p l e room_1 s m #[Value.ref b] below meth c H locs cc ss (lw_Z below #[Value.ref b] s) (F0 m 587 ls []) := by
  obtain ⟨C0, hls, hK, hE, hL9⟩ := C
  obtain ⟨hx, hb, hr, hml, hown, hts0, hX, hbl, hlocks, hgv⟩ := C0
  have hts : ∀ w ∈ wsL_law, w.before #[Value.ref b] s = true := fun w h => hts0 w (wsL_law_in w h)
  have hbA : ¬ zAb s.heap.size b := Nat.not_le.mpr hbl
  have hB : s.heap.size ≤ s.heap.size := Nat.le_refl _
  have hn40 := hI.1.1
  have hzk := hI.1.2
  obtain ⟨hwc6, hlc48, htrl, hclt, hms1⟩ := hI.2.1
  have hrt := hI.2.2.1
  have hle := hI.2.2.2.1
  have hMk := hI.2.2.2.2.1
  have hct := hI.2.2.2.2.2.1
  have hHi := hI.2.2.2.2.2.2.1
  have hsu := hI.2.2.2.2.2.2.2.2.1
  have hj5 : j ≤ 511 := by omega
  have hco : co < 256 := by have := hct.1; omega
  have hco6 : co ≤ 256 := Nat.le_of_lt hco
  have hsl : su < 2147483648 := by have := hsu.2.2; omega
  have hpt := hI.hpt (Nat.le_succ_of_le hj5)
  refine lv_aload_n hx hb dL_law_587 rfl (lv_at hl 1 rfl) ?_
  refine zci (zrV (As := []) (rest := []) ⟨hx, hb, hml, hown, hts⟩ (zV 0 hP hD hK hE hB hS rfl rfl) (c_X4_isOpen  ) (cwV 0 hts gL_law_X4_isOpen rfl rfl rfl hdv_X4_isOpen ⟨Nat.le_of_ble_eq_true rfl, Nat.le_of_ble_eq_true rfl⟩) rfl rfl hl.1 rfl (lv_room (Nat.le_of_ble_eq_true rfl)) dL_law_588 ⟨(show cc + 0 ≤ 601024 by omega), (show ss + 0 ≤ 7293034 by omega)⟩) hS (fun H locs hP hD hS => ?_)
  have hP : va_P D vwCl ((zWT cI cJ h (n, L) (kt, km, kl) (pt, pm, pl) (nu, le, ow, fo, run, wc, lc, tr, cl, tm, ms) (yl, yc, yt, co, pa, su, sc) mc) ++ ((oa, .inl (cJ, 1, .inr (.inl yo))) :: (zWM cI cJ cZ h2 th (n, L) ((zcb kt pt), (zcb km pm), (zcb kl pl)) mc (run, wc, nu, lc, le, af, tr, ms, cl, tm) (co, yn, yh, pa)))) H := hP
  have hD : va_D (zAb s.heap.size) ((zWT cI cJ h (n, L) (kt, km, kl) (pt, pm, pl) (nu, le, ow, fo, run, wc, lc, tr, cl, tm, ms) (yl, yc, yt, co, pa, su, sc) mc) ++ ((oa, .inl (cJ, 1, .inr (.inl yo))) :: (zWM cI cJ cZ h2 th (n, L) ((zcb kt pt), (zcb km pm), (zcb kl pl)) mc (run, wc, nu, lc, le, af, tr, ms, cl, tm) (co, yn, yh, pa)))) := hD
  refine lv_aload_n hx hb dL_law_591 rfl (lv_at hl 2 rfl) ?_
  have hP9 : va_P D vwCl ((zWM cI cJ cZ h2 th (n, L) ((zcb kt pt), (zcb km pm), (zcb kl pl)) mc (run, wc, nu, lc, le, af, tr, ms, cl, tm) (co, yn, yh, pa)) ++ ((zWT cI cJ h (n, L) (kt, km, kl) (pt, pm, pl) (nu, le, ow, fo, run, wc, lc, tr, cl, tm, ms) (yl, yc, yt, co, pa, su, sc) mc) ++ [(oa, .inl (cJ, 1, .inr (.inl yo)))])) H := zswapP (A := (zWT cI cJ h (n, L) (kt, km, kl) (pt, pm, pl) (nu, le, ow, fo, run, wc, lc, tr, cl, tm, ms) (yl, yc, yt, co, pa, su, sc) mc) ++ [(oa, .inl (cJ, 1, .inr (.inl yo)))]) (Bw := (zWM cI cJ cZ h2 th (n, L) ((zcb kt pt), (zcb km pm), (zcb kl pl)) mc (run, wc, nu, lc, le, af, tr, ms, cl, tm) (co, yn, yh, pa))) hP
  have hD9 : va_D (zAb s.heap.size) ((zWM cI cJ cZ h2 th (n, L) ((zcb kt pt), (zcb km pm), (zcb kl pl)) mc (run, wc, nu, lc, le, af, tr, ms, cl, tm) (co, yn, yh, pa)) ++ ((zWT cI cJ h (n, L) (kt, km, kl) (pt, pm, pl) (nu, le, ow, fo, run, wc, lc, tr, cl, tm, ms) (yl, yc, yt, co, pa, su, sc) mc) ++ [(oa, .inl (cJ, 1, .inr (.inl yo)))])) := zswapD (A := (zWT cI cJ h (n, L) (kt, km, kl) (pt, pm, pl) (nu, le, ow, fo, run, wc, lc, tr, cl, tm, ms) (yl, yc, yt, co, pa, su, sc) mc) ++ [(oa, .inl (cJ, 1, .inr (.inl yo)))]) (Bw := (zWM cI cJ cZ h2 th (n, L) ((zcb kt pt), (zcb km pm), (zcb kl pl)) mc (run, wc, nu, lc, le, af, tr, ms, cl, tm) (co, yn, yh, pa))) hD
  refine zci (zrV (As := []) (rest := [.int (zb run)]) ⟨hx, hb, hml, hown, hts⟩ (zV 0 hP9 hD9 hK hE hB hS rfl rfl) (c_X5_isOpen  ) (cwV 0 hts gL_law_X5_isOpen rfl rfl rfl hdv_X5_isOpen ⟨Nat.le_of_ble_eq_true rfl, Nat.le_of_ble_eq_true rfl⟩) rfl rfl hl.1 rfl (lv_room (Nat.le_of_ble_eq_true rfl)) dL_law_592 ⟨(show cc + 0 + 0 ≤ 601024 by omega), (show ss + 0 + 0 ≤ 7293034 by omega)⟩) hS (fun H locs hP hD hS => ?_)
  have hP : va_P D vwCl ((zWT cI cJ h (n, L) (kt, km, kl) (pt, pm, pl) (nu, le, ow, fo, run, wc, lc, tr, cl, tm, ms) (yl, yc, yt, co, pa, su, sc) mc) ++ ((oa, .inl (cJ, 1, .inr (.inl yo))) :: (zWM cI cJ cZ h2 0 (n, L) ((zcb kt pt), (zcb km pm), (zcb kl pl)) mc (run, wc, nu, lc, le, af, tr, ms, cl, tm) (co, yn, yh, pa)))) H := zswapP (A := (zWM cI cJ cZ h2 0 (n, L) ((zcb kt pt), (zcb km pm), (zcb kl pl)) mc (run, wc, nu, lc, le, af, tr, ms, cl, tm) (co, yn, yh, pa))) (Bw := (zWT cI cJ h (n, L) (kt, km, kl) (pt, pm, pl) (nu, le, ow, fo, run, wc, lc, tr, cl, tm, ms) (yl, yc, yt, co, pa, su, sc) mc) ++ [(oa, .inl (cJ, 1, .inr (.inl yo)))]) hP
  have hD : va_D (zAb s.heap.size) ((zWT cI cJ h (n, L) (kt, km, kl) (pt, pm, pl) (nu, le, ow, fo, run, wc, lc, tr, cl, tm, ms) (yl, yc, yt, co, pa, su, sc) mc) ++ ((oa, .inl (cJ, 1, .inr (.inl yo))) :: (zWM cI cJ cZ h2 0 (n, L) ((zcb kt pt), (zcb km pm), (zcb kl pl)) mc (run, wc, nu, lc, le, af, tr, ms, cl, tm) (co, yn, yh, pa)))) := zswapD (A := (zWM cI cJ cZ h2 0 (n, L) ((zcb kt pt), (zcb km pm), (zcb kl pl)) mc (run, wc, nu, lc, le, af, tr, ms, cl, tm) (co, yn, yh, pa))) (Bw := (zWT cI cJ h (n, L) (kt, km, kl) (pt, pm, pl) (nu, le, ow, fo, run, wc, lc, tr, cl, tm, ms) (yl, yc, yt, co, pa, su, sc) mc) ++ [(oa, .inl (cJ, 1, .inr (.inl yo)))]) hD
  refine lv_icmp_eq (tgt := 1191) hx hb dL_law_595 (by decide) (fun c_1 => ?_) (fun c_1 => ?_)
  · skip
    refine W.widen (k := cc + 2) (n := ss + 1542) (show cc + 0 + 0 ≤ cc + 2 by omega) (show ss + 0 + 0 ≤ ss + 1542 by omega) ?_
    exact kont h h2 oa yo 0 n L kt km kl pt pm pl nu le ow fo run wc lc tr cl tm ms yl yc yt co pa su sc mc af yn yh (hI.mono) _ _ _ hP hD hS (lv_sub hl [0, 1, 2, 3, 4] rfl)
  · skip
    exact absurd rfl c_1

set_option maxHeartbeats 1000000 in
set_option maxRecDepth 100000 in
theorem law_lessonWord {p : Program} {l : Launch} {e : Env} {s : State} {m : MethodId} {below : List Frame} {meth : Method} {c : Code} {b L9 : Nat} {xs : Nat → Int32} {D : va_G} {cI cJ cZ : ClassId} {kr kp j cc ss : Nat} {h h2 : Nat → Nat} {oa : Nat} {yo : Nat → Int64} {th : Int32} {n : Nat} {L : Nat → Int64} {kt : Nat → Int32} {km : Nat → Int32} {kl : Nat → Int32} {pt : Nat → Int32} {pm : Nat → Int32} {pl : Nat → Int32} {nu : Nat → Int32} {le : Nat → Int32} {ow : Nat → Int32} {fo : Nat → Int32} {run : Bool} {wc : Nat} {lc : Nat} {tr : Nat} {cl : Nat} {tm : Nat} {ms : Nat} {yl : Nat → Int32} {yc : Nat → Int32} {yt : Nat → Int32} {co : Nat} {pa : Int32} {su : Nat} {sc : Nat} {mc : Nat → Int32} {af : Nat → Int32} {yn : Nat} {yh : Nat → Int32} {k : Nat} (C : zLw p l s m meth c b L9 xs D cI cJ cZ kr kp) (hj : 4 * j + 4 ≤ L9) (hcc : cc + 2 ≤ 601024) (hss : ss + 1542 ≤ 7293034) (kont : zKt p l e s m below meth c b D cI cJ cZ j cc ss) (hI : zInv j n L pt le ow af true wc lc tr cl tm ms yl yc yt co yn su sc yh) (ea1 : xs (4 * j + 1) = nI k) (hk : k < wc) {H : Heap} {locs : List Loc} {ls : Array Slot} (hP : va_P D vwCl ((zWT cI cJ h (n, L) (kt, km, kl) (pt, pm, pl) (nu, le, ow, fo, true, wc, lc, tr, cl, tm, ms) (yl, yc, yt, co, pa, su, sc) mc) ++ ((oa, .inl (cJ, 1, .inr (.inl yo))) :: (zWM cI cJ cZ h2 th (n, L) ((zcb kt pt), (zcb km pm), (zcb kl pl)) mc (true, wc, nu, lc, le, af, tr, ms, cl, tm) (co, yn, yh, pa)))) H) (hD : va_D (zAb s.heap.size) ((zWT cI cJ h (n, L) (kt, km, kl) (pt, pm, pl) (nu, le, ow, fo, true, wc, lc, tr, cl, tm, ms) (yl, yc, yt, co, pa, su, sc) mc) ++ ((oa, .inl (cJ, 1, .inr (.inl yo))) :: (zWM cI cJ cZ h2 th (n, L) ((zcb kt pt), (zcb km pm), (zcb kl pl)) mc (true, wc, nu, lc, le, af, tr, ms, cl, tm) (co, yn, yh, pa))))) (hS : va_S (zAb s.heap.size) s.heap H locs) (hl : lv_has ls 9 [(0, .ref b), (1, .ref (h 0)), (2, .ref (h2 0)), (3, .ref oa), (4, .int (nI (4 * j)))]) : W p l e room_1 s m #[Value.ref b] below meth c H locs cc ss (lw_Z below #[Value.ref b] s) (F0 m 600 ls []) := by
  obtain ⟨C0, hls, hK, hE, hL9⟩ := C
  obtain ⟨hx, hb, hr, hml, hown, hts0, hX, hbl, hlocks, hgv⟩ := C0
  have hts : ∀ w ∈ wsL_law, w.before #[Value.ref b] s = true := fun w h => hts0 w (wsL_law_in w h)
  have hbA : ¬ zAb s.heap.size b := Nat.not_le.mpr hbl
  have hB : s.heap.size ≤ s.heap.size := Nat.le_refl _
  have hn40 := hI.1.1
  have hzk := hI.1.2
  obtain ⟨hwc6, hlc48, htrl, hclt, hms1⟩ := hI.2.1
  have hrt := hI.2.2.1
  have hle := hI.2.2.2.1
  have hMk := hI.2.2.2.2.1
  have hct := hI.2.2.2.2.2.1
  have hHi := hI.2.2.2.2.2.2.1
  have hsu := hI.2.2.2.2.2.2.2.2.1
  have hj5 : j ≤ 511 := by omega
  have hco : co < 256 := by have := hct.1; omega
  have hco6 : co ≤ 256 := Nat.le_of_lt hco
  have hsl : su < 2147483648 := by have := hsu.2.2; omega
  have hpt := hI.hpt (Nat.le_succ_of_le hj5)
  refine lv_aload_n hx hb dL_law_600 rfl (lv_at hl 1 rfl) ?_
  refine lv_aload_n hx hb dL_law_601 rfl (lv_at hl 0 rfl) ?_
  refine lv_iload hx hb dL_law_602 (lv_at hl 4 rfl) ?_
  refine lv_iconst (v := 1) hx hb dL_law_604 (by decide) ?_
  refine lv_iadd hx hb dL_law_605 ?_
  refine lv_topi (fun v_1 ev_1 => ?_)
  obtain rfl : v_1 = (nI ((4 * j) + 1)) := ev_1.trans (nI_add (4 * j) 1)
  refine va_sld hx hb hX hbl hbA hS (vp_in_nI (n := ((4 * j) + 1)) (N := L9) (by omega) (by omega)) dL_law_606 ?_
  refine lv_topi (fun v_2 ev_2 => ?_)
  obtain rfl : (nI k) = v_2 := (ev_2.trans ((congrArg xs (nI_clamp (by omega))).trans ea1)).symm
  refine lv_aload_n hx hb dL_law_607 rfl (lv_at hl 3 rfl) ?_
  refine zci (vx_runSW (As := [.ref (h 0), .int (nI k), .ref oa]) (rest := []) ⟨hx, hb, hml, hown, hts⟩ (c_L_lessonWord (k := k) (rfl) (hk) (hwc6)) (vx_cwSW 3 hts gL_law_L_lessonWord rfl rfl rfl hds_L_lessonWord ⟨Nat.le_of_ble_eq_true rfl, Nat.le_of_ble_eq_true rfl⟩) (zS hP hD hK hE hB hS) rfl rfl hl.1 rfl (lv_room (Nat.le_of_ble_eq_true rfl)) dL_law_608 ⟨(show cc + 0 ≤ 601024 by omega), (show ss + 0 ≤ 7293034 by omega)⟩) hS (fun H locs hP hD hS => ?_)
  have hP : va_P D vwCl ((zWT cI cJ h (n, L) (kt, km, kl) (pt, pm, pl) (nu, le, ow, fo, true, wc, lc, tr, cl, tm, ms) (yl, yc, yt, co, pa, su, sc) mc) ++ ((oa, .inl (cJ, 1, .inr (.inl (vp_updL yo 0 (((nu k)).toInt64))))) :: (zWM cI cJ cZ h2 th (n, L) ((zcb kt pt), (zcb km pm), (zcb kl pl)) mc (true, wc, nu, lc, le, af, tr, ms, cl, tm) (co, yn, yh, pa)))) H := hP
  have hD : va_D (zAb s.heap.size) ((zWT cI cJ h (n, L) (kt, km, kl) (pt, pm, pl) (nu, le, ow, fo, true, wc, lc, tr, cl, tm, ms) (yl, yc, yt, co, pa, su, sc) mc) ++ ((oa, .inl (cJ, 1, .inr (.inl (vp_updL yo 0 (((nu k)).toInt64))))) :: (zWM cI cJ cZ h2 th (n, L) ((zcb kt pt), (zcb km pm), (zcb kl pl)) mc (true, wc, nu, lc, le, af, tr, ms, cl, tm) (co, yn, yh, pa)))) := hD
  refine lv_istore (lv' := [(5, .int 0), (0, .ref b), (1, .ref (h 0)), (2, .ref (h2 0)), (3, .ref oa), (4, .int (nI (4 * j)))]) hx hb dL_law_611 hl (by decide) rfl (fun ls hl => ?_)
  refine lv_aload_n hx hb dL_law_613 rfl (lv_at hl 3 rfl) ?_
  refine lv_aload_n hx hb dL_law_614 rfl (lv_at hl 1 rfl) ?_
  refine lv_iload hx hb dL_law_615 (lv_at hl 5 rfl) ?_
  refine lv_iconst (v := 1) hx hb dL_law_617 (by decide) ?_
  refine lv_iadd hx hb dL_law_618 ?_
  refine lv_topi (fun v_3 ev_3 => ?_)
  obtain rfl : v_3 = (nI ((4 * j) + 1)) := ev_3.trans (nI_add (4 * j) 1)
  refine va_sld hx hb hX hbl hbA hS (vp_in_nI (n := ((4 * j) + 1)) (N := L9) (by omega) (by omega)) dL_law_619 ?_
  refine lv_topi (fun v_4 ev_4 => ?_)
  obtain rfl : (nI k) = v_4 := (ev_4.trans ((congrArg xs (nI_clamp (by omega))).trans ea1)).symm
  have hP9 : va_P D vwCl ((zWM cI cJ cZ h2 th (n, L) ((zcb kt pt), (zcb km pm), (zcb kl pl)) mc (true, wc, nu, lc, le, af, tr, ms, cl, tm) (co, yn, yh, pa)) ++ ((zWT cI cJ h (n, L) (kt, km, kl) (pt, pm, pl) (nu, le, ow, fo, true, wc, lc, tr, cl, tm, ms) (yl, yc, yt, co, pa, su, sc) mc) ++ [(oa, .inl (cJ, 1, .inr (.inl (vp_updL yo 0 (((nu k)).toInt64)))))])) H := zswapP (A := (zWT cI cJ h (n, L) (kt, km, kl) (pt, pm, pl) (nu, le, ow, fo, true, wc, lc, tr, cl, tm, ms) (yl, yc, yt, co, pa, su, sc) mc) ++ [(oa, .inl (cJ, 1, .inr (.inl (vp_updL yo 0 (((nu k)).toInt64)))))]) (Bw := (zWM cI cJ cZ h2 th (n, L) ((zcb kt pt), (zcb km pm), (zcb kl pl)) mc (true, wc, nu, lc, le, af, tr, ms, cl, tm) (co, yn, yh, pa))) hP
  have hD9 : va_D (zAb s.heap.size) ((zWM cI cJ cZ h2 th (n, L) ((zcb kt pt), (zcb km pm), (zcb kl pl)) mc (true, wc, nu, lc, le, af, tr, ms, cl, tm) (co, yn, yh, pa)) ++ ((zWT cI cJ h (n, L) (kt, km, kl) (pt, pm, pl) (nu, le, ow, fo, true, wc, lc, tr, cl, tm, ms) (yl, yc, yt, co, pa, su, sc) mc) ++ [(oa, .inl (cJ, 1, .inr (.inl (vp_updL yo 0 (((nu k)).toInt64)))))])) := zswapD (A := (zWT cI cJ h (n, L) (kt, km, kl) (pt, pm, pl) (nu, le, ow, fo, true, wc, lc, tr, cl, tm, ms) (yl, yc, yt, co, pa, su, sc) mc) ++ [(oa, .inl (cJ, 1, .inr (.inl (vp_updL yo 0 (((nu k)).toInt64)))))]) (Bw := (zWM cI cJ cZ h2 th (n, L) ((zcb kt pt), (zcb km pm), (zcb kl pl)) mc (true, wc, nu, lc, le, af, tr, ms, cl, tm) (co, yn, yh, pa))) hD
  refine zci (zrV (As := [.int (nI k)]) (rest := []) ⟨hx, hb, hml, hown, hts⟩ (zV 0 hP9 hD9 hK hE hB hS rfl rfl) (c_X5_lessonWord (k := k) (rfl) (hk) (hwc6)) (cwV 1 hts gL_law_X5_lessonWord rfl rfl rfl hdv_X5_lessonWord ⟨Nat.le_of_ble_eq_true rfl, Nat.le_of_ble_eq_true rfl⟩) rfl rfl hl.1 rfl (lv_room (Nat.le_of_ble_eq_true rfl)) dL_law_620 ⟨(show cc + 0 + 0 ≤ 601024 by omega), (show ss + 0 + 0 ≤ 7293034 by omega)⟩) hS (fun H locs hP hD hS => ?_)
  have hP : va_P D vwCl ((zWT cI cJ h (n, L) (kt, km, kl) (pt, pm, pl) (nu, le, ow, fo, true, wc, lc, tr, cl, tm, ms) (yl, yc, yt, co, pa, su, sc) mc) ++ ((oa, .inl (cJ, 1, .inr (.inl (vp_updL yo 0 (((nu k)).toInt64))))) :: (zWM cI cJ cZ h2 0 (n, L) ((zcb kt pt), (zcb km pm), (zcb kl pl)) mc (true, wc, nu, lc, le, af, tr, ms, cl, tm) (co, yn, yh, pa)))) H := zswapP (A := (zWM cI cJ cZ h2 0 (n, L) ((zcb kt pt), (zcb km pm), (zcb kl pl)) mc (true, wc, nu, lc, le, af, tr, ms, cl, tm) (co, yn, yh, pa))) (Bw := (zWT cI cJ h (n, L) (kt, km, kl) (pt, pm, pl) (nu, le, ow, fo, true, wc, lc, tr, cl, tm, ms) (yl, yc, yt, co, pa, su, sc) mc) ++ [(oa, .inl (cJ, 1, .inr (.inl (vp_updL yo 0 (((nu k)).toInt64)))))]) hP
  have hD : va_D (zAb s.heap.size) ((zWT cI cJ h (n, L) (kt, km, kl) (pt, pm, pl) (nu, le, ow, fo, true, wc, lc, tr, cl, tm, ms) (yl, yc, yt, co, pa, su, sc) mc) ++ ((oa, .inl (cJ, 1, .inr (.inl (vp_updL yo 0 (((nu k)).toInt64))))) :: (zWM cI cJ cZ h2 0 (n, L) ((zcb kt pt), (zcb km pm), (zcb kl pl)) mc (true, wc, nu, lc, le, af, tr, ms, cl, tm) (co, yn, yh, pa)))) := zswapD (A := (zWM cI cJ cZ h2 0 (n, L) ((zcb kt pt), (zcb km pm), (zcb kl pl)) mc (true, wc, nu, lc, le, af, tr, ms, cl, tm) (co, yn, yh, pa))) (Bw := (zWT cI cJ h (n, L) (kt, km, kl) (pt, pm, pl) (nu, le, ow, fo, true, wc, lc, tr, cl, tm, ms) (yl, yc, yt, co, pa, su, sc) mc) ++ [(oa, .inl (cJ, 1, .inr (.inl (vp_updL yo 0 (((nu k)).toInt64)))))]) hD
  refine lv_istore (lv' := [(6, .int (nu k)), (5, .int 0), (0, .ref b), (1, .ref (h 0)), (2, .ref (h2 0)), (3, .ref oa), (4, .int (nI (4 * j)))]) hx hb dL_law_623 hl (by decide) rfl (fun ls hl => ?_)
  refine lv_aload_n hx hb dL_law_625 rfl (lv_at hl 4 rfl) ?_
  have hP9 : va_P D vwCl ((zWM cI cJ cZ h2 0 (n, L) ((zcb kt pt), (zcb km pm), (zcb kl pl)) mc (true, wc, nu, lc, le, af, tr, ms, cl, tm) (co, yn, yh, pa)) ++ ((zWT cI cJ h (n, L) (kt, km, kl) (pt, pm, pl) (nu, le, ow, fo, true, wc, lc, tr, cl, tm, ms) (yl, yc, yt, co, pa, su, sc) mc) ++ [(oa, .inl (cJ, 1, .inr (.inl (vp_updL yo 0 (((nu k)).toInt64)))))])) H := zswapP (A := (zWT cI cJ h (n, L) (kt, km, kl) (pt, pm, pl) (nu, le, ow, fo, true, wc, lc, tr, cl, tm, ms) (yl, yc, yt, co, pa, su, sc) mc) ++ [(oa, .inl (cJ, 1, .inr (.inl (vp_updL yo 0 (((nu k)).toInt64)))))]) (Bw := (zWM cI cJ cZ h2 0 (n, L) ((zcb kt pt), (zcb km pm), (zcb kl pl)) mc (true, wc, nu, lc, le, af, tr, ms, cl, tm) (co, yn, yh, pa))) hP
  have hD9 : va_D (zAb s.heap.size) ((zWM cI cJ cZ h2 0 (n, L) ((zcb kt pt), (zcb km pm), (zcb kl pl)) mc (true, wc, nu, lc, le, af, tr, ms, cl, tm) (co, yn, yh, pa)) ++ ((zWT cI cJ h (n, L) (kt, km, kl) (pt, pm, pl) (nu, le, ow, fo, true, wc, lc, tr, cl, tm, ms) (yl, yc, yt, co, pa, su, sc) mc) ++ [(oa, .inl (cJ, 1, .inr (.inl (vp_updL yo 0 (((nu k)).toInt64)))))])) := zswapD (A := (zWT cI cJ h (n, L) (kt, km, kl) (pt, pm, pl) (nu, le, ow, fo, true, wc, lc, tr, cl, tm, ms) (yl, yc, yt, co, pa, su, sc) mc) ++ [(oa, .inl (cJ, 1, .inr (.inl (vp_updL yo 0 (((nu k)).toInt64)))))]) (Bw := (zWM cI cJ cZ h2 0 (n, L) ((zcb kt pt), (zcb km pm), (zcb kl pl)) mc (true, wc, nu, lc, le, af, tr, ms, cl, tm) (co, yn, yh, pa))) hD
  refine zci (zrV (As := []) (rest := []) ⟨hx, hb, hml, hown, hts⟩ (zV 0 hP9 hD9 hK hE hB hS rfl rfl) (c_X5_thrown  ) (cwV 0 hts gL_law_X5_thrown rfl rfl rfl hdv_X5_thrown ⟨Nat.le_of_ble_eq_true rfl, Nat.le_of_ble_eq_true rfl⟩) rfl rfl hl.1 rfl (lv_room (Nat.le_of_ble_eq_true rfl)) dL_law_626 ⟨(show cc + 0 + 0 + 0 ≤ 601024 by omega), (show ss + 0 + 0 + 0 ≤ 7293034 by omega)⟩) hS (fun H locs hP hD hS => ?_)
  have hP : va_P D vwCl ((zWT cI cJ h (n, L) (kt, km, kl) (pt, pm, pl) (nu, le, ow, fo, true, wc, lc, tr, cl, tm, ms) (yl, yc, yt, co, pa, su, sc) mc) ++ ((oa, .inl (cJ, 1, .inr (.inl (vp_updL yo 0 (((nu k)).toInt64))))) :: (zWM cI cJ cZ h2 0 (n, L) ((zcb kt pt), (zcb km pm), (zcb kl pl)) mc (true, wc, nu, lc, le, af, tr, ms, cl, tm) (co, yn, yh, pa)))) H := zswapP (A := (zWM cI cJ cZ h2 0 (n, L) ((zcb kt pt), (zcb km pm), (zcb kl pl)) mc (true, wc, nu, lc, le, af, tr, ms, cl, tm) (co, yn, yh, pa))) (Bw := (zWT cI cJ h (n, L) (kt, km, kl) (pt, pm, pl) (nu, le, ow, fo, true, wc, lc, tr, cl, tm, ms) (yl, yc, yt, co, pa, su, sc) mc) ++ [(oa, .inl (cJ, 1, .inr (.inl (vp_updL yo 0 (((nu k)).toInt64)))))]) hP
  have hD : va_D (zAb s.heap.size) ((zWT cI cJ h (n, L) (kt, km, kl) (pt, pm, pl) (nu, le, ow, fo, true, wc, lc, tr, cl, tm, ms) (yl, yc, yt, co, pa, su, sc) mc) ++ ((oa, .inl (cJ, 1, .inr (.inl (vp_updL yo 0 (((nu k)).toInt64))))) :: (zWM cI cJ cZ h2 0 (n, L) ((zcb kt pt), (zcb km pm), (zcb kl pl)) mc (true, wc, nu, lc, le, af, tr, ms, cl, tm) (co, yn, yh, pa)))) := zswapD (A := (zWM cI cJ cZ h2 0 (n, L) ((zcb kt pt), (zcb km pm), (zcb kl pl)) mc (true, wc, nu, lc, le, af, tr, ms, cl, tm) (co, yn, yh, pa))) (Bw := (zWT cI cJ h (n, L) (kt, km, kl) (pt, pm, pl) (nu, le, ow, fo, true, wc, lc, tr, cl, tm, ms) (yl, yc, yt, co, pa, su, sc) mc) ++ [(oa, .inl (cJ, 1, .inr (.inl (vp_updL yo 0 (((nu k)).toInt64)))))]) hD
  refine lv_iload hx hb dL_law_629 (lv_at hl 1 rfl) ?_
  refine lv_icmp_eq (tgt := 636) hx hb dL_law_631 (by decide) (fun c_5 => ?_) (fun c_5 => ?_)
  · skip
    refine lv_iload hx hb dL_law_636 (lv_at hl 1 rfl) ?_
    refine lv_if_ne (tgt := 653) hx hb dL_law_638 (by decide) (fun c_6 => ?_) (fun c_6 => ?_)
    · skip
      exfalso; first | omega | (revert c_6; decide) | (exact absurd rfl c_6) | simp_all
    · skip
      refine lv_aload_n hx hb dL_law_641 rfl (lv_at hl 5 rfl) ?_
      refine lv_iconst (v := 0) hx hb dL_law_642 (by decide) ?_
      refine va_lald hx hb hK hP 21 1 rfl rfl (vp_in_nI (n := 0) (N := 1) (by omega) (by omega)) dL_law_643 ?_
      refine lv_topl (fun v_7 ev_7 => ?_)
      obtain rfl : (((nu k)).toInt64) = v_7 := (ev_7.trans (pk_uLs (f := yo) (k := 0) (x := (((nu k)).toInt64)))).symm
      refine lv_iload hx hb dL_law_644 (lv_at hl 0 rfl) ?_
      refine lv_i2l (v := ((nu k)).toInt64) hx hb dL_law_646 rfl ?_
      refine W.lcmp hx hb dL_law_647 ?_
      refine lv_if_eq (tgt := 653) hx hb dL_law_648 (by decide) (fun c_8 => ?_) (fun c_8 => ?_)
      · skip
        have c_8 : (((nu k)).toInt64) = (((nu k)).toInt64) := (lg_cmp_eq _ _).mp c_8
        refine lv_goto (tgt := 1191) hx hb dL_law_653 (by decide) ?_
        refine W.widen (k := cc + 2) (n := ss + 1542) (show cc + 0 + 0 + 0 ≤ cc + 2 by omega) (show ss + 0 + 0 + 0 ≤ ss + 1542 by omega) ?_
        exact kont h h2 oa (vp_updL yo 0 (((nu k)).toInt64)) 0 n L kt km kl pt pm pl nu le ow fo true wc lc tr cl tm ms yl yc yt co pa su sc mc af yn yh (hI.mono) _ _ _ hP hD hS (lv_sub hl [2, 3, 4, 5, 6] rfl)
      · skip
        have c_8 : ¬ (((nu k)).toInt64) = (((nu k)).toInt64) := fun hh => c_8 ((lg_cmp_eq _ _).mpr hh)
        exact absurd rfl c_8
  · skip
    exfalso; first | omega | (revert c_5; decide) | (exact absurd rfl c_5) | simp_all

set_option maxHeartbeats 1000000 in
set_option maxRecDepth 100000 in
theorem law_lessonWord_x1 {p : Program} {l : Launch} {e : Env} {s : State} {m : MethodId} {below : List Frame} {meth : Method} {c : Code} {b L9 : Nat} {xs : Nat → Int32} {D : va_G} {cI cJ cZ : ClassId} {kr kp j cc ss : Nat} {h h2 : Nat → Nat} {oa : Nat} {yo : Nat → Int64} {th : Int32} {n : Nat} {L : Nat → Int64} {kt : Nat → Int32} {km : Nat → Int32} {kl : Nat → Int32} {pt : Nat → Int32} {pm : Nat → Int32} {pl : Nat → Int32} {nu : Nat → Int32} {le : Nat → Int32} {ow : Nat → Int32} {fo : Nat → Int32} {run : Bool} {wc : Nat} {lc : Nat} {tr : Nat} {cl : Nat} {tm : Nat} {ms : Nat} {yl : Nat → Int32} {yc : Nat → Int32} {yt : Nat → Int32} {co : Nat} {pa : Int32} {su : Nat} {sc : Nat} {mc : Nat → Int32} {af : Nat → Int32} {yn : Nat} {yh : Nat → Int32} {i : Int32} (C : zLw p l s m meth c b L9 xs D cI cJ cZ kr kp) (hj : 4 * j + 4 ≤ L9) (hcc : cc + 2 ≤ 601024) (hss : ss + 1542 ≤ 7293034) (kont : zKt p l e s m below meth c b D cI cJ cZ j cc ss) (hI : zInv j n L pt le ow af false wc lc tr cl tm ms yl yc yt co yn su sc yh) (ea1 : xs (4 * j + 1) = i) {H : Heap} {locs : List Loc} {ls : Array Slot} (hP : va_P D vwCl ((zWT cI cJ h (n, L) (kt, km, kl) (pt, pm, pl) (nu, le, ow, fo, false, wc, lc, tr, cl, tm, ms) (yl, yc, yt, co, pa, su, sc) mc) ++ ((oa, .inl (cJ, 1, .inr (.inl yo))) :: (zWM cI cJ cZ h2 th (n, L) ((zcb kt pt), (zcb km pm), (zcb kl pl)) mc (false, wc, nu, lc, le, af, tr, ms, cl, tm) (co, yn, yh, pa)))) H) (hD : va_D (zAb s.heap.size) ((zWT cI cJ h (n, L) (kt, km, kl) (pt, pm, pl) (nu, le, ow, fo, false, wc, lc, tr, cl, tm, ms) (yl, yc, yt, co, pa, su, sc) mc) ++ ((oa, .inl (cJ, 1, .inr (.inl yo))) :: (zWM cI cJ cZ h2 th (n, L) ((zcb kt pt), (zcb km pm), (zcb kl pl)) mc (false, wc, nu, lc, le, af, tr, ms, cl, tm) (co, yn, yh, pa))))) (hS : va_S (zAb s.heap.size) s.heap H locs) (hl : lv_has ls 9 [(0, .ref b), (1, .ref (h 0)), (2, .ref (h2 0)), (3, .ref oa), (4, .int (nI (4 * j)))]) : W p l e room_1 s m #[Value.ref b] below meth c H locs cc ss (lw_Z below #[Value.ref b] s) (F0 m 600 ls []) := by
  obtain ⟨C0, hls, hK, hE, hL9⟩ := C
  obtain ⟨hx, hb, hr, hml, hown, hts0, hX, hbl, hlocks, hgv⟩ := C0
  have hts : ∀ w ∈ wsL_law, w.before #[Value.ref b] s = true := fun w h => hts0 w (wsL_law_in w h)
  have hbA : ¬ zAb s.heap.size b := Nat.not_le.mpr hbl
  have hB : s.heap.size ≤ s.heap.size := Nat.le_refl _
  have hn40 := hI.1.1
  have hzk := hI.1.2
  obtain ⟨hwc6, hlc48, htrl, hclt, hms1⟩ := hI.2.1
  have hrt := hI.2.2.1
  have hle := hI.2.2.2.1
  have hMk := hI.2.2.2.2.1
  have hct := hI.2.2.2.2.2.1
  have hHi := hI.2.2.2.2.2.2.1
  have hsu := hI.2.2.2.2.2.2.2.2.1
  have hj5 : j ≤ 511 := by omega
  have hco : co < 256 := by have := hct.1; omega
  have hco6 : co ≤ 256 := Nat.le_of_lt hco
  have hsl : su < 2147483648 := by have := hsu.2.2; omega
  have hpt := hI.hpt (Nat.le_succ_of_le hj5)
  refine lv_aload_n hx hb dL_law_600 rfl (lv_at hl 1 rfl) ?_
  refine lv_aload_n hx hb dL_law_601 rfl (lv_at hl 0 rfl) ?_
  refine lv_iload hx hb dL_law_602 (lv_at hl 4 rfl) ?_
  refine lv_iconst (v := 1) hx hb dL_law_604 (by decide) ?_
  refine lv_iadd hx hb dL_law_605 ?_
  refine lv_topi (fun v_1 ev_1 => ?_)
  obtain rfl : v_1 = (nI ((4 * j) + 1)) := ev_1.trans (nI_add (4 * j) 1)
  refine va_sld hx hb hX hbl hbA hS (vp_in_nI (n := ((4 * j) + 1)) (N := L9) (by omega) (by omega)) dL_law_606 ?_
  refine lv_topi (fun v_2 ev_2 => ?_)
  obtain rfl : i = v_2 := (ev_2.trans ((congrArg xs (nI_clamp (by omega))).trans ea1)).symm
  refine lv_aload_n hx hb dL_law_607 rfl (lv_at hl 3 rfl) ?_
  refine zci (vx_runSW (As := [.ref (h 0), .int i, .ref oa]) (rest := []) ⟨hx, hb, hml, hown, hts⟩ (c_L_lessonWord_x1  hls (rfl)) (vx_cwSW 3 hts gL_law_L_lessonWord rfl rfl rfl hds_L_lessonWord ⟨Nat.le_of_ble_eq_true rfl, Nat.le_of_ble_eq_true rfl⟩) (zS hP hD hK hE hB hS) rfl rfl hl.1 rfl (lv_room (Nat.le_of_ble_eq_true rfl)) dL_law_608 ⟨(show cc + 1 ≤ 601024 by omega), (show ss + 6 ≤ 7293034 by omega)⟩) hS (fun H locs hP hD hS => ?_)
  have hP : va_P D vwCl ((zWT cI cJ h (n, L) (kt, km, kl) (pt, pm, pl) (nu, le, ow, fo, false, wc, lc, tr, cl, tm, ms) (yl, yc, yt, co, pa, su, sc) mc) ++ ((oa, .inl (cJ, 1, .inr (.inl yo))) :: (zWM cI cJ cZ h2 th (n, L) ((zcb kt pt), (zcb km pm), (zcb kl pl)) mc (false, wc, nu, lc, le, af, tr, ms, cl, tm) (co, yn, yh, pa)))) H := hP
  have hD : va_D (zAb s.heap.size) ((zWT cI cJ h (n, L) (kt, km, kl) (pt, pm, pl) (nu, le, ow, fo, false, wc, lc, tr, cl, tm, ms) (yl, yc, yt, co, pa, su, sc) mc) ++ ((oa, .inl (cJ, 1, .inr (.inl yo))) :: (zWM cI cJ cZ h2 th (n, L) ((zcb kt pt), (zcb km pm), (zcb kl pl)) mc (false, wc, nu, lc, le, af, tr, ms, cl, tm) (co, yn, yh, pa)))) := hD
  refine lv_istore (lv' := [(5, .int 1), (0, .ref b), (1, .ref (h 0)), (2, .ref (h2 0)), (3, .ref oa), (4, .int (nI (4 * j)))]) hx hb dL_law_611 hl (by decide) rfl (fun ls hl => ?_)
  refine lv_aload_n hx hb dL_law_613 rfl (lv_at hl 3 rfl) ?_
  refine lv_aload_n hx hb dL_law_614 rfl (lv_at hl 1 rfl) ?_
  refine lv_iload hx hb dL_law_615 (lv_at hl 5 rfl) ?_
  refine lv_iconst (v := 1) hx hb dL_law_617 (by decide) ?_
  refine lv_iadd hx hb dL_law_618 ?_
  refine lv_topi (fun v_3 ev_3 => ?_)
  obtain rfl : v_3 = (nI ((4 * j) + 1)) := ev_3.trans (nI_add (4 * j) 1)
  refine va_sld hx hb hX hbl hbA hS (vp_in_nI (n := ((4 * j) + 1)) (N := L9) (by omega) (by omega)) dL_law_619 ?_
  refine lv_topi (fun v_4 ev_4 => ?_)
  obtain rfl : i = v_4 := (ev_4.trans ((congrArg xs (nI_clamp (by omega))).trans ea1)).symm
  have hP9 : va_P D vwCl ((zWM cI cJ cZ h2 th (n, L) ((zcb kt pt), (zcb km pm), (zcb kl pl)) mc (false, wc, nu, lc, le, af, tr, ms, cl, tm) (co, yn, yh, pa)) ++ ((zWT cI cJ h (n, L) (kt, km, kl) (pt, pm, pl) (nu, le, ow, fo, false, wc, lc, tr, cl, tm, ms) (yl, yc, yt, co, pa, su, sc) mc) ++ [(oa, .inl (cJ, 1, .inr (.inl yo)))])) H := zswapP (A := (zWT cI cJ h (n, L) (kt, km, kl) (pt, pm, pl) (nu, le, ow, fo, false, wc, lc, tr, cl, tm, ms) (yl, yc, yt, co, pa, su, sc) mc) ++ [(oa, .inl (cJ, 1, .inr (.inl yo)))]) (Bw := (zWM cI cJ cZ h2 th (n, L) ((zcb kt pt), (zcb km pm), (zcb kl pl)) mc (false, wc, nu, lc, le, af, tr, ms, cl, tm) (co, yn, yh, pa))) hP
  have hD9 : va_D (zAb s.heap.size) ((zWM cI cJ cZ h2 th (n, L) ((zcb kt pt), (zcb km pm), (zcb kl pl)) mc (false, wc, nu, lc, le, af, tr, ms, cl, tm) (co, yn, yh, pa)) ++ ((zWT cI cJ h (n, L) (kt, km, kl) (pt, pm, pl) (nu, le, ow, fo, false, wc, lc, tr, cl, tm, ms) (yl, yc, yt, co, pa, su, sc) mc) ++ [(oa, .inl (cJ, 1, .inr (.inl yo)))])) := zswapD (A := (zWT cI cJ h (n, L) (kt, km, kl) (pt, pm, pl) (nu, le, ow, fo, false, wc, lc, tr, cl, tm, ms) (yl, yc, yt, co, pa, su, sc) mc) ++ [(oa, .inl (cJ, 1, .inr (.inl yo)))]) (Bw := (zWM cI cJ cZ h2 th (n, L) ((zcb kt pt), (zcb km pm), (zcb kl pl)) mc (false, wc, nu, lc, le, af, tr, ms, cl, tm) (co, yn, yh, pa))) hD
  refine zci (zrV (As := [.int i]) (rest := []) ⟨hx, hb, hml, hown, hts⟩ (zV 0 hP9 hD9 hK hE hB hS rfl rfl) (c_X5_lessonWord_x1  (rfl)) (cwV 1 hts gL_law_X5_lessonWord rfl rfl rfl hdv_X5_lessonWord ⟨Nat.le_of_ble_eq_true rfl, Nat.le_of_ble_eq_true rfl⟩) rfl rfl hl.1 rfl (lv_room (Nat.le_of_ble_eq_true rfl)) dL_law_620 ⟨(show cc + 1 + 0 ≤ 601024 by omega), (show ss + 6 + 0 ≤ 7293034 by omega)⟩) hS (fun H locs hP hD hS => ?_)
  have hP : va_P D vwCl ((zWT cI cJ h (n, L) (kt, km, kl) (pt, pm, pl) (nu, le, ow, fo, false, wc, lc, tr, cl, tm, ms) (yl, yc, yt, co, pa, su, sc) mc) ++ ((oa, .inl (cJ, 1, .inr (.inl yo))) :: (zWM cI cJ cZ h2 1 (n, L) ((zcb kt pt), (zcb km pm), (zcb kl pl)) mc (false, wc, nu, lc, le, af, tr, ms, cl, tm) (co, yn, yh, pa)))) H := zswapP (A := (zWM cI cJ cZ h2 1 (n, L) ((zcb kt pt), (zcb km pm), (zcb kl pl)) mc (false, wc, nu, lc, le, af, tr, ms, cl, tm) (co, yn, yh, pa))) (Bw := (zWT cI cJ h (n, L) (kt, km, kl) (pt, pm, pl) (nu, le, ow, fo, false, wc, lc, tr, cl, tm, ms) (yl, yc, yt, co, pa, su, sc) mc) ++ [(oa, .inl (cJ, 1, .inr (.inl yo)))]) hP
  have hD : va_D (zAb s.heap.size) ((zWT cI cJ h (n, L) (kt, km, kl) (pt, pm, pl) (nu, le, ow, fo, false, wc, lc, tr, cl, tm, ms) (yl, yc, yt, co, pa, su, sc) mc) ++ ((oa, .inl (cJ, 1, .inr (.inl yo))) :: (zWM cI cJ cZ h2 1 (n, L) ((zcb kt pt), (zcb km pm), (zcb kl pl)) mc (false, wc, nu, lc, le, af, tr, ms, cl, tm) (co, yn, yh, pa)))) := zswapD (A := (zWM cI cJ cZ h2 1 (n, L) ((zcb kt pt), (zcb km pm), (zcb kl pl)) mc (false, wc, nu, lc, le, af, tr, ms, cl, tm) (co, yn, yh, pa))) (Bw := (zWT cI cJ h (n, L) (kt, km, kl) (pt, pm, pl) (nu, le, ow, fo, false, wc, lc, tr, cl, tm, ms) (yl, yc, yt, co, pa, su, sc) mc) ++ [(oa, .inl (cJ, 1, .inr (.inl yo)))]) hD
  refine lv_istore (lv' := [(6, .int 0), (5, .int 1), (0, .ref b), (1, .ref (h 0)), (2, .ref (h2 0)), (3, .ref oa), (4, .int (nI (4 * j)))]) hx hb dL_law_623 hl (by decide) rfl (fun ls hl => ?_)
  refine lv_aload_n hx hb dL_law_625 rfl (lv_at hl 4 rfl) ?_
  have hP9 : va_P D vwCl ((zWM cI cJ cZ h2 1 (n, L) ((zcb kt pt), (zcb km pm), (zcb kl pl)) mc (false, wc, nu, lc, le, af, tr, ms, cl, tm) (co, yn, yh, pa)) ++ ((zWT cI cJ h (n, L) (kt, km, kl) (pt, pm, pl) (nu, le, ow, fo, false, wc, lc, tr, cl, tm, ms) (yl, yc, yt, co, pa, su, sc) mc) ++ [(oa, .inl (cJ, 1, .inr (.inl yo)))])) H := zswapP (A := (zWT cI cJ h (n, L) (kt, km, kl) (pt, pm, pl) (nu, le, ow, fo, false, wc, lc, tr, cl, tm, ms) (yl, yc, yt, co, pa, su, sc) mc) ++ [(oa, .inl (cJ, 1, .inr (.inl yo)))]) (Bw := (zWM cI cJ cZ h2 1 (n, L) ((zcb kt pt), (zcb km pm), (zcb kl pl)) mc (false, wc, nu, lc, le, af, tr, ms, cl, tm) (co, yn, yh, pa))) hP
  have hD9 : va_D (zAb s.heap.size) ((zWM cI cJ cZ h2 1 (n, L) ((zcb kt pt), (zcb km pm), (zcb kl pl)) mc (false, wc, nu, lc, le, af, tr, ms, cl, tm) (co, yn, yh, pa)) ++ ((zWT cI cJ h (n, L) (kt, km, kl) (pt, pm, pl) (nu, le, ow, fo, false, wc, lc, tr, cl, tm, ms) (yl, yc, yt, co, pa, su, sc) mc) ++ [(oa, .inl (cJ, 1, .inr (.inl yo)))])) := zswapD (A := (zWT cI cJ h (n, L) (kt, km, kl) (pt, pm, pl) (nu, le, ow, fo, false, wc, lc, tr, cl, tm, ms) (yl, yc, yt, co, pa, su, sc) mc) ++ [(oa, .inl (cJ, 1, .inr (.inl yo)))]) (Bw := (zWM cI cJ cZ h2 1 (n, L) ((zcb kt pt), (zcb km pm), (zcb kl pl)) mc (false, wc, nu, lc, le, af, tr, ms, cl, tm) (co, yn, yh, pa))) hD
  refine zci (zrV (As := []) (rest := []) ⟨hx, hb, hml, hown, hts⟩ (zV 0 hP9 hD9 hK hE hB hS rfl rfl) (c_X5_thrown  ) (cwV 0 hts gL_law_X5_thrown rfl rfl rfl hdv_X5_thrown ⟨Nat.le_of_ble_eq_true rfl, Nat.le_of_ble_eq_true rfl⟩) rfl rfl hl.1 rfl (lv_room (Nat.le_of_ble_eq_true rfl)) dL_law_626 ⟨(show cc + 1 + 0 + 0 ≤ 601024 by omega), (show ss + 6 + 0 + 0 ≤ 7293034 by omega)⟩) hS (fun H locs hP hD hS => ?_)
  have hP : va_P D vwCl ((zWT cI cJ h (n, L) (kt, km, kl) (pt, pm, pl) (nu, le, ow, fo, false, wc, lc, tr, cl, tm, ms) (yl, yc, yt, co, pa, su, sc) mc) ++ ((oa, .inl (cJ, 1, .inr (.inl yo))) :: (zWM cI cJ cZ h2 1 (n, L) ((zcb kt pt), (zcb km pm), (zcb kl pl)) mc (false, wc, nu, lc, le, af, tr, ms, cl, tm) (co, yn, yh, pa)))) H := zswapP (A := (zWM cI cJ cZ h2 1 (n, L) ((zcb kt pt), (zcb km pm), (zcb kl pl)) mc (false, wc, nu, lc, le, af, tr, ms, cl, tm) (co, yn, yh, pa))) (Bw := (zWT cI cJ h (n, L) (kt, km, kl) (pt, pm, pl) (nu, le, ow, fo, false, wc, lc, tr, cl, tm, ms) (yl, yc, yt, co, pa, su, sc) mc) ++ [(oa, .inl (cJ, 1, .inr (.inl yo)))]) hP
  have hD : va_D (zAb s.heap.size) ((zWT cI cJ h (n, L) (kt, km, kl) (pt, pm, pl) (nu, le, ow, fo, false, wc, lc, tr, cl, tm, ms) (yl, yc, yt, co, pa, su, sc) mc) ++ ((oa, .inl (cJ, 1, .inr (.inl yo))) :: (zWM cI cJ cZ h2 1 (n, L) ((zcb kt pt), (zcb km pm), (zcb kl pl)) mc (false, wc, nu, lc, le, af, tr, ms, cl, tm) (co, yn, yh, pa)))) := zswapD (A := (zWM cI cJ cZ h2 1 (n, L) ((zcb kt pt), (zcb km pm), (zcb kl pl)) mc (false, wc, nu, lc, le, af, tr, ms, cl, tm) (co, yn, yh, pa))) (Bw := (zWT cI cJ h (n, L) (kt, km, kl) (pt, pm, pl) (nu, le, ow, fo, false, wc, lc, tr, cl, tm, ms) (yl, yc, yt, co, pa, su, sc) mc) ++ [(oa, .inl (cJ, 1, .inr (.inl yo)))]) hD
  refine lv_iload hx hb dL_law_629 (lv_at hl 1 rfl) ?_
  refine lv_icmp_eq (tgt := 636) hx hb dL_law_631 (by decide) (fun c_5 => ?_) (fun c_5 => ?_)
  · skip
    refine lv_iload hx hb dL_law_636 (lv_at hl 1 rfl) ?_
    refine lv_if_ne (tgt := 653) hx hb dL_law_638 (by decide) (fun c_6 => ?_) (fun c_6 => ?_)
    · skip
      refine lv_goto (tgt := 1191) hx hb dL_law_653 (by decide) ?_
      refine W.widen (k := cc + 2) (n := ss + 1542) (show cc + 1 + 0 + 0 ≤ cc + 2 by omega) (show ss + 6 + 0 + 0 ≤ ss + 1542 by omega) ?_
      exact kont h h2 oa yo 1 n L kt km kl pt pm pl nu le ow fo false wc lc tr cl tm ms yl yc yt co pa su sc mc af yn yh (hI.mono) _ _ _ hP hD hS (lv_sub hl [2, 3, 4, 5, 6] rfl)
    · skip
      exfalso; first | omega | (revert c_6; decide) | (exact absurd rfl c_6) | simp_all
  · skip
    exfalso; first | omega | (revert c_5; decide) | (exact absurd rfl c_5) | simp_all

set_option maxHeartbeats 1000000 in
set_option maxRecDepth 100000 in
theorem law_lessonWord_x2 {p : Program} {l : Launch} {e : Env} {s : State} {m : MethodId} {below : List Frame} {meth : Method} {c : Code} {b L9 : Nat} {xs : Nat → Int32} {D : va_G} {cI cJ cZ : ClassId} {kr kp j cc ss : Nat} {h h2 : Nat → Nat} {oa : Nat} {yo : Nat → Int64} {th : Int32} {n : Nat} {L : Nat → Int64} {kt : Nat → Int32} {km : Nat → Int32} {kl : Nat → Int32} {pt : Nat → Int32} {pm : Nat → Int32} {pl : Nat → Int32} {nu : Nat → Int32} {le : Nat → Int32} {ow : Nat → Int32} {fo : Nat → Int32} {run : Bool} {wc : Nat} {lc : Nat} {tr : Nat} {cl : Nat} {tm : Nat} {ms : Nat} {yl : Nat → Int32} {yc : Nat → Int32} {yt : Nat → Int32} {co : Nat} {pa : Int32} {su : Nat} {sc : Nat} {mc : Nat → Int32} {af : Nat → Int32} {yn : Nat} {yh : Nat → Int32} {i : Int32} (C : zLw p l s m meth c b L9 xs D cI cJ cZ kr kp) (hj : 4 * j + 4 ≤ L9) (hcc : cc + 2 ≤ 601024) (hss : ss + 1542 ≤ 7293034) (kont : zKt p l e s m below meth c b D cI cJ cZ j cc ss) (hI : zInv j n L pt le ow af true wc lc tr cl tm ms yl yc yt co yn su sc yh) (ea1 : xs (4 * j + 1) = i) (hi : i < 0 ∨ ¬ i < nI wc) {H : Heap} {locs : List Loc} {ls : Array Slot} (hP : va_P D vwCl ((zWT cI cJ h (n, L) (kt, km, kl) (pt, pm, pl) (nu, le, ow, fo, true, wc, lc, tr, cl, tm, ms) (yl, yc, yt, co, pa, su, sc) mc) ++ ((oa, .inl (cJ, 1, .inr (.inl yo))) :: (zWM cI cJ cZ h2 th (n, L) ((zcb kt pt), (zcb km pm), (zcb kl pl)) mc (true, wc, nu, lc, le, af, tr, ms, cl, tm) (co, yn, yh, pa)))) H) (hD : va_D (zAb s.heap.size) ((zWT cI cJ h (n, L) (kt, km, kl) (pt, pm, pl) (nu, le, ow, fo, true, wc, lc, tr, cl, tm, ms) (yl, yc, yt, co, pa, su, sc) mc) ++ ((oa, .inl (cJ, 1, .inr (.inl yo))) :: (zWM cI cJ cZ h2 th (n, L) ((zcb kt pt), (zcb km pm), (zcb kl pl)) mc (true, wc, nu, lc, le, af, tr, ms, cl, tm) (co, yn, yh, pa))))) (hS : va_S (zAb s.heap.size) s.heap H locs) (hl : lv_has ls 9 [(0, .ref b), (1, .ref (h 0)), (2, .ref (h2 0)), (3, .ref oa), (4, .int (nI (4 * j)))]) : W p l e room_1 s m #[Value.ref b] below meth c H locs cc ss (lw_Z below #[Value.ref b] s) (F0 m 600 ls []) := by
  obtain ⟨C0, hls, hK, hE, hL9⟩ := C
  obtain ⟨hx, hb, hr, hml, hown, hts0, hX, hbl, hlocks, hgv⟩ := C0
  have hts : ∀ w ∈ wsL_law, w.before #[Value.ref b] s = true := fun w h => hts0 w (wsL_law_in w h)
  have hbA : ¬ zAb s.heap.size b := Nat.not_le.mpr hbl
  have hB : s.heap.size ≤ s.heap.size := Nat.le_refl _
  have hn40 := hI.1.1
  have hzk := hI.1.2
  obtain ⟨hwc6, hlc48, htrl, hclt, hms1⟩ := hI.2.1
  have hrt := hI.2.2.1
  have hle := hI.2.2.2.1
  have hMk := hI.2.2.2.2.1
  have hct := hI.2.2.2.2.2.1
  have hHi := hI.2.2.2.2.2.2.1
  have hsu := hI.2.2.2.2.2.2.2.2.1
  have hj5 : j ≤ 511 := by omega
  have hco : co < 256 := by have := hct.1; omega
  have hco6 : co ≤ 256 := Nat.le_of_lt hco
  have hsl : su < 2147483648 := by have := hsu.2.2; omega
  have hpt := hI.hpt (Nat.le_succ_of_le hj5)
  refine lv_aload_n hx hb dL_law_600 rfl (lv_at hl 1 rfl) ?_
  refine lv_aload_n hx hb dL_law_601 rfl (lv_at hl 0 rfl) ?_
  refine lv_iload hx hb dL_law_602 (lv_at hl 4 rfl) ?_
  refine lv_iconst (v := 1) hx hb dL_law_604 (by decide) ?_
  refine lv_iadd hx hb dL_law_605 ?_
  refine lv_topi (fun v_1 ev_1 => ?_)
  obtain rfl : v_1 = (nI ((4 * j) + 1)) := ev_1.trans (nI_add (4 * j) 1)
  refine va_sld hx hb hX hbl hbA hS (vp_in_nI (n := ((4 * j) + 1)) (N := L9) (by omega) (by omega)) dL_law_606 ?_
  refine lv_topi (fun v_2 ev_2 => ?_)
  obtain rfl : i = v_2 := (ev_2.trans ((congrArg xs (nI_clamp (by omega))).trans ea1)).symm
  refine lv_aload_n hx hb dL_law_607 rfl (lv_at hl 3 rfl) ?_
  refine zci (vx_runSW (As := [.ref (h 0), .int i, .ref oa]) (rest := []) ⟨hx, hb, hml, hown, hts⟩ (c_L_lessonWord_x2  hls (rfl) (hi)) (vx_cwSW 3 hts gL_law_L_lessonWord rfl rfl rfl hds_L_lessonWord ⟨Nat.le_of_ble_eq_true rfl, Nat.le_of_ble_eq_true rfl⟩) (zS hP hD hK hE hB hS) rfl rfl hl.1 rfl (lv_room (Nat.le_of_ble_eq_true rfl)) dL_law_608 ⟨(show cc + 1 ≤ 601024 by omega), (show ss + 6 ≤ 7293034 by omega)⟩) hS (fun H locs hP hD hS => ?_)
  have hP : va_P D vwCl ((zWT cI cJ h (n, L) (kt, km, kl) (pt, pm, pl) (nu, le, ow, fo, true, wc, lc, tr, cl, tm, ms) (yl, yc, yt, co, pa, su, sc) mc) ++ ((oa, .inl (cJ, 1, .inr (.inl yo))) :: (zWM cI cJ cZ h2 th (n, L) ((zcb kt pt), (zcb km pm), (zcb kl pl)) mc (true, wc, nu, lc, le, af, tr, ms, cl, tm) (co, yn, yh, pa)))) H := hP
  have hD : va_D (zAb s.heap.size) ((zWT cI cJ h (n, L) (kt, km, kl) (pt, pm, pl) (nu, le, ow, fo, true, wc, lc, tr, cl, tm, ms) (yl, yc, yt, co, pa, su, sc) mc) ++ ((oa, .inl (cJ, 1, .inr (.inl yo))) :: (zWM cI cJ cZ h2 th (n, L) ((zcb kt pt), (zcb km pm), (zcb kl pl)) mc (true, wc, nu, lc, le, af, tr, ms, cl, tm) (co, yn, yh, pa)))) := hD
  refine lv_istore (lv' := [(5, .int 2), (0, .ref b), (1, .ref (h 0)), (2, .ref (h2 0)), (3, .ref oa), (4, .int (nI (4 * j)))]) hx hb dL_law_611 hl (by decide) rfl (fun ls hl => ?_)
  refine lv_aload_n hx hb dL_law_613 rfl (lv_at hl 3 rfl) ?_
  refine lv_aload_n hx hb dL_law_614 rfl (lv_at hl 1 rfl) ?_
  refine lv_iload hx hb dL_law_615 (lv_at hl 5 rfl) ?_
  refine lv_iconst (v := 1) hx hb dL_law_617 (by decide) ?_
  refine lv_iadd hx hb dL_law_618 ?_
  refine lv_topi (fun v_3 ev_3 => ?_)
  obtain rfl : v_3 = (nI ((4 * j) + 1)) := ev_3.trans (nI_add (4 * j) 1)
  refine va_sld hx hb hX hbl hbA hS (vp_in_nI (n := ((4 * j) + 1)) (N := L9) (by omega) (by omega)) dL_law_619 ?_
  refine lv_topi (fun v_4 ev_4 => ?_)
  obtain rfl : i = v_4 := (ev_4.trans ((congrArg xs (nI_clamp (by omega))).trans ea1)).symm
  have hP9 : va_P D vwCl ((zWM cI cJ cZ h2 th (n, L) ((zcb kt pt), (zcb km pm), (zcb kl pl)) mc (true, wc, nu, lc, le, af, tr, ms, cl, tm) (co, yn, yh, pa)) ++ ((zWT cI cJ h (n, L) (kt, km, kl) (pt, pm, pl) (nu, le, ow, fo, true, wc, lc, tr, cl, tm, ms) (yl, yc, yt, co, pa, su, sc) mc) ++ [(oa, .inl (cJ, 1, .inr (.inl yo)))])) H := zswapP (A := (zWT cI cJ h (n, L) (kt, km, kl) (pt, pm, pl) (nu, le, ow, fo, true, wc, lc, tr, cl, tm, ms) (yl, yc, yt, co, pa, su, sc) mc) ++ [(oa, .inl (cJ, 1, .inr (.inl yo)))]) (Bw := (zWM cI cJ cZ h2 th (n, L) ((zcb kt pt), (zcb km pm), (zcb kl pl)) mc (true, wc, nu, lc, le, af, tr, ms, cl, tm) (co, yn, yh, pa))) hP
  have hD9 : va_D (zAb s.heap.size) ((zWM cI cJ cZ h2 th (n, L) ((zcb kt pt), (zcb km pm), (zcb kl pl)) mc (true, wc, nu, lc, le, af, tr, ms, cl, tm) (co, yn, yh, pa)) ++ ((zWT cI cJ h (n, L) (kt, km, kl) (pt, pm, pl) (nu, le, ow, fo, true, wc, lc, tr, cl, tm, ms) (yl, yc, yt, co, pa, su, sc) mc) ++ [(oa, .inl (cJ, 1, .inr (.inl yo)))])) := zswapD (A := (zWT cI cJ h (n, L) (kt, km, kl) (pt, pm, pl) (nu, le, ow, fo, true, wc, lc, tr, cl, tm, ms) (yl, yc, yt, co, pa, su, sc) mc) ++ [(oa, .inl (cJ, 1, .inr (.inl yo)))]) (Bw := (zWM cI cJ cZ h2 th (n, L) ((zcb kt pt), (zcb km pm), (zcb kl pl)) mc (true, wc, nu, lc, le, af, tr, ms, cl, tm) (co, yn, yh, pa))) hD
  refine zci (zrV (As := [.int i]) (rest := []) ⟨hx, hb, hml, hown, hts⟩ (zV 0 hP9 hD9 hK hE hB hS rfl rfl) (c_X5_lessonWord_x2  (rfl) (hi)) (cwV 1 hts gL_law_X5_lessonWord rfl rfl rfl hdv_X5_lessonWord ⟨Nat.le_of_ble_eq_true rfl, Nat.le_of_ble_eq_true rfl⟩) rfl rfl hl.1 rfl (lv_room (Nat.le_of_ble_eq_true rfl)) dL_law_620 ⟨(show cc + 1 + 0 ≤ 601024 by omega), (show ss + 6 + 0 ≤ 7293034 by omega)⟩) hS (fun H locs hP hD hS => ?_)
  have hP : va_P D vwCl ((zWT cI cJ h (n, L) (kt, km, kl) (pt, pm, pl) (nu, le, ow, fo, true, wc, lc, tr, cl, tm, ms) (yl, yc, yt, co, pa, su, sc) mc) ++ ((oa, .inl (cJ, 1, .inr (.inl yo))) :: (zWM cI cJ cZ h2 2 (n, L) ((zcb kt pt), (zcb km pm), (zcb kl pl)) mc (true, wc, nu, lc, le, af, tr, ms, cl, tm) (co, yn, yh, pa)))) H := zswapP (A := (zWM cI cJ cZ h2 2 (n, L) ((zcb kt pt), (zcb km pm), (zcb kl pl)) mc (true, wc, nu, lc, le, af, tr, ms, cl, tm) (co, yn, yh, pa))) (Bw := (zWT cI cJ h (n, L) (kt, km, kl) (pt, pm, pl) (nu, le, ow, fo, true, wc, lc, tr, cl, tm, ms) (yl, yc, yt, co, pa, su, sc) mc) ++ [(oa, .inl (cJ, 1, .inr (.inl yo)))]) hP
  have hD : va_D (zAb s.heap.size) ((zWT cI cJ h (n, L) (kt, km, kl) (pt, pm, pl) (nu, le, ow, fo, true, wc, lc, tr, cl, tm, ms) (yl, yc, yt, co, pa, su, sc) mc) ++ ((oa, .inl (cJ, 1, .inr (.inl yo))) :: (zWM cI cJ cZ h2 2 (n, L) ((zcb kt pt), (zcb km pm), (zcb kl pl)) mc (true, wc, nu, lc, le, af, tr, ms, cl, tm) (co, yn, yh, pa)))) := zswapD (A := (zWM cI cJ cZ h2 2 (n, L) ((zcb kt pt), (zcb km pm), (zcb kl pl)) mc (true, wc, nu, lc, le, af, tr, ms, cl, tm) (co, yn, yh, pa))) (Bw := (zWT cI cJ h (n, L) (kt, km, kl) (pt, pm, pl) (nu, le, ow, fo, true, wc, lc, tr, cl, tm, ms) (yl, yc, yt, co, pa, su, sc) mc) ++ [(oa, .inl (cJ, 1, .inr (.inl yo)))]) hD
  refine lv_istore (lv' := [(6, .int 0), (5, .int 2), (0, .ref b), (1, .ref (h 0)), (2, .ref (h2 0)), (3, .ref oa), (4, .int (nI (4 * j)))]) hx hb dL_law_623 hl (by decide) rfl (fun ls hl => ?_)
  refine lv_aload_n hx hb dL_law_625 rfl (lv_at hl 4 rfl) ?_
  have hP9 : va_P D vwCl ((zWM cI cJ cZ h2 2 (n, L) ((zcb kt pt), (zcb km pm), (zcb kl pl)) mc (true, wc, nu, lc, le, af, tr, ms, cl, tm) (co, yn, yh, pa)) ++ ((zWT cI cJ h (n, L) (kt, km, kl) (pt, pm, pl) (nu, le, ow, fo, true, wc, lc, tr, cl, tm, ms) (yl, yc, yt, co, pa, su, sc) mc) ++ [(oa, .inl (cJ, 1, .inr (.inl yo)))])) H := zswapP (A := (zWT cI cJ h (n, L) (kt, km, kl) (pt, pm, pl) (nu, le, ow, fo, true, wc, lc, tr, cl, tm, ms) (yl, yc, yt, co, pa, su, sc) mc) ++ [(oa, .inl (cJ, 1, .inr (.inl yo)))]) (Bw := (zWM cI cJ cZ h2 2 (n, L) ((zcb kt pt), (zcb km pm), (zcb kl pl)) mc (true, wc, nu, lc, le, af, tr, ms, cl, tm) (co, yn, yh, pa))) hP
  have hD9 : va_D (zAb s.heap.size) ((zWM cI cJ cZ h2 2 (n, L) ((zcb kt pt), (zcb km pm), (zcb kl pl)) mc (true, wc, nu, lc, le, af, tr, ms, cl, tm) (co, yn, yh, pa)) ++ ((zWT cI cJ h (n, L) (kt, km, kl) (pt, pm, pl) (nu, le, ow, fo, true, wc, lc, tr, cl, tm, ms) (yl, yc, yt, co, pa, su, sc) mc) ++ [(oa, .inl (cJ, 1, .inr (.inl yo)))])) := zswapD (A := (zWT cI cJ h (n, L) (kt, km, kl) (pt, pm, pl) (nu, le, ow, fo, true, wc, lc, tr, cl, tm, ms) (yl, yc, yt, co, pa, su, sc) mc) ++ [(oa, .inl (cJ, 1, .inr (.inl yo)))]) (Bw := (zWM cI cJ cZ h2 2 (n, L) ((zcb kt pt), (zcb km pm), (zcb kl pl)) mc (true, wc, nu, lc, le, af, tr, ms, cl, tm) (co, yn, yh, pa))) hD
  refine zci (zrV (As := []) (rest := []) ⟨hx, hb, hml, hown, hts⟩ (zV 0 hP9 hD9 hK hE hB hS rfl rfl) (c_X5_thrown  ) (cwV 0 hts gL_law_X5_thrown rfl rfl rfl hdv_X5_thrown ⟨Nat.le_of_ble_eq_true rfl, Nat.le_of_ble_eq_true rfl⟩) rfl rfl hl.1 rfl (lv_room (Nat.le_of_ble_eq_true rfl)) dL_law_626 ⟨(show cc + 1 + 0 + 0 ≤ 601024 by omega), (show ss + 6 + 0 + 0 ≤ 7293034 by omega)⟩) hS (fun H locs hP hD hS => ?_)
  have hP : va_P D vwCl ((zWT cI cJ h (n, L) (kt, km, kl) (pt, pm, pl) (nu, le, ow, fo, true, wc, lc, tr, cl, tm, ms) (yl, yc, yt, co, pa, su, sc) mc) ++ ((oa, .inl (cJ, 1, .inr (.inl yo))) :: (zWM cI cJ cZ h2 2 (n, L) ((zcb kt pt), (zcb km pm), (zcb kl pl)) mc (true, wc, nu, lc, le, af, tr, ms, cl, tm) (co, yn, yh, pa)))) H := zswapP (A := (zWM cI cJ cZ h2 2 (n, L) ((zcb kt pt), (zcb km pm), (zcb kl pl)) mc (true, wc, nu, lc, le, af, tr, ms, cl, tm) (co, yn, yh, pa))) (Bw := (zWT cI cJ h (n, L) (kt, km, kl) (pt, pm, pl) (nu, le, ow, fo, true, wc, lc, tr, cl, tm, ms) (yl, yc, yt, co, pa, su, sc) mc) ++ [(oa, .inl (cJ, 1, .inr (.inl yo)))]) hP
  have hD : va_D (zAb s.heap.size) ((zWT cI cJ h (n, L) (kt, km, kl) (pt, pm, pl) (nu, le, ow, fo, true, wc, lc, tr, cl, tm, ms) (yl, yc, yt, co, pa, su, sc) mc) ++ ((oa, .inl (cJ, 1, .inr (.inl yo))) :: (zWM cI cJ cZ h2 2 (n, L) ((zcb kt pt), (zcb km pm), (zcb kl pl)) mc (true, wc, nu, lc, le, af, tr, ms, cl, tm) (co, yn, yh, pa)))) := zswapD (A := (zWM cI cJ cZ h2 2 (n, L) ((zcb kt pt), (zcb km pm), (zcb kl pl)) mc (true, wc, nu, lc, le, af, tr, ms, cl, tm) (co, yn, yh, pa))) (Bw := (zWT cI cJ h (n, L) (kt, km, kl) (pt, pm, pl) (nu, le, ow, fo, true, wc, lc, tr, cl, tm, ms) (yl, yc, yt, co, pa, su, sc) mc) ++ [(oa, .inl (cJ, 1, .inr (.inl yo)))]) hD
  refine lv_iload hx hb dL_law_629 (lv_at hl 1 rfl) ?_
  refine lv_icmp_eq (tgt := 636) hx hb dL_law_631 (by decide) (fun c_5 => ?_) (fun c_5 => ?_)
  · skip
    refine lv_iload hx hb dL_law_636 (lv_at hl 1 rfl) ?_
    refine lv_if_ne (tgt := 653) hx hb dL_law_638 (by decide) (fun c_6 => ?_) (fun c_6 => ?_)
    · skip
      refine lv_goto (tgt := 1191) hx hb dL_law_653 (by decide) ?_
      refine W.widen (k := cc + 2) (n := ss + 1542) (show cc + 1 + 0 + 0 ≤ cc + 2 by omega) (show ss + 6 + 0 + 0 ≤ ss + 1542 by omega) ?_
      exact kont h h2 oa yo 2 n L kt km kl pt pm pl nu le ow fo true wc lc tr cl tm ms yl yc yt co pa su sc mc af yn yh (hI.mono) _ _ _ hP hD hS (lv_sub hl [2, 3, 4, 5, 6] rfl)
    · skip
      exfalso; first | omega | (revert c_6; decide) | (exact absurd rfl c_6) | simp_all
  · skip
    exfalso; first | omega | (revert c_5; decide) | (exact absurd rfl c_5) | simp_all

set_option maxHeartbeats 1000000 in
set_option maxRecDepth 100000 in
theorem law_wanted {p : Program} {l : Launch} {e : Env} {s : State} {m : MethodId} {below : List Frame} {meth : Method} {c : Code} {b L9 : Nat} {xs : Nat → Int32} {D : va_G} {cI cJ cZ : ClassId} {kr kp j cc ss : Nat} {h h2 : Nat → Nat} {oa : Nat} {yo : Nat → Int64} {th : Int32} {n : Nat} {L : Nat → Int64} {kt : Nat → Int32} {km : Nat → Int32} {kl : Nat → Int32} {pt : Nat → Int32} {pm : Nat → Int32} {pl : Nat → Int32} {nu : Nat → Int32} {le : Nat → Int32} {ow : Nat → Int32} {fo : Nat → Int32} {run : Bool} {wc : Nat} {lc : Nat} {tr : Nat} {cl : Nat} {tm : Nat} {ms : Nat} {yl : Nat → Int32} {yc : Nat → Int32} {yt : Nat → Int32} {co : Nat} {pa : Int32} {su : Nat} {sc : Nat} {mc : Nat → Int32} {af : Nat → Int32} {yn : Nat} {yh : Nat → Int32}  (C : zLw p l s m meth c b L9 xs D cI cJ cZ kr kp) (hj : 4 * j + 4 ≤ L9) (hcc : cc + 2 ≤ 601024) (hss : ss + 1542 ≤ 7293034) (kont : zKt p l e s m below meth c b D cI cJ cZ j cc ss) (hI : zInv j n L pt le ow af true wc lc tr cl tm ms yl yc yt co yn su sc yh)  {H : Heap} {locs : List Loc} {ls : Array Slot} (hP : va_P D vwCl ((zWT cI cJ h (n, L) (kt, km, kl) (pt, pm, pl) (nu, le, ow, fo, true, wc, lc, tr, cl, tm, ms) (yl, yc, yt, co, pa, su, sc) mc) ++ ((oa, .inl (cJ, 1, .inr (.inl yo))) :: (zWM cI cJ cZ h2 th (n, L) ((zcb kt pt), (zcb km pm), (zcb kl pl)) mc (true, wc, nu, lc, le, af, tr, ms, cl, tm) (co, yn, yh, pa)))) H) (hD : va_D (zAb s.heap.size) ((zWT cI cJ h (n, L) (kt, km, kl) (pt, pm, pl) (nu, le, ow, fo, true, wc, lc, tr, cl, tm, ms) (yl, yc, yt, co, pa, su, sc) mc) ++ ((oa, .inl (cJ, 1, .inr (.inl yo))) :: (zWM cI cJ cZ h2 th (n, L) ((zcb kt pt), (zcb km pm), (zcb kl pl)) mc (true, wc, nu, lc, le, af, tr, ms, cl, tm) (co, yn, yh, pa))))) (hS : va_S (zAb s.heap.size) s.heap H locs) (hl : lv_has ls 9 [(0, .ref b), (1, .ref (h 0)), (2, .ref (h2 0)), (3, .ref oa), (4, .int (nI (4 * j)))]) : W p l e room_1 s m #[Value.ref b] below meth c H locs cc ss (lw_Z below #[Value.ref b] s) (F0 m 656 ls []) := by
  obtain ⟨C0, hls, hK, hE, hL9⟩ := C
  obtain ⟨hx, hb, hr, hml, hown, hts0, hX, hbl, hlocks, hgv⟩ := C0
  have hts : ∀ w ∈ wsL_law, w.before #[Value.ref b] s = true := fun w h => hts0 w (wsL_law_in w h)
  have hbA : ¬ zAb s.heap.size b := Nat.not_le.mpr hbl
  have hB : s.heap.size ≤ s.heap.size := Nat.le_refl _
  have hn40 := hI.1.1
  have hzk := hI.1.2
  obtain ⟨hwc6, hlc48, htrl, hclt, hms1⟩ := hI.2.1
  have hrt := hI.2.2.1
  have hle := hI.2.2.2.1
  have hMk := hI.2.2.2.2.1
  have hct := hI.2.2.2.2.2.1
  have hHi := hI.2.2.2.2.2.2.1
  have hsu := hI.2.2.2.2.2.2.2.2.1
  have hj5 : j ≤ 511 := by omega
  have hco : co < 256 := by have := hct.1; omega
  have hco6 : co ≤ 256 := Nat.le_of_lt hco
  have hsl : su < 2147483648 := by have := hsu.2.2; omega
  have hpt := hI.hpt (Nat.le_succ_of_le hj5)
  have htr48 : tr < 48 := by have := hrt rfl; omega
  refine lv_aload_n hx hb dL_law_656 rfl (lv_at hl 1 rfl) ?_
  refine lv_aload_n hx hb dL_law_657 rfl (lv_at hl 3 rfl) ?_
  refine zci (vx_runSW (As := [.ref (h 0), .ref oa]) (rest := []) ⟨hx, hb, hml, hown, hts⟩ (c_L_wanted  (rfl) (htr48)) (vx_cwSW 2 hts gL_law_L_wanted rfl rfl rfl hds_L_wanted ⟨Nat.le_of_ble_eq_true rfl, Nat.le_of_ble_eq_true rfl⟩) (zS hP hD hK hE hB hS) rfl rfl hl.1 rfl (lv_room (Nat.le_of_ble_eq_true rfl)) dL_law_658 ⟨(show cc + 0 ≤ 601024 by omega), (show ss + 0 ≤ 7293034 by omega)⟩) hS (fun H locs hP hD hS => ?_)
  have hP : va_P D vwCl ((zWT cI cJ h (n, L) (kt, km, kl) (pt, pm, pl) (nu, le, ow, fo, true, wc, lc, tr, cl, tm, ms) (yl, yc, yt, co, pa, su, sc) mc) ++ ((oa, .inl (cJ, 1, .inr (.inl (vp_updL yo 0 (((le tr)).toInt64))))) :: (zWM cI cJ cZ h2 th (n, L) ((zcb kt pt), (zcb km pm), (zcb kl pl)) mc (true, wc, nu, lc, le, af, tr, ms, cl, tm) (co, yn, yh, pa)))) H := hP
  have hD : va_D (zAb s.heap.size) ((zWT cI cJ h (n, L) (kt, km, kl) (pt, pm, pl) (nu, le, ow, fo, true, wc, lc, tr, cl, tm, ms) (yl, yc, yt, co, pa, su, sc) mc) ++ ((oa, .inl (cJ, 1, .inr (.inl (vp_updL yo 0 (((le tr)).toInt64))))) :: (zWM cI cJ cZ h2 th (n, L) ((zcb kt pt), (zcb km pm), (zcb kl pl)) mc (true, wc, nu, lc, le, af, tr, ms, cl, tm) (co, yn, yh, pa)))) := hD
  refine lv_istore (lv' := [(5, .int 0), (0, .ref b), (1, .ref (h 0)), (2, .ref (h2 0)), (3, .ref oa), (4, .int (nI (4 * j)))]) hx hb dL_law_661 hl (by decide) rfl (fun ls hl => ?_)
  refine lv_aload_n hx hb dL_law_663 rfl (lv_at hl 3 rfl) ?_
  have hP9 : va_P D vwCl ((zWM cI cJ cZ h2 th (n, L) ((zcb kt pt), (zcb km pm), (zcb kl pl)) mc (true, wc, nu, lc, le, af, tr, ms, cl, tm) (co, yn, yh, pa)) ++ ((zWT cI cJ h (n, L) (kt, km, kl) (pt, pm, pl) (nu, le, ow, fo, true, wc, lc, tr, cl, tm, ms) (yl, yc, yt, co, pa, su, sc) mc) ++ [(oa, .inl (cJ, 1, .inr (.inl (vp_updL yo 0 (((le tr)).toInt64)))))])) H := zswapP (A := (zWT cI cJ h (n, L) (kt, km, kl) (pt, pm, pl) (nu, le, ow, fo, true, wc, lc, tr, cl, tm, ms) (yl, yc, yt, co, pa, su, sc) mc) ++ [(oa, .inl (cJ, 1, .inr (.inl (vp_updL yo 0 (((le tr)).toInt64)))))]) (Bw := (zWM cI cJ cZ h2 th (n, L) ((zcb kt pt), (zcb km pm), (zcb kl pl)) mc (true, wc, nu, lc, le, af, tr, ms, cl, tm) (co, yn, yh, pa))) hP
  have hD9 : va_D (zAb s.heap.size) ((zWM cI cJ cZ h2 th (n, L) ((zcb kt pt), (zcb km pm), (zcb kl pl)) mc (true, wc, nu, lc, le, af, tr, ms, cl, tm) (co, yn, yh, pa)) ++ ((zWT cI cJ h (n, L) (kt, km, kl) (pt, pm, pl) (nu, le, ow, fo, true, wc, lc, tr, cl, tm, ms) (yl, yc, yt, co, pa, su, sc) mc) ++ [(oa, .inl (cJ, 1, .inr (.inl (vp_updL yo 0 (((le tr)).toInt64)))))])) := zswapD (A := (zWT cI cJ h (n, L) (kt, km, kl) (pt, pm, pl) (nu, le, ow, fo, true, wc, lc, tr, cl, tm, ms) (yl, yc, yt, co, pa, su, sc) mc) ++ [(oa, .inl (cJ, 1, .inr (.inl (vp_updL yo 0 (((le tr)).toInt64)))))]) (Bw := (zWM cI cJ cZ h2 th (n, L) ((zcb kt pt), (zcb km pm), (zcb kl pl)) mc (true, wc, nu, lc, le, af, tr, ms, cl, tm) (co, yn, yh, pa))) hD
  refine zci (zrV (As := []) (rest := []) ⟨hx, hb, hml, hown, hts⟩ (zV 0 hP9 hD9 hK hE hB hS rfl rfl) (c_X5_wanted  (rfl) (htr48)) (cwV 0 hts gL_law_X5_wanted rfl rfl rfl hdv_X5_wanted ⟨Nat.le_of_ble_eq_true rfl, Nat.le_of_ble_eq_true rfl⟩) rfl rfl hl.1 rfl (lv_room (Nat.le_of_ble_eq_true rfl)) dL_law_664 ⟨(show cc + 0 + 0 ≤ 601024 by omega), (show ss + 0 + 0 ≤ 7293034 by omega)⟩) hS (fun H locs hP hD hS => ?_)
  have hP : va_P D vwCl ((zWT cI cJ h (n, L) (kt, km, kl) (pt, pm, pl) (nu, le, ow, fo, true, wc, lc, tr, cl, tm, ms) (yl, yc, yt, co, pa, su, sc) mc) ++ ((oa, .inl (cJ, 1, .inr (.inl (vp_updL yo 0 (((le tr)).toInt64))))) :: (zWM cI cJ cZ h2 0 (n, L) ((zcb kt pt), (zcb km pm), (zcb kl pl)) mc (true, wc, nu, lc, le, af, tr, ms, cl, tm) (co, yn, yh, pa)))) H := zswapP (A := (zWM cI cJ cZ h2 0 (n, L) ((zcb kt pt), (zcb km pm), (zcb kl pl)) mc (true, wc, nu, lc, le, af, tr, ms, cl, tm) (co, yn, yh, pa))) (Bw := (zWT cI cJ h (n, L) (kt, km, kl) (pt, pm, pl) (nu, le, ow, fo, true, wc, lc, tr, cl, tm, ms) (yl, yc, yt, co, pa, su, sc) mc) ++ [(oa, .inl (cJ, 1, .inr (.inl (vp_updL yo 0 (((le tr)).toInt64)))))]) hP
  have hD : va_D (zAb s.heap.size) ((zWT cI cJ h (n, L) (kt, km, kl) (pt, pm, pl) (nu, le, ow, fo, true, wc, lc, tr, cl, tm, ms) (yl, yc, yt, co, pa, su, sc) mc) ++ ((oa, .inl (cJ, 1, .inr (.inl (vp_updL yo 0 (((le tr)).toInt64))))) :: (zWM cI cJ cZ h2 0 (n, L) ((zcb kt pt), (zcb km pm), (zcb kl pl)) mc (true, wc, nu, lc, le, af, tr, ms, cl, tm) (co, yn, yh, pa)))) := zswapD (A := (zWM cI cJ cZ h2 0 (n, L) ((zcb kt pt), (zcb km pm), (zcb kl pl)) mc (true, wc, nu, lc, le, af, tr, ms, cl, tm) (co, yn, yh, pa))) (Bw := (zWT cI cJ h (n, L) (kt, km, kl) (pt, pm, pl) (nu, le, ow, fo, true, wc, lc, tr, cl, tm, ms) (yl, yc, yt, co, pa, su, sc) mc) ++ [(oa, .inl (cJ, 1, .inr (.inl (vp_updL yo 0 (((le tr)).toInt64)))))]) hD
  refine lv_istore (lv' := [(6, .int (le tr)), (5, .int 0), (0, .ref b), (1, .ref (h 0)), (2, .ref (h2 0)), (3, .ref oa), (4, .int (nI (4 * j)))]) hx hb dL_law_667 hl (by decide) rfl (fun ls hl => ?_)
  refine lv_aload_n hx hb dL_law_669 rfl (lv_at hl 4 rfl) ?_
  have hP9 : va_P D vwCl ((zWM cI cJ cZ h2 0 (n, L) ((zcb kt pt), (zcb km pm), (zcb kl pl)) mc (true, wc, nu, lc, le, af, tr, ms, cl, tm) (co, yn, yh, pa)) ++ ((zWT cI cJ h (n, L) (kt, km, kl) (pt, pm, pl) (nu, le, ow, fo, true, wc, lc, tr, cl, tm, ms) (yl, yc, yt, co, pa, su, sc) mc) ++ [(oa, .inl (cJ, 1, .inr (.inl (vp_updL yo 0 (((le tr)).toInt64)))))])) H := zswapP (A := (zWT cI cJ h (n, L) (kt, km, kl) (pt, pm, pl) (nu, le, ow, fo, true, wc, lc, tr, cl, tm, ms) (yl, yc, yt, co, pa, su, sc) mc) ++ [(oa, .inl (cJ, 1, .inr (.inl (vp_updL yo 0 (((le tr)).toInt64)))))]) (Bw := (zWM cI cJ cZ h2 0 (n, L) ((zcb kt pt), (zcb km pm), (zcb kl pl)) mc (true, wc, nu, lc, le, af, tr, ms, cl, tm) (co, yn, yh, pa))) hP
  have hD9 : va_D (zAb s.heap.size) ((zWM cI cJ cZ h2 0 (n, L) ((zcb kt pt), (zcb km pm), (zcb kl pl)) mc (true, wc, nu, lc, le, af, tr, ms, cl, tm) (co, yn, yh, pa)) ++ ((zWT cI cJ h (n, L) (kt, km, kl) (pt, pm, pl) (nu, le, ow, fo, true, wc, lc, tr, cl, tm, ms) (yl, yc, yt, co, pa, su, sc) mc) ++ [(oa, .inl (cJ, 1, .inr (.inl (vp_updL yo 0 (((le tr)).toInt64)))))])) := zswapD (A := (zWT cI cJ h (n, L) (kt, km, kl) (pt, pm, pl) (nu, le, ow, fo, true, wc, lc, tr, cl, tm, ms) (yl, yc, yt, co, pa, su, sc) mc) ++ [(oa, .inl (cJ, 1, .inr (.inl (vp_updL yo 0 (((le tr)).toInt64)))))]) (Bw := (zWM cI cJ cZ h2 0 (n, L) ((zcb kt pt), (zcb km pm), (zcb kl pl)) mc (true, wc, nu, lc, le, af, tr, ms, cl, tm) (co, yn, yh, pa))) hD
  refine zci (zrV (As := []) (rest := []) ⟨hx, hb, hml, hown, hts⟩ (zV 0 hP9 hD9 hK hE hB hS rfl rfl) (c_X5_thrown  ) (cwV 0 hts gL_law_X5_thrown rfl rfl rfl hdv_X5_thrown ⟨Nat.le_of_ble_eq_true rfl, Nat.le_of_ble_eq_true rfl⟩) rfl rfl hl.1 rfl (lv_room (Nat.le_of_ble_eq_true rfl)) dL_law_670 ⟨(show cc + 0 + 0 + 0 ≤ 601024 by omega), (show ss + 0 + 0 + 0 ≤ 7293034 by omega)⟩) hS (fun H locs hP hD hS => ?_)
  have hP : va_P D vwCl ((zWT cI cJ h (n, L) (kt, km, kl) (pt, pm, pl) (nu, le, ow, fo, true, wc, lc, tr, cl, tm, ms) (yl, yc, yt, co, pa, su, sc) mc) ++ ((oa, .inl (cJ, 1, .inr (.inl (vp_updL yo 0 (((le tr)).toInt64))))) :: (zWM cI cJ cZ h2 0 (n, L) ((zcb kt pt), (zcb km pm), (zcb kl pl)) mc (true, wc, nu, lc, le, af, tr, ms, cl, tm) (co, yn, yh, pa)))) H := zswapP (A := (zWM cI cJ cZ h2 0 (n, L) ((zcb kt pt), (zcb km pm), (zcb kl pl)) mc (true, wc, nu, lc, le, af, tr, ms, cl, tm) (co, yn, yh, pa))) (Bw := (zWT cI cJ h (n, L) (kt, km, kl) (pt, pm, pl) (nu, le, ow, fo, true, wc, lc, tr, cl, tm, ms) (yl, yc, yt, co, pa, su, sc) mc) ++ [(oa, .inl (cJ, 1, .inr (.inl (vp_updL yo 0 (((le tr)).toInt64)))))]) hP
  have hD : va_D (zAb s.heap.size) ((zWT cI cJ h (n, L) (kt, km, kl) (pt, pm, pl) (nu, le, ow, fo, true, wc, lc, tr, cl, tm, ms) (yl, yc, yt, co, pa, su, sc) mc) ++ ((oa, .inl (cJ, 1, .inr (.inl (vp_updL yo 0 (((le tr)).toInt64))))) :: (zWM cI cJ cZ h2 0 (n, L) ((zcb kt pt), (zcb km pm), (zcb kl pl)) mc (true, wc, nu, lc, le, af, tr, ms, cl, tm) (co, yn, yh, pa)))) := zswapD (A := (zWM cI cJ cZ h2 0 (n, L) ((zcb kt pt), (zcb km pm), (zcb kl pl)) mc (true, wc, nu, lc, le, af, tr, ms, cl, tm) (co, yn, yh, pa))) (Bw := (zWT cI cJ h (n, L) (kt, km, kl) (pt, pm, pl) (nu, le, ow, fo, true, wc, lc, tr, cl, tm, ms) (yl, yc, yt, co, pa, su, sc) mc) ++ [(oa, .inl (cJ, 1, .inr (.inl (vp_updL yo 0 (((le tr)).toInt64)))))]) hD
  refine lv_iload hx hb dL_law_673 (lv_at hl 1 rfl) ?_
  refine lv_icmp_eq (tgt := 680) hx hb dL_law_675 (by decide) (fun c_1 => ?_) (fun c_1 => ?_)
  · skip
    refine lv_iload hx hb dL_law_680 (lv_at hl 1 rfl) ?_
    refine lv_if_ne (tgt := 697) hx hb dL_law_682 (by decide) (fun c_2 => ?_) (fun c_2 => ?_)
    · skip
      exfalso; first | omega | (revert c_2; decide) | (exact absurd rfl c_2) | simp_all
    · skip
      refine lv_aload_n hx hb dL_law_685 rfl (lv_at hl 5 rfl) ?_
      refine lv_iconst (v := 0) hx hb dL_law_686 (by decide) ?_
      refine va_lald hx hb hK hP 21 1 rfl rfl (vp_in_nI (n := 0) (N := 1) (by omega) (by omega)) dL_law_687 ?_
      refine lv_topl (fun v_3 ev_3 => ?_)
      obtain rfl : (((le tr)).toInt64) = v_3 := (ev_3.trans (pk_uLs (f := yo) (k := 0) (x := (((le tr)).toInt64)))).symm
      refine lv_iload hx hb dL_law_688 (lv_at hl 0 rfl) ?_
      refine lv_i2l (v := ((le tr)).toInt64) hx hb dL_law_690 rfl ?_
      refine W.lcmp hx hb dL_law_691 ?_
      refine lv_if_eq (tgt := 697) hx hb dL_law_692 (by decide) (fun c_4 => ?_) (fun c_4 => ?_)
      · skip
        have c_4 : (((le tr)).toInt64) = (((le tr)).toInt64) := (lg_cmp_eq _ _).mp c_4
        refine lv_goto (tgt := 1191) hx hb dL_law_697 (by decide) ?_
        refine W.widen (k := cc + 2) (n := ss + 1542) (show cc + 0 + 0 + 0 ≤ cc + 2 by omega) (show ss + 0 + 0 + 0 ≤ ss + 1542 by omega) ?_
        exact kont h h2 oa (vp_updL yo 0 (((le tr)).toInt64)) 0 n L kt km kl pt pm pl nu le ow fo true wc lc tr cl tm ms yl yc yt co pa su sc mc af yn yh (hI.mono) _ _ _ hP hD hS (lv_sub hl [2, 3, 4, 5, 6] rfl)
      · skip
        have c_4 : ¬ (((le tr)).toInt64) = (((le tr)).toInt64) := fun hh => c_4 ((lg_cmp_eq _ _).mpr hh)
        exact absurd rfl c_4
  · skip
    exfalso; first | omega | (revert c_1; decide) | (exact absurd rfl c_1) | simp_all

set_option maxHeartbeats 1000000 in
set_option maxRecDepth 100000 in
theorem law_wanted_x {p : Program} {l : Launch} {e : Env} {s : State} {m : MethodId} {below : List Frame} {meth : Method} {c : Code} {b L9 : Nat} {xs : Nat → Int32} {D : va_G} {cI cJ cZ : ClassId} {kr kp j cc ss : Nat} {h h2 : Nat → Nat} {oa : Nat} {yo : Nat → Int64} {th : Int32} {n : Nat} {L : Nat → Int64} {kt : Nat → Int32} {km : Nat → Int32} {kl : Nat → Int32} {pt : Nat → Int32} {pm : Nat → Int32} {pl : Nat → Int32} {nu : Nat → Int32} {le : Nat → Int32} {ow : Nat → Int32} {fo : Nat → Int32} {run : Bool} {wc : Nat} {lc : Nat} {tr : Nat} {cl : Nat} {tm : Nat} {ms : Nat} {yl : Nat → Int32} {yc : Nat → Int32} {yt : Nat → Int32} {co : Nat} {pa : Int32} {su : Nat} {sc : Nat} {mc : Nat → Int32} {af : Nat → Int32} {yn : Nat} {yh : Nat → Int32}  (C : zLw p l s m meth c b L9 xs D cI cJ cZ kr kp) (hj : 4 * j + 4 ≤ L9) (hcc : cc + 2 ≤ 601024) (hss : ss + 1542 ≤ 7293034) (kont : zKt p l e s m below meth c b D cI cJ cZ j cc ss) (hI : zInv j n L pt le ow af false wc lc tr cl tm ms yl yc yt co yn su sc yh)  {H : Heap} {locs : List Loc} {ls : Array Slot} (hP : va_P D vwCl ((zWT cI cJ h (n, L) (kt, km, kl) (pt, pm, pl) (nu, le, ow, fo, false, wc, lc, tr, cl, tm, ms) (yl, yc, yt, co, pa, su, sc) mc) ++ ((oa, .inl (cJ, 1, .inr (.inl yo))) :: (zWM cI cJ cZ h2 th (n, L) ((zcb kt pt), (zcb km pm), (zcb kl pl)) mc (false, wc, nu, lc, le, af, tr, ms, cl, tm) (co, yn, yh, pa)))) H) (hD : va_D (zAb s.heap.size) ((zWT cI cJ h (n, L) (kt, km, kl) (pt, pm, pl) (nu, le, ow, fo, false, wc, lc, tr, cl, tm, ms) (yl, yc, yt, co, pa, su, sc) mc) ++ ((oa, .inl (cJ, 1, .inr (.inl yo))) :: (zWM cI cJ cZ h2 th (n, L) ((zcb kt pt), (zcb km pm), (zcb kl pl)) mc (false, wc, nu, lc, le, af, tr, ms, cl, tm) (co, yn, yh, pa))))) (hS : va_S (zAb s.heap.size) s.heap H locs) (hl : lv_has ls 9 [(0, .ref b), (1, .ref (h 0)), (2, .ref (h2 0)), (3, .ref oa), (4, .int (nI (4 * j)))]) : W p l e room_1 s m #[Value.ref b] below meth c H locs cc ss (lw_Z below #[Value.ref b] s) (F0 m 656 ls []) := by
  obtain ⟨C0, hls, hK, hE, hL9⟩ := C
  obtain ⟨hx, hb, hr, hml, hown, hts0, hX, hbl, hlocks, hgv⟩ := C0
  have hts : ∀ w ∈ wsL_law, w.before #[Value.ref b] s = true := fun w h => hts0 w (wsL_law_in w h)
  have hbA : ¬ zAb s.heap.size b := Nat.not_le.mpr hbl
  have hB : s.heap.size ≤ s.heap.size := Nat.le_refl _
  have hn40 := hI.1.1
  have hzk := hI.1.2
  obtain ⟨hwc6, hlc48, htrl, hclt, hms1⟩ := hI.2.1
  have hrt := hI.2.2.1
  have hle := hI.2.2.2.1
  have hMk := hI.2.2.2.2.1
  have hct := hI.2.2.2.2.2.1
  have hHi := hI.2.2.2.2.2.2.1
  have hsu := hI.2.2.2.2.2.2.2.2.1
  have hj5 : j ≤ 511 := by omega
  have hco : co < 256 := by have := hct.1; omega
  have hco6 : co ≤ 256 := Nat.le_of_lt hco
  have hsl : su < 2147483648 := by have := hsu.2.2; omega
  have hpt := hI.hpt (Nat.le_succ_of_le hj5)
  refine lv_aload_n hx hb dL_law_656 rfl (lv_at hl 1 rfl) ?_
  refine lv_aload_n hx hb dL_law_657 rfl (lv_at hl 3 rfl) ?_
  refine zci (vx_runSW (As := [.ref (h 0), .ref oa]) (rest := []) ⟨hx, hb, hml, hown, hts⟩ (c_L_wanted_x  hls (rfl)) (vx_cwSW 2 hts gL_law_L_wanted rfl rfl rfl hds_L_wanted ⟨Nat.le_of_ble_eq_true rfl, Nat.le_of_ble_eq_true rfl⟩) (zS hP hD hK hE hB hS) rfl rfl hl.1 rfl (lv_room (Nat.le_of_ble_eq_true rfl)) dL_law_658 ⟨(show cc + 1 ≤ 601024 by omega), (show ss + 6 ≤ 7293034 by omega)⟩) hS (fun H locs hP hD hS => ?_)
  have hP : va_P D vwCl ((zWT cI cJ h (n, L) (kt, km, kl) (pt, pm, pl) (nu, le, ow, fo, false, wc, lc, tr, cl, tm, ms) (yl, yc, yt, co, pa, su, sc) mc) ++ ((oa, .inl (cJ, 1, .inr (.inl yo))) :: (zWM cI cJ cZ h2 th (n, L) ((zcb kt pt), (zcb km pm), (zcb kl pl)) mc (false, wc, nu, lc, le, af, tr, ms, cl, tm) (co, yn, yh, pa)))) H := hP
  have hD : va_D (zAb s.heap.size) ((zWT cI cJ h (n, L) (kt, km, kl) (pt, pm, pl) (nu, le, ow, fo, false, wc, lc, tr, cl, tm, ms) (yl, yc, yt, co, pa, su, sc) mc) ++ ((oa, .inl (cJ, 1, .inr (.inl yo))) :: (zWM cI cJ cZ h2 th (n, L) ((zcb kt pt), (zcb km pm), (zcb kl pl)) mc (false, wc, nu, lc, le, af, tr, ms, cl, tm) (co, yn, yh, pa)))) := hD
  refine lv_istore (lv' := [(5, .int 1), (0, .ref b), (1, .ref (h 0)), (2, .ref (h2 0)), (3, .ref oa), (4, .int (nI (4 * j)))]) hx hb dL_law_661 hl (by decide) rfl (fun ls hl => ?_)
  refine lv_aload_n hx hb dL_law_663 rfl (lv_at hl 3 rfl) ?_
  have hP9 : va_P D vwCl ((zWM cI cJ cZ h2 th (n, L) ((zcb kt pt), (zcb km pm), (zcb kl pl)) mc (false, wc, nu, lc, le, af, tr, ms, cl, tm) (co, yn, yh, pa)) ++ ((zWT cI cJ h (n, L) (kt, km, kl) (pt, pm, pl) (nu, le, ow, fo, false, wc, lc, tr, cl, tm, ms) (yl, yc, yt, co, pa, su, sc) mc) ++ [(oa, .inl (cJ, 1, .inr (.inl yo)))])) H := zswapP (A := (zWT cI cJ h (n, L) (kt, km, kl) (pt, pm, pl) (nu, le, ow, fo, false, wc, lc, tr, cl, tm, ms) (yl, yc, yt, co, pa, su, sc) mc) ++ [(oa, .inl (cJ, 1, .inr (.inl yo)))]) (Bw := (zWM cI cJ cZ h2 th (n, L) ((zcb kt pt), (zcb km pm), (zcb kl pl)) mc (false, wc, nu, lc, le, af, tr, ms, cl, tm) (co, yn, yh, pa))) hP
  have hD9 : va_D (zAb s.heap.size) ((zWM cI cJ cZ h2 th (n, L) ((zcb kt pt), (zcb km pm), (zcb kl pl)) mc (false, wc, nu, lc, le, af, tr, ms, cl, tm) (co, yn, yh, pa)) ++ ((zWT cI cJ h (n, L) (kt, km, kl) (pt, pm, pl) (nu, le, ow, fo, false, wc, lc, tr, cl, tm, ms) (yl, yc, yt, co, pa, su, sc) mc) ++ [(oa, .inl (cJ, 1, .inr (.inl yo)))])) := zswapD (A := (zWT cI cJ h (n, L) (kt, km, kl) (pt, pm, pl) (nu, le, ow, fo, false, wc, lc, tr, cl, tm, ms) (yl, yc, yt, co, pa, su, sc) mc) ++ [(oa, .inl (cJ, 1, .inr (.inl yo)))]) (Bw := (zWM cI cJ cZ h2 th (n, L) ((zcb kt pt), (zcb km pm), (zcb kl pl)) mc (false, wc, nu, lc, le, af, tr, ms, cl, tm) (co, yn, yh, pa))) hD
  refine zci (zrV (As := []) (rest := []) ⟨hx, hb, hml, hown, hts⟩ (zV 0 hP9 hD9 hK hE hB hS rfl rfl) (c_X5_wanted_x  (rfl)) (cwV 0 hts gL_law_X5_wanted rfl rfl rfl hdv_X5_wanted ⟨Nat.le_of_ble_eq_true rfl, Nat.le_of_ble_eq_true rfl⟩) rfl rfl hl.1 rfl (lv_room (Nat.le_of_ble_eq_true rfl)) dL_law_664 ⟨(show cc + 1 + 0 ≤ 601024 by omega), (show ss + 6 + 0 ≤ 7293034 by omega)⟩) hS (fun H locs hP hD hS => ?_)
  have hP : va_P D vwCl ((zWT cI cJ h (n, L) (kt, km, kl) (pt, pm, pl) (nu, le, ow, fo, false, wc, lc, tr, cl, tm, ms) (yl, yc, yt, co, pa, su, sc) mc) ++ ((oa, .inl (cJ, 1, .inr (.inl yo))) :: (zWM cI cJ cZ h2 1 (n, L) ((zcb kt pt), (zcb km pm), (zcb kl pl)) mc (false, wc, nu, lc, le, af, tr, ms, cl, tm) (co, yn, yh, pa)))) H := zswapP (A := (zWM cI cJ cZ h2 1 (n, L) ((zcb kt pt), (zcb km pm), (zcb kl pl)) mc (false, wc, nu, lc, le, af, tr, ms, cl, tm) (co, yn, yh, pa))) (Bw := (zWT cI cJ h (n, L) (kt, km, kl) (pt, pm, pl) (nu, le, ow, fo, false, wc, lc, tr, cl, tm, ms) (yl, yc, yt, co, pa, su, sc) mc) ++ [(oa, .inl (cJ, 1, .inr (.inl yo)))]) hP
  have hD : va_D (zAb s.heap.size) ((zWT cI cJ h (n, L) (kt, km, kl) (pt, pm, pl) (nu, le, ow, fo, false, wc, lc, tr, cl, tm, ms) (yl, yc, yt, co, pa, su, sc) mc) ++ ((oa, .inl (cJ, 1, .inr (.inl yo))) :: (zWM cI cJ cZ h2 1 (n, L) ((zcb kt pt), (zcb km pm), (zcb kl pl)) mc (false, wc, nu, lc, le, af, tr, ms, cl, tm) (co, yn, yh, pa)))) := zswapD (A := (zWM cI cJ cZ h2 1 (n, L) ((zcb kt pt), (zcb km pm), (zcb kl pl)) mc (false, wc, nu, lc, le, af, tr, ms, cl, tm) (co, yn, yh, pa))) (Bw := (zWT cI cJ h (n, L) (kt, km, kl) (pt, pm, pl) (nu, le, ow, fo, false, wc, lc, tr, cl, tm, ms) (yl, yc, yt, co, pa, su, sc) mc) ++ [(oa, .inl (cJ, 1, .inr (.inl yo)))]) hD
  refine lv_istore (lv' := [(6, .int 0), (5, .int 1), (0, .ref b), (1, .ref (h 0)), (2, .ref (h2 0)), (3, .ref oa), (4, .int (nI (4 * j)))]) hx hb dL_law_667 hl (by decide) rfl (fun ls hl => ?_)
  refine lv_aload_n hx hb dL_law_669 rfl (lv_at hl 4 rfl) ?_
  have hP9 : va_P D vwCl ((zWM cI cJ cZ h2 1 (n, L) ((zcb kt pt), (zcb km pm), (zcb kl pl)) mc (false, wc, nu, lc, le, af, tr, ms, cl, tm) (co, yn, yh, pa)) ++ ((zWT cI cJ h (n, L) (kt, km, kl) (pt, pm, pl) (nu, le, ow, fo, false, wc, lc, tr, cl, tm, ms) (yl, yc, yt, co, pa, su, sc) mc) ++ [(oa, .inl (cJ, 1, .inr (.inl yo)))])) H := zswapP (A := (zWT cI cJ h (n, L) (kt, km, kl) (pt, pm, pl) (nu, le, ow, fo, false, wc, lc, tr, cl, tm, ms) (yl, yc, yt, co, pa, su, sc) mc) ++ [(oa, .inl (cJ, 1, .inr (.inl yo)))]) (Bw := (zWM cI cJ cZ h2 1 (n, L) ((zcb kt pt), (zcb km pm), (zcb kl pl)) mc (false, wc, nu, lc, le, af, tr, ms, cl, tm) (co, yn, yh, pa))) hP
  have hD9 : va_D (zAb s.heap.size) ((zWM cI cJ cZ h2 1 (n, L) ((zcb kt pt), (zcb km pm), (zcb kl pl)) mc (false, wc, nu, lc, le, af, tr, ms, cl, tm) (co, yn, yh, pa)) ++ ((zWT cI cJ h (n, L) (kt, km, kl) (pt, pm, pl) (nu, le, ow, fo, false, wc, lc, tr, cl, tm, ms) (yl, yc, yt, co, pa, su, sc) mc) ++ [(oa, .inl (cJ, 1, .inr (.inl yo)))])) := zswapD (A := (zWT cI cJ h (n, L) (kt, km, kl) (pt, pm, pl) (nu, le, ow, fo, false, wc, lc, tr, cl, tm, ms) (yl, yc, yt, co, pa, su, sc) mc) ++ [(oa, .inl (cJ, 1, .inr (.inl yo)))]) (Bw := (zWM cI cJ cZ h2 1 (n, L) ((zcb kt pt), (zcb km pm), (zcb kl pl)) mc (false, wc, nu, lc, le, af, tr, ms, cl, tm) (co, yn, yh, pa))) hD
  refine zci (zrV (As := []) (rest := []) ⟨hx, hb, hml, hown, hts⟩ (zV 0 hP9 hD9 hK hE hB hS rfl rfl) (c_X5_thrown  ) (cwV 0 hts gL_law_X5_thrown rfl rfl rfl hdv_X5_thrown ⟨Nat.le_of_ble_eq_true rfl, Nat.le_of_ble_eq_true rfl⟩) rfl rfl hl.1 rfl (lv_room (Nat.le_of_ble_eq_true rfl)) dL_law_670 ⟨(show cc + 1 + 0 + 0 ≤ 601024 by omega), (show ss + 6 + 0 + 0 ≤ 7293034 by omega)⟩) hS (fun H locs hP hD hS => ?_)
  have hP : va_P D vwCl ((zWT cI cJ h (n, L) (kt, km, kl) (pt, pm, pl) (nu, le, ow, fo, false, wc, lc, tr, cl, tm, ms) (yl, yc, yt, co, pa, su, sc) mc) ++ ((oa, .inl (cJ, 1, .inr (.inl yo))) :: (zWM cI cJ cZ h2 1 (n, L) ((zcb kt pt), (zcb km pm), (zcb kl pl)) mc (false, wc, nu, lc, le, af, tr, ms, cl, tm) (co, yn, yh, pa)))) H := zswapP (A := (zWM cI cJ cZ h2 1 (n, L) ((zcb kt pt), (zcb km pm), (zcb kl pl)) mc (false, wc, nu, lc, le, af, tr, ms, cl, tm) (co, yn, yh, pa))) (Bw := (zWT cI cJ h (n, L) (kt, km, kl) (pt, pm, pl) (nu, le, ow, fo, false, wc, lc, tr, cl, tm, ms) (yl, yc, yt, co, pa, su, sc) mc) ++ [(oa, .inl (cJ, 1, .inr (.inl yo)))]) hP
  have hD : va_D (zAb s.heap.size) ((zWT cI cJ h (n, L) (kt, km, kl) (pt, pm, pl) (nu, le, ow, fo, false, wc, lc, tr, cl, tm, ms) (yl, yc, yt, co, pa, su, sc) mc) ++ ((oa, .inl (cJ, 1, .inr (.inl yo))) :: (zWM cI cJ cZ h2 1 (n, L) ((zcb kt pt), (zcb km pm), (zcb kl pl)) mc (false, wc, nu, lc, le, af, tr, ms, cl, tm) (co, yn, yh, pa)))) := zswapD (A := (zWM cI cJ cZ h2 1 (n, L) ((zcb kt pt), (zcb km pm), (zcb kl pl)) mc (false, wc, nu, lc, le, af, tr, ms, cl, tm) (co, yn, yh, pa))) (Bw := (zWT cI cJ h (n, L) (kt, km, kl) (pt, pm, pl) (nu, le, ow, fo, false, wc, lc, tr, cl, tm, ms) (yl, yc, yt, co, pa, su, sc) mc) ++ [(oa, .inl (cJ, 1, .inr (.inl yo)))]) hD
  refine lv_iload hx hb dL_law_673 (lv_at hl 1 rfl) ?_
  refine lv_icmp_eq (tgt := 680) hx hb dL_law_675 (by decide) (fun c_1 => ?_) (fun c_1 => ?_)
  · skip
    refine lv_iload hx hb dL_law_680 (lv_at hl 1 rfl) ?_
    refine lv_if_ne (tgt := 697) hx hb dL_law_682 (by decide) (fun c_2 => ?_) (fun c_2 => ?_)
    · skip
      refine lv_goto (tgt := 1191) hx hb dL_law_697 (by decide) ?_
      refine W.widen (k := cc + 2) (n := ss + 1542) (show cc + 1 + 0 + 0 ≤ cc + 2 by omega) (show ss + 6 + 0 + 0 ≤ ss + 1542 by omega) ?_
      exact kont h h2 oa yo 1 n L kt km kl pt pm pl nu le ow fo false wc lc tr cl tm ms yl yc yt co pa su sc mc af yn yh (hI.mono) _ _ _ hP hD hS (lv_sub hl [2, 3, 4, 5, 6] rfl)
    · skip
      exfalso; first | omega | (revert c_2; decide) | (exact absurd rfl c_2) | simp_all
  · skip
    exfalso; first | omega | (revert c_1; decide) | (exact absurd rfl c_1) | simp_all

set_option maxHeartbeats 1000000 in
set_option maxRecDepth 100000 in
theorem law_done {p : Program} {l : Launch} {e : Env} {s : State} {m : MethodId} {below : List Frame} {meth : Method} {c : Code} {b L9 : Nat} {xs : Nat → Int32} {D : va_G} {cI cJ cZ : ClassId} {kr kp j cc ss : Nat} {h h2 : Nat → Nat} {oa : Nat} {yo : Nat → Int64} {th : Int32} {n : Nat} {L : Nat → Int64} {kt : Nat → Int32} {km : Nat → Int32} {kl : Nat → Int32} {pt : Nat → Int32} {pm : Nat → Int32} {pl : Nat → Int32} {nu : Nat → Int32} {le : Nat → Int32} {ow : Nat → Int32} {fo : Nat → Int32} {run : Bool} {wc : Nat} {lc : Nat} {tr : Nat} {cl : Nat} {tm : Nat} {ms : Nat} {yl : Nat → Int32} {yc : Nat → Int32} {yt : Nat → Int32} {co : Nat} {pa : Int32} {su : Nat} {sc : Nat} {mc : Nat → Int32} {af : Nat → Int32} {yn : Nat} {yh : Nat → Int32}  (C : zLw p l s m meth c b L9 xs D cI cJ cZ kr kp) (hj : 4 * j + 4 ≤ L9) (hcc : cc + 2 ≤ 601024) (hss : ss + 1542 ≤ 7293034) (kont : zKt p l e s m below meth c b D cI cJ cZ j cc ss) (hI : zInv j n L pt le ow af true wc lc tr cl tm ms yl yc yt co yn su sc yh)  {H : Heap} {locs : List Loc} {ls : Array Slot} (hP : va_P D vwCl ((zWT cI cJ h (n, L) (kt, km, kl) (pt, pm, pl) (nu, le, ow, fo, true, wc, lc, tr, cl, tm, ms) (yl, yc, yt, co, pa, su, sc) mc) ++ ((oa, .inl (cJ, 1, .inr (.inl yo))) :: (zWM cI cJ cZ h2 th (n, L) ((zcb kt pt), (zcb km pm), (zcb kl pl)) mc (true, wc, nu, lc, le, af, tr, ms, cl, tm) (co, yn, yh, pa)))) H) (hD : va_D (zAb s.heap.size) ((zWT cI cJ h (n, L) (kt, km, kl) (pt, pm, pl) (nu, le, ow, fo, true, wc, lc, tr, cl, tm, ms) (yl, yc, yt, co, pa, su, sc) mc) ++ ((oa, .inl (cJ, 1, .inr (.inl yo))) :: (zWM cI cJ cZ h2 th (n, L) ((zcb kt pt), (zcb km pm), (zcb kl pl)) mc (true, wc, nu, lc, le, af, tr, ms, cl, tm) (co, yn, yh, pa))))) (hS : va_S (zAb s.heap.size) s.heap H locs) (hl : lv_has ls 9 [(0, .ref b), (1, .ref (h 0)), (2, .ref (h2 0)), (3, .ref oa), (4, .int (nI (4 * j)))]) : W p l e room_1 s m #[Value.ref b] below meth c H locs cc ss (lw_Z below #[Value.ref b] s) (F0 m 700 ls []) := by
  obtain ⟨C0, hls, hK, hE, hL9⟩ := C
  obtain ⟨hx, hb, hr, hml, hown, hts0, hX, hbl, hlocks, hgv⟩ := C0
  have hts : ∀ w ∈ wsL_law, w.before #[Value.ref b] s = true := fun w h => hts0 w (wsL_law_in w h)
  have hbA : ¬ zAb s.heap.size b := Nat.not_le.mpr hbl
  have hB : s.heap.size ≤ s.heap.size := Nat.le_refl _
  have hn40 := hI.1.1
  have hzk := hI.1.2
  obtain ⟨hwc6, hlc48, htrl, hclt, hms1⟩ := hI.2.1
  have hrt := hI.2.2.1
  have hle := hI.2.2.2.1
  have hMk := hI.2.2.2.2.1
  have hct := hI.2.2.2.2.2.1
  have hHi := hI.2.2.2.2.2.2.1
  have hsu := hI.2.2.2.2.2.2.2.2.1
  have hj5 : j ≤ 511 := by omega
  have hco : co < 256 := by have := hct.1; omega
  have hco6 : co ≤ 256 := Nat.le_of_lt hco
  have hsl : su < 2147483648 := by have := hsu.2.2; omega
  have hpt := hI.hpt (Nat.le_succ_of_le hj5)
  refine lv_aload_n hx hb dL_law_700 rfl (lv_at hl 1 rfl) ?_
  refine lv_aload_n hx hb dL_law_701 rfl (lv_at hl 3 rfl) ?_
  refine zci (vx_runSW (As := [.ref (h 0), .ref oa]) (rest := []) ⟨hx, hb, hml, hown, hts⟩ (c_L_done  (rfl)) (vx_cwSW 2 hts gL_law_L_done rfl rfl rfl hds_L_done ⟨Nat.le_of_ble_eq_true rfl, Nat.le_of_ble_eq_true rfl⟩) (zS hP hD hK hE hB hS) rfl rfl hl.1 rfl (lv_room (Nat.le_of_ble_eq_true rfl)) dL_law_702 ⟨(show cc + 0 ≤ 601024 by omega), (show ss + 0 ≤ 7293034 by omega)⟩) hS (fun H locs hP hD hS => ?_)
  have hP : va_P D vwCl ((zWT cI cJ h (n, L) (kt, km, kl) (pt, pm, pl) (nu, le, ow, fo, true, wc, lc, tr, cl, tm, ms) (yl, yc, yt, co, pa, su, sc) mc) ++ ((oa, .inl (cJ, 1, .inr (.inl (vp_updL yo 0 (((nI tr)).toInt64))))) :: (zWM cI cJ cZ h2 th (n, L) ((zcb kt pt), (zcb km pm), (zcb kl pl)) mc (true, wc, nu, lc, le, af, tr, ms, cl, tm) (co, yn, yh, pa)))) H := hP
  have hD : va_D (zAb s.heap.size) ((zWT cI cJ h (n, L) (kt, km, kl) (pt, pm, pl) (nu, le, ow, fo, true, wc, lc, tr, cl, tm, ms) (yl, yc, yt, co, pa, su, sc) mc) ++ ((oa, .inl (cJ, 1, .inr (.inl (vp_updL yo 0 (((nI tr)).toInt64))))) :: (zWM cI cJ cZ h2 th (n, L) ((zcb kt pt), (zcb km pm), (zcb kl pl)) mc (true, wc, nu, lc, le, af, tr, ms, cl, tm) (co, yn, yh, pa)))) := hD
  refine lv_istore (lv' := [(5, .int 0), (0, .ref b), (1, .ref (h 0)), (2, .ref (h2 0)), (3, .ref oa), (4, .int (nI (4 * j)))]) hx hb dL_law_705 hl (by decide) rfl (fun ls hl => ?_)
  refine lv_aload_n hx hb dL_law_707 rfl (lv_at hl 3 rfl) ?_
  have hP9 : va_P D vwCl ((zWM cI cJ cZ h2 th (n, L) ((zcb kt pt), (zcb km pm), (zcb kl pl)) mc (true, wc, nu, lc, le, af, tr, ms, cl, tm) (co, yn, yh, pa)) ++ ((zWT cI cJ h (n, L) (kt, km, kl) (pt, pm, pl) (nu, le, ow, fo, true, wc, lc, tr, cl, tm, ms) (yl, yc, yt, co, pa, su, sc) mc) ++ [(oa, .inl (cJ, 1, .inr (.inl (vp_updL yo 0 (((nI tr)).toInt64)))))])) H := zswapP (A := (zWT cI cJ h (n, L) (kt, km, kl) (pt, pm, pl) (nu, le, ow, fo, true, wc, lc, tr, cl, tm, ms) (yl, yc, yt, co, pa, su, sc) mc) ++ [(oa, .inl (cJ, 1, .inr (.inl (vp_updL yo 0 (((nI tr)).toInt64)))))]) (Bw := (zWM cI cJ cZ h2 th (n, L) ((zcb kt pt), (zcb km pm), (zcb kl pl)) mc (true, wc, nu, lc, le, af, tr, ms, cl, tm) (co, yn, yh, pa))) hP
  have hD9 : va_D (zAb s.heap.size) ((zWM cI cJ cZ h2 th (n, L) ((zcb kt pt), (zcb km pm), (zcb kl pl)) mc (true, wc, nu, lc, le, af, tr, ms, cl, tm) (co, yn, yh, pa)) ++ ((zWT cI cJ h (n, L) (kt, km, kl) (pt, pm, pl) (nu, le, ow, fo, true, wc, lc, tr, cl, tm, ms) (yl, yc, yt, co, pa, su, sc) mc) ++ [(oa, .inl (cJ, 1, .inr (.inl (vp_updL yo 0 (((nI tr)).toInt64)))))])) := zswapD (A := (zWT cI cJ h (n, L) (kt, km, kl) (pt, pm, pl) (nu, le, ow, fo, true, wc, lc, tr, cl, tm, ms) (yl, yc, yt, co, pa, su, sc) mc) ++ [(oa, .inl (cJ, 1, .inr (.inl (vp_updL yo 0 (((nI tr)).toInt64)))))]) (Bw := (zWM cI cJ cZ h2 th (n, L) ((zcb kt pt), (zcb km pm), (zcb kl pl)) mc (true, wc, nu, lc, le, af, tr, ms, cl, tm) (co, yn, yh, pa))) hD
  refine zci (zrV (As := []) (rest := []) ⟨hx, hb, hml, hown, hts⟩ (zV 0 hP9 hD9 hK hE hB hS rfl rfl) (c_X5_done  (rfl)) (cwV 0 hts gL_law_X5_done rfl rfl rfl hdv_X5_done ⟨Nat.le_of_ble_eq_true rfl, Nat.le_of_ble_eq_true rfl⟩) rfl rfl hl.1 rfl (lv_room (Nat.le_of_ble_eq_true rfl)) dL_law_708 ⟨(show cc + 0 + 0 ≤ 601024 by omega), (show ss + 0 + 0 ≤ 7293034 by omega)⟩) hS (fun H locs hP hD hS => ?_)
  have hP : va_P D vwCl ((zWT cI cJ h (n, L) (kt, km, kl) (pt, pm, pl) (nu, le, ow, fo, true, wc, lc, tr, cl, tm, ms) (yl, yc, yt, co, pa, su, sc) mc) ++ ((oa, .inl (cJ, 1, .inr (.inl (vp_updL yo 0 (((nI tr)).toInt64))))) :: (zWM cI cJ cZ h2 0 (n, L) ((zcb kt pt), (zcb km pm), (zcb kl pl)) mc (true, wc, nu, lc, le, af, tr, ms, cl, tm) (co, yn, yh, pa)))) H := zswapP (A := (zWM cI cJ cZ h2 0 (n, L) ((zcb kt pt), (zcb km pm), (zcb kl pl)) mc (true, wc, nu, lc, le, af, tr, ms, cl, tm) (co, yn, yh, pa))) (Bw := (zWT cI cJ h (n, L) (kt, km, kl) (pt, pm, pl) (nu, le, ow, fo, true, wc, lc, tr, cl, tm, ms) (yl, yc, yt, co, pa, su, sc) mc) ++ [(oa, .inl (cJ, 1, .inr (.inl (vp_updL yo 0 (((nI tr)).toInt64)))))]) hP
  have hD : va_D (zAb s.heap.size) ((zWT cI cJ h (n, L) (kt, km, kl) (pt, pm, pl) (nu, le, ow, fo, true, wc, lc, tr, cl, tm, ms) (yl, yc, yt, co, pa, su, sc) mc) ++ ((oa, .inl (cJ, 1, .inr (.inl (vp_updL yo 0 (((nI tr)).toInt64))))) :: (zWM cI cJ cZ h2 0 (n, L) ((zcb kt pt), (zcb km pm), (zcb kl pl)) mc (true, wc, nu, lc, le, af, tr, ms, cl, tm) (co, yn, yh, pa)))) := zswapD (A := (zWM cI cJ cZ h2 0 (n, L) ((zcb kt pt), (zcb km pm), (zcb kl pl)) mc (true, wc, nu, lc, le, af, tr, ms, cl, tm) (co, yn, yh, pa))) (Bw := (zWT cI cJ h (n, L) (kt, km, kl) (pt, pm, pl) (nu, le, ow, fo, true, wc, lc, tr, cl, tm, ms) (yl, yc, yt, co, pa, su, sc) mc) ++ [(oa, .inl (cJ, 1, .inr (.inl (vp_updL yo 0 (((nI tr)).toInt64)))))]) hD
  refine lv_istore (lv' := [(6, .int (nI tr)), (5, .int 0), (0, .ref b), (1, .ref (h 0)), (2, .ref (h2 0)), (3, .ref oa), (4, .int (nI (4 * j)))]) hx hb dL_law_711 hl (by decide) rfl (fun ls hl => ?_)
  refine lv_aload_n hx hb dL_law_713 rfl (lv_at hl 4 rfl) ?_
  have hP9 : va_P D vwCl ((zWM cI cJ cZ h2 0 (n, L) ((zcb kt pt), (zcb km pm), (zcb kl pl)) mc (true, wc, nu, lc, le, af, tr, ms, cl, tm) (co, yn, yh, pa)) ++ ((zWT cI cJ h (n, L) (kt, km, kl) (pt, pm, pl) (nu, le, ow, fo, true, wc, lc, tr, cl, tm, ms) (yl, yc, yt, co, pa, su, sc) mc) ++ [(oa, .inl (cJ, 1, .inr (.inl (vp_updL yo 0 (((nI tr)).toInt64)))))])) H := zswapP (A := (zWT cI cJ h (n, L) (kt, km, kl) (pt, pm, pl) (nu, le, ow, fo, true, wc, lc, tr, cl, tm, ms) (yl, yc, yt, co, pa, su, sc) mc) ++ [(oa, .inl (cJ, 1, .inr (.inl (vp_updL yo 0 (((nI tr)).toInt64)))))]) (Bw := (zWM cI cJ cZ h2 0 (n, L) ((zcb kt pt), (zcb km pm), (zcb kl pl)) mc (true, wc, nu, lc, le, af, tr, ms, cl, tm) (co, yn, yh, pa))) hP
  have hD9 : va_D (zAb s.heap.size) ((zWM cI cJ cZ h2 0 (n, L) ((zcb kt pt), (zcb km pm), (zcb kl pl)) mc (true, wc, nu, lc, le, af, tr, ms, cl, tm) (co, yn, yh, pa)) ++ ((zWT cI cJ h (n, L) (kt, km, kl) (pt, pm, pl) (nu, le, ow, fo, true, wc, lc, tr, cl, tm, ms) (yl, yc, yt, co, pa, su, sc) mc) ++ [(oa, .inl (cJ, 1, .inr (.inl (vp_updL yo 0 (((nI tr)).toInt64)))))])) := zswapD (A := (zWT cI cJ h (n, L) (kt, km, kl) (pt, pm, pl) (nu, le, ow, fo, true, wc, lc, tr, cl, tm, ms) (yl, yc, yt, co, pa, su, sc) mc) ++ [(oa, .inl (cJ, 1, .inr (.inl (vp_updL yo 0 (((nI tr)).toInt64)))))]) (Bw := (zWM cI cJ cZ h2 0 (n, L) ((zcb kt pt), (zcb km pm), (zcb kl pl)) mc (true, wc, nu, lc, le, af, tr, ms, cl, tm) (co, yn, yh, pa))) hD
  refine zci (zrV (As := []) (rest := []) ⟨hx, hb, hml, hown, hts⟩ (zV 0 hP9 hD9 hK hE hB hS rfl rfl) (c_X5_thrown  ) (cwV 0 hts gL_law_X5_thrown rfl rfl rfl hdv_X5_thrown ⟨Nat.le_of_ble_eq_true rfl, Nat.le_of_ble_eq_true rfl⟩) rfl rfl hl.1 rfl (lv_room (Nat.le_of_ble_eq_true rfl)) dL_law_714 ⟨(show cc + 0 + 0 + 0 ≤ 601024 by omega), (show ss + 0 + 0 + 0 ≤ 7293034 by omega)⟩) hS (fun H locs hP hD hS => ?_)
  have hP : va_P D vwCl ((zWT cI cJ h (n, L) (kt, km, kl) (pt, pm, pl) (nu, le, ow, fo, true, wc, lc, tr, cl, tm, ms) (yl, yc, yt, co, pa, su, sc) mc) ++ ((oa, .inl (cJ, 1, .inr (.inl (vp_updL yo 0 (((nI tr)).toInt64))))) :: (zWM cI cJ cZ h2 0 (n, L) ((zcb kt pt), (zcb km pm), (zcb kl pl)) mc (true, wc, nu, lc, le, af, tr, ms, cl, tm) (co, yn, yh, pa)))) H := zswapP (A := (zWM cI cJ cZ h2 0 (n, L) ((zcb kt pt), (zcb km pm), (zcb kl pl)) mc (true, wc, nu, lc, le, af, tr, ms, cl, tm) (co, yn, yh, pa))) (Bw := (zWT cI cJ h (n, L) (kt, km, kl) (pt, pm, pl) (nu, le, ow, fo, true, wc, lc, tr, cl, tm, ms) (yl, yc, yt, co, pa, su, sc) mc) ++ [(oa, .inl (cJ, 1, .inr (.inl (vp_updL yo 0 (((nI tr)).toInt64)))))]) hP
  have hD : va_D (zAb s.heap.size) ((zWT cI cJ h (n, L) (kt, km, kl) (pt, pm, pl) (nu, le, ow, fo, true, wc, lc, tr, cl, tm, ms) (yl, yc, yt, co, pa, su, sc) mc) ++ ((oa, .inl (cJ, 1, .inr (.inl (vp_updL yo 0 (((nI tr)).toInt64))))) :: (zWM cI cJ cZ h2 0 (n, L) ((zcb kt pt), (zcb km pm), (zcb kl pl)) mc (true, wc, nu, lc, le, af, tr, ms, cl, tm) (co, yn, yh, pa)))) := zswapD (A := (zWM cI cJ cZ h2 0 (n, L) ((zcb kt pt), (zcb km pm), (zcb kl pl)) mc (true, wc, nu, lc, le, af, tr, ms, cl, tm) (co, yn, yh, pa))) (Bw := (zWT cI cJ h (n, L) (kt, km, kl) (pt, pm, pl) (nu, le, ow, fo, true, wc, lc, tr, cl, tm, ms) (yl, yc, yt, co, pa, su, sc) mc) ++ [(oa, .inl (cJ, 1, .inr (.inl (vp_updL yo 0 (((nI tr)).toInt64)))))]) hD
  refine lv_iload hx hb dL_law_717 (lv_at hl 1 rfl) ?_
  refine lv_icmp_eq (tgt := 724) hx hb dL_law_719 (by decide) (fun c_1 => ?_) (fun c_1 => ?_)
  · skip
    refine lv_iload hx hb dL_law_724 (lv_at hl 1 rfl) ?_
    refine lv_if_ne (tgt := 741) hx hb dL_law_726 (by decide) (fun c_2 => ?_) (fun c_2 => ?_)
    · skip
      exfalso; first | omega | (revert c_2; decide) | (exact absurd rfl c_2) | simp_all
    · skip
      refine lv_aload_n hx hb dL_law_729 rfl (lv_at hl 5 rfl) ?_
      refine lv_iconst (v := 0) hx hb dL_law_730 (by decide) ?_
      refine va_lald hx hb hK hP 21 1 rfl rfl (vp_in_nI (n := 0) (N := 1) (by omega) (by omega)) dL_law_731 ?_
      refine lv_topl (fun v_3 ev_3 => ?_)
      obtain rfl : (((nI tr)).toInt64) = v_3 := (ev_3.trans (pk_uLs (f := yo) (k := 0) (x := (((nI tr)).toInt64)))).symm
      refine lv_iload hx hb dL_law_732 (lv_at hl 0 rfl) ?_
      refine lv_i2l (v := ((nI tr)).toInt64) hx hb dL_law_734 rfl ?_
      refine W.lcmp hx hb dL_law_735 ?_
      refine lv_if_eq (tgt := 741) hx hb dL_law_736 (by decide) (fun c_4 => ?_) (fun c_4 => ?_)
      · skip
        have c_4 : (((nI tr)).toInt64) = (((nI tr)).toInt64) := (lg_cmp_eq _ _).mp c_4
        refine lv_goto (tgt := 1191) hx hb dL_law_741 (by decide) ?_
        refine W.widen (k := cc + 2) (n := ss + 1542) (show cc + 0 + 0 + 0 ≤ cc + 2 by omega) (show ss + 0 + 0 + 0 ≤ ss + 1542 by omega) ?_
        exact kont h h2 oa (vp_updL yo 0 (((nI tr)).toInt64)) 0 n L kt km kl pt pm pl nu le ow fo true wc lc tr cl tm ms yl yc yt co pa su sc mc af yn yh (hI.mono) _ _ _ hP hD hS (lv_sub hl [2, 3, 4, 5, 6] rfl)
      · skip
        have c_4 : ¬ (((nI tr)).toInt64) = (((nI tr)).toInt64) := fun hh => c_4 ((lg_cmp_eq _ _).mpr hh)
        exact absurd rfl c_4
  · skip
    exfalso; first | omega | (revert c_1; decide) | (exact absurd rfl c_1) | simp_all

set_option maxHeartbeats 1000000 in
set_option maxRecDepth 100000 in
theorem law_done_x {p : Program} {l : Launch} {e : Env} {s : State} {m : MethodId} {below : List Frame} {meth : Method} {c : Code} {b L9 : Nat} {xs : Nat → Int32} {D : va_G} {cI cJ cZ : ClassId} {kr kp j cc ss : Nat} {h h2 : Nat → Nat} {oa : Nat} {yo : Nat → Int64} {th : Int32} {n : Nat} {L : Nat → Int64} {kt : Nat → Int32} {km : Nat → Int32} {kl : Nat → Int32} {pt : Nat → Int32} {pm : Nat → Int32} {pl : Nat → Int32} {nu : Nat → Int32} {le : Nat → Int32} {ow : Nat → Int32} {fo : Nat → Int32} {run : Bool} {wc : Nat} {lc : Nat} {tr : Nat} {cl : Nat} {tm : Nat} {ms : Nat} {yl : Nat → Int32} {yc : Nat → Int32} {yt : Nat → Int32} {co : Nat} {pa : Int32} {su : Nat} {sc : Nat} {mc : Nat → Int32} {af : Nat → Int32} {yn : Nat} {yh : Nat → Int32}  (C : zLw p l s m meth c b L9 xs D cI cJ cZ kr kp) (hj : 4 * j + 4 ≤ L9) (hcc : cc + 2 ≤ 601024) (hss : ss + 1542 ≤ 7293034) (kont : zKt p l e s m below meth c b D cI cJ cZ j cc ss) (hI : zInv j n L pt le ow af false wc lc tr cl tm ms yl yc yt co yn su sc yh)  {H : Heap} {locs : List Loc} {ls : Array Slot} (hP : va_P D vwCl ((zWT cI cJ h (n, L) (kt, km, kl) (pt, pm, pl) (nu, le, ow, fo, false, wc, lc, tr, cl, tm, ms) (yl, yc, yt, co, pa, su, sc) mc) ++ ((oa, .inl (cJ, 1, .inr (.inl yo))) :: (zWM cI cJ cZ h2 th (n, L) ((zcb kt pt), (zcb km pm), (zcb kl pl)) mc (false, wc, nu, lc, le, af, tr, ms, cl, tm) (co, yn, yh, pa)))) H) (hD : va_D (zAb s.heap.size) ((zWT cI cJ h (n, L) (kt, km, kl) (pt, pm, pl) (nu, le, ow, fo, false, wc, lc, tr, cl, tm, ms) (yl, yc, yt, co, pa, su, sc) mc) ++ ((oa, .inl (cJ, 1, .inr (.inl yo))) :: (zWM cI cJ cZ h2 th (n, L) ((zcb kt pt), (zcb km pm), (zcb kl pl)) mc (false, wc, nu, lc, le, af, tr, ms, cl, tm) (co, yn, yh, pa))))) (hS : va_S (zAb s.heap.size) s.heap H locs) (hl : lv_has ls 9 [(0, .ref b), (1, .ref (h 0)), (2, .ref (h2 0)), (3, .ref oa), (4, .int (nI (4 * j)))]) : W p l e room_1 s m #[Value.ref b] below meth c H locs cc ss (lw_Z below #[Value.ref b] s) (F0 m 700 ls []) := by
  obtain ⟨C0, hls, hK, hE, hL9⟩ := C
  obtain ⟨hx, hb, hr, hml, hown, hts0, hX, hbl, hlocks, hgv⟩ := C0
  have hts : ∀ w ∈ wsL_law, w.before #[Value.ref b] s = true := fun w h => hts0 w (wsL_law_in w h)
  have hbA : ¬ zAb s.heap.size b := Nat.not_le.mpr hbl
  have hB : s.heap.size ≤ s.heap.size := Nat.le_refl _
  have hn40 := hI.1.1
  have hzk := hI.1.2
  obtain ⟨hwc6, hlc48, htrl, hclt, hms1⟩ := hI.2.1
  have hrt := hI.2.2.1
  have hle := hI.2.2.2.1
  have hMk := hI.2.2.2.2.1
  have hct := hI.2.2.2.2.2.1
  have hHi := hI.2.2.2.2.2.2.1
  have hsu := hI.2.2.2.2.2.2.2.2.1
  have hj5 : j ≤ 511 := by omega
  have hco : co < 256 := by have := hct.1; omega
  have hco6 : co ≤ 256 := Nat.le_of_lt hco
  have hsl : su < 2147483648 := by have := hsu.2.2; omega
  have hpt := hI.hpt (Nat.le_succ_of_le hj5)
  refine lv_aload_n hx hb dL_law_700 rfl (lv_at hl 1 rfl) ?_
  refine lv_aload_n hx hb dL_law_701 rfl (lv_at hl 3 rfl) ?_
  refine zci (vx_runSW (As := [.ref (h 0), .ref oa]) (rest := []) ⟨hx, hb, hml, hown, hts⟩ (c_L_done_x  hls (rfl)) (vx_cwSW 2 hts gL_law_L_done rfl rfl rfl hds_L_done ⟨Nat.le_of_ble_eq_true rfl, Nat.le_of_ble_eq_true rfl⟩) (zS hP hD hK hE hB hS) rfl rfl hl.1 rfl (lv_room (Nat.le_of_ble_eq_true rfl)) dL_law_702 ⟨(show cc + 1 ≤ 601024 by omega), (show ss + 6 ≤ 7293034 by omega)⟩) hS (fun H locs hP hD hS => ?_)
  have hP : va_P D vwCl ((zWT cI cJ h (n, L) (kt, km, kl) (pt, pm, pl) (nu, le, ow, fo, false, wc, lc, tr, cl, tm, ms) (yl, yc, yt, co, pa, su, sc) mc) ++ ((oa, .inl (cJ, 1, .inr (.inl yo))) :: (zWM cI cJ cZ h2 th (n, L) ((zcb kt pt), (zcb km pm), (zcb kl pl)) mc (false, wc, nu, lc, le, af, tr, ms, cl, tm) (co, yn, yh, pa)))) H := hP
  have hD : va_D (zAb s.heap.size) ((zWT cI cJ h (n, L) (kt, km, kl) (pt, pm, pl) (nu, le, ow, fo, false, wc, lc, tr, cl, tm, ms) (yl, yc, yt, co, pa, su, sc) mc) ++ ((oa, .inl (cJ, 1, .inr (.inl yo))) :: (zWM cI cJ cZ h2 th (n, L) ((zcb kt pt), (zcb km pm), (zcb kl pl)) mc (false, wc, nu, lc, le, af, tr, ms, cl, tm) (co, yn, yh, pa)))) := hD
  refine lv_istore (lv' := [(5, .int 1), (0, .ref b), (1, .ref (h 0)), (2, .ref (h2 0)), (3, .ref oa), (4, .int (nI (4 * j)))]) hx hb dL_law_705 hl (by decide) rfl (fun ls hl => ?_)
  refine lv_aload_n hx hb dL_law_707 rfl (lv_at hl 3 rfl) ?_
  have hP9 : va_P D vwCl ((zWM cI cJ cZ h2 th (n, L) ((zcb kt pt), (zcb km pm), (zcb kl pl)) mc (false, wc, nu, lc, le, af, tr, ms, cl, tm) (co, yn, yh, pa)) ++ ((zWT cI cJ h (n, L) (kt, km, kl) (pt, pm, pl) (nu, le, ow, fo, false, wc, lc, tr, cl, tm, ms) (yl, yc, yt, co, pa, su, sc) mc) ++ [(oa, .inl (cJ, 1, .inr (.inl yo)))])) H := zswapP (A := (zWT cI cJ h (n, L) (kt, km, kl) (pt, pm, pl) (nu, le, ow, fo, false, wc, lc, tr, cl, tm, ms) (yl, yc, yt, co, pa, su, sc) mc) ++ [(oa, .inl (cJ, 1, .inr (.inl yo)))]) (Bw := (zWM cI cJ cZ h2 th (n, L) ((zcb kt pt), (zcb km pm), (zcb kl pl)) mc (false, wc, nu, lc, le, af, tr, ms, cl, tm) (co, yn, yh, pa))) hP
  have hD9 : va_D (zAb s.heap.size) ((zWM cI cJ cZ h2 th (n, L) ((zcb kt pt), (zcb km pm), (zcb kl pl)) mc (false, wc, nu, lc, le, af, tr, ms, cl, tm) (co, yn, yh, pa)) ++ ((zWT cI cJ h (n, L) (kt, km, kl) (pt, pm, pl) (nu, le, ow, fo, false, wc, lc, tr, cl, tm, ms) (yl, yc, yt, co, pa, su, sc) mc) ++ [(oa, .inl (cJ, 1, .inr (.inl yo)))])) := zswapD (A := (zWT cI cJ h (n, L) (kt, km, kl) (pt, pm, pl) (nu, le, ow, fo, false, wc, lc, tr, cl, tm, ms) (yl, yc, yt, co, pa, su, sc) mc) ++ [(oa, .inl (cJ, 1, .inr (.inl yo)))]) (Bw := (zWM cI cJ cZ h2 th (n, L) ((zcb kt pt), (zcb km pm), (zcb kl pl)) mc (false, wc, nu, lc, le, af, tr, ms, cl, tm) (co, yn, yh, pa))) hD
  refine zci (zrV (As := []) (rest := []) ⟨hx, hb, hml, hown, hts⟩ (zV 0 hP9 hD9 hK hE hB hS rfl rfl) (c_X5_done_x  (rfl)) (cwV 0 hts gL_law_X5_done rfl rfl rfl hdv_X5_done ⟨Nat.le_of_ble_eq_true rfl, Nat.le_of_ble_eq_true rfl⟩) rfl rfl hl.1 rfl (lv_room (Nat.le_of_ble_eq_true rfl)) dL_law_708 ⟨(show cc + 1 + 0 ≤ 601024 by omega), (show ss + 6 + 0 ≤ 7293034 by omega)⟩) hS (fun H locs hP hD hS => ?_)
  have hP : va_P D vwCl ((zWT cI cJ h (n, L) (kt, km, kl) (pt, pm, pl) (nu, le, ow, fo, false, wc, lc, tr, cl, tm, ms) (yl, yc, yt, co, pa, su, sc) mc) ++ ((oa, .inl (cJ, 1, .inr (.inl yo))) :: (zWM cI cJ cZ h2 1 (n, L) ((zcb kt pt), (zcb km pm), (zcb kl pl)) mc (false, wc, nu, lc, le, af, tr, ms, cl, tm) (co, yn, yh, pa)))) H := zswapP (A := (zWM cI cJ cZ h2 1 (n, L) ((zcb kt pt), (zcb km pm), (zcb kl pl)) mc (false, wc, nu, lc, le, af, tr, ms, cl, tm) (co, yn, yh, pa))) (Bw := (zWT cI cJ h (n, L) (kt, km, kl) (pt, pm, pl) (nu, le, ow, fo, false, wc, lc, tr, cl, tm, ms) (yl, yc, yt, co, pa, su, sc) mc) ++ [(oa, .inl (cJ, 1, .inr (.inl yo)))]) hP
  have hD : va_D (zAb s.heap.size) ((zWT cI cJ h (n, L) (kt, km, kl) (pt, pm, pl) (nu, le, ow, fo, false, wc, lc, tr, cl, tm, ms) (yl, yc, yt, co, pa, su, sc) mc) ++ ((oa, .inl (cJ, 1, .inr (.inl yo))) :: (zWM cI cJ cZ h2 1 (n, L) ((zcb kt pt), (zcb km pm), (zcb kl pl)) mc (false, wc, nu, lc, le, af, tr, ms, cl, tm) (co, yn, yh, pa)))) := zswapD (A := (zWM cI cJ cZ h2 1 (n, L) ((zcb kt pt), (zcb km pm), (zcb kl pl)) mc (false, wc, nu, lc, le, af, tr, ms, cl, tm) (co, yn, yh, pa))) (Bw := (zWT cI cJ h (n, L) (kt, km, kl) (pt, pm, pl) (nu, le, ow, fo, false, wc, lc, tr, cl, tm, ms) (yl, yc, yt, co, pa, su, sc) mc) ++ [(oa, .inl (cJ, 1, .inr (.inl yo)))]) hD
  refine lv_istore (lv' := [(6, .int 0), (5, .int 1), (0, .ref b), (1, .ref (h 0)), (2, .ref (h2 0)), (3, .ref oa), (4, .int (nI (4 * j)))]) hx hb dL_law_711 hl (by decide) rfl (fun ls hl => ?_)
  refine lv_aload_n hx hb dL_law_713 rfl (lv_at hl 4 rfl) ?_
  have hP9 : va_P D vwCl ((zWM cI cJ cZ h2 1 (n, L) ((zcb kt pt), (zcb km pm), (zcb kl pl)) mc (false, wc, nu, lc, le, af, tr, ms, cl, tm) (co, yn, yh, pa)) ++ ((zWT cI cJ h (n, L) (kt, km, kl) (pt, pm, pl) (nu, le, ow, fo, false, wc, lc, tr, cl, tm, ms) (yl, yc, yt, co, pa, su, sc) mc) ++ [(oa, .inl (cJ, 1, .inr (.inl yo)))])) H := zswapP (A := (zWT cI cJ h (n, L) (kt, km, kl) (pt, pm, pl) (nu, le, ow, fo, false, wc, lc, tr, cl, tm, ms) (yl, yc, yt, co, pa, su, sc) mc) ++ [(oa, .inl (cJ, 1, .inr (.inl yo)))]) (Bw := (zWM cI cJ cZ h2 1 (n, L) ((zcb kt pt), (zcb km pm), (zcb kl pl)) mc (false, wc, nu, lc, le, af, tr, ms, cl, tm) (co, yn, yh, pa))) hP
  have hD9 : va_D (zAb s.heap.size) ((zWM cI cJ cZ h2 1 (n, L) ((zcb kt pt), (zcb km pm), (zcb kl pl)) mc (false, wc, nu, lc, le, af, tr, ms, cl, tm) (co, yn, yh, pa)) ++ ((zWT cI cJ h (n, L) (kt, km, kl) (pt, pm, pl) (nu, le, ow, fo, false, wc, lc, tr, cl, tm, ms) (yl, yc, yt, co, pa, su, sc) mc) ++ [(oa, .inl (cJ, 1, .inr (.inl yo)))])) := zswapD (A := (zWT cI cJ h (n, L) (kt, km, kl) (pt, pm, pl) (nu, le, ow, fo, false, wc, lc, tr, cl, tm, ms) (yl, yc, yt, co, pa, su, sc) mc) ++ [(oa, .inl (cJ, 1, .inr (.inl yo)))]) (Bw := (zWM cI cJ cZ h2 1 (n, L) ((zcb kt pt), (zcb km pm), (zcb kl pl)) mc (false, wc, nu, lc, le, af, tr, ms, cl, tm) (co, yn, yh, pa))) hD
  refine zci (zrV (As := []) (rest := []) ⟨hx, hb, hml, hown, hts⟩ (zV 0 hP9 hD9 hK hE hB hS rfl rfl) (c_X5_thrown  ) (cwV 0 hts gL_law_X5_thrown rfl rfl rfl hdv_X5_thrown ⟨Nat.le_of_ble_eq_true rfl, Nat.le_of_ble_eq_true rfl⟩) rfl rfl hl.1 rfl (lv_room (Nat.le_of_ble_eq_true rfl)) dL_law_714 ⟨(show cc + 1 + 0 + 0 ≤ 601024 by omega), (show ss + 6 + 0 + 0 ≤ 7293034 by omega)⟩) hS (fun H locs hP hD hS => ?_)
  have hP : va_P D vwCl ((zWT cI cJ h (n, L) (kt, km, kl) (pt, pm, pl) (nu, le, ow, fo, false, wc, lc, tr, cl, tm, ms) (yl, yc, yt, co, pa, su, sc) mc) ++ ((oa, .inl (cJ, 1, .inr (.inl yo))) :: (zWM cI cJ cZ h2 1 (n, L) ((zcb kt pt), (zcb km pm), (zcb kl pl)) mc (false, wc, nu, lc, le, af, tr, ms, cl, tm) (co, yn, yh, pa)))) H := zswapP (A := (zWM cI cJ cZ h2 1 (n, L) ((zcb kt pt), (zcb km pm), (zcb kl pl)) mc (false, wc, nu, lc, le, af, tr, ms, cl, tm) (co, yn, yh, pa))) (Bw := (zWT cI cJ h (n, L) (kt, km, kl) (pt, pm, pl) (nu, le, ow, fo, false, wc, lc, tr, cl, tm, ms) (yl, yc, yt, co, pa, su, sc) mc) ++ [(oa, .inl (cJ, 1, .inr (.inl yo)))]) hP
  have hD : va_D (zAb s.heap.size) ((zWT cI cJ h (n, L) (kt, km, kl) (pt, pm, pl) (nu, le, ow, fo, false, wc, lc, tr, cl, tm, ms) (yl, yc, yt, co, pa, su, sc) mc) ++ ((oa, .inl (cJ, 1, .inr (.inl yo))) :: (zWM cI cJ cZ h2 1 (n, L) ((zcb kt pt), (zcb km pm), (zcb kl pl)) mc (false, wc, nu, lc, le, af, tr, ms, cl, tm) (co, yn, yh, pa)))) := zswapD (A := (zWM cI cJ cZ h2 1 (n, L) ((zcb kt pt), (zcb km pm), (zcb kl pl)) mc (false, wc, nu, lc, le, af, tr, ms, cl, tm) (co, yn, yh, pa))) (Bw := (zWT cI cJ h (n, L) (kt, km, kl) (pt, pm, pl) (nu, le, ow, fo, false, wc, lc, tr, cl, tm, ms) (yl, yc, yt, co, pa, su, sc) mc) ++ [(oa, .inl (cJ, 1, .inr (.inl yo)))]) hD
  refine lv_iload hx hb dL_law_717 (lv_at hl 1 rfl) ?_
  refine lv_icmp_eq (tgt := 724) hx hb dL_law_719 (by decide) (fun c_1 => ?_) (fun c_1 => ?_)
  · skip
    refine lv_iload hx hb dL_law_724 (lv_at hl 1 rfl) ?_
    refine lv_if_ne (tgt := 741) hx hb dL_law_726 (by decide) (fun c_2 => ?_) (fun c_2 => ?_)
    · skip
      refine lv_goto (tgt := 1191) hx hb dL_law_741 (by decide) ?_
      refine W.widen (k := cc + 2) (n := ss + 1542) (show cc + 1 + 0 + 0 ≤ cc + 2 by omega) (show ss + 6 + 0 + 0 ≤ ss + 1542 by omega) ?_
      exact kont h h2 oa yo 1 n L kt km kl pt pm pl nu le ow fo false wc lc tr cl tm ms yl yc yt co pa su sc mc af yn yh (hI.mono) _ _ _ hP hD hS (lv_sub hl [2, 3, 4, 5, 6] rfl)
    · skip
      exfalso; first | omega | (revert c_2; decide) | (exact absurd rfl c_2) | simp_all
  · skip
    exfalso; first | omega | (revert c_1; decide) | (exact absurd rfl c_1) | simp_all

set_option maxHeartbeats 1000000 in
set_option maxRecDepth 100000 in
theorem law_strike_r {p : Program} {l : Launch} {e : Env} {s : State} {m : MethodId} {below : List Frame} {meth : Method} {c : Code} {b L9 : Nat} {xs : Nat → Int32} {D : va_G} {cI cJ cZ : ClassId} {kr kp j cc ss : Nat} {h h2 : Nat → Nat} {oa : Nat} {yo : Nat → Int64} {th : Int32} {n : Nat} {L : Nat → Int64} {kt : Nat → Int32} {km : Nat → Int32} {kl : Nat → Int32} {pt : Nat → Int32} {pm : Nat → Int32} {pl : Nat → Int32} {nu : Nat → Int32} {le : Nat → Int32} {ow : Nat → Int32} {fo : Nat → Int32} {run : Bool} {wc : Nat} {lc : Nat} {tr : Nat} {cl : Nat} {tm : Nat} {ms : Nat} {yl : Nat → Int32} {yc : Nat → Int32} {yt : Nat → Int32} {co : Nat} {pa : Int32} {su : Nat} {sc : Nat} {mc : Nat → Int32} {af : Nat → Int32} {yn : Nat} {yh : Nat → Int32} {x : Nat} {o : Option Nat} {fin : Bool} {g : Bool} {ky : Nat} {tt : Nat} (C : zLw p l s m meth c b L9 xs D cI cJ cZ kr kp) (hj : 4 * j + 4 ≤ L9) (hcc : cc + 2 ≤ 601024) (hss : ss + 1542 ≤ 7293034) (kont : zKt p l e s m below meth c b D cI cJ cZ j cc ss) (hI : zInv j n L pt le ow af true wc lc tr cl tm ms yl yc yt co yn su sc yh) (ea1 : xs (4 * j + 1) = nI ky) (ea2 : xs (4 * j + 2) = nI tt) (hky : ky < 26) (ht1 : 1 ≤ tt) (ht2 : tt ≤ 5000) (hx9 : le tr = nI x) (hx26 : x < 26) (ho : zis le ow lc tr (nI tr - 1) = zoI o) (hoy : ∀ y, o = some y → y < 26) (ho1 : o = none → ¬ af tr = 0) (ho2 : ∀ y, o = some y → af tr = 0 ∧ 0 < tr ∧ le (tr - 1) = nI y ∧ y < 26) (hf : zsel fin (tr + 1 = lc) (tr + 1 < lc)) (hg : zsel g (3 * co = yn) (3 * co + 3 ≤ yn)) (hk0 : zkd (nI ky) le ow lc tr = 0) {H : Heap} {locs : List Loc} {ls : Array Slot} (hP : va_P D vwCl ((zWT cI cJ h (n, L) (kt, km, kl) (pt, pm, pl) (nu, le, ow, fo, true, wc, lc, tr, cl, tm, ms) (yl, yc, yt, co, pa, su, sc) mc) ++ ((oa, .inl (cJ, 1, .inr (.inl yo))) :: (zWM cI cJ cZ h2 th (n, L) ((zcb kt pt), (zcb km pm), (zcb kl pl)) mc (true, wc, nu, lc, le, af, tr, ms, cl, tm) (co, yn, yh, pa)))) H) (hD : va_D (zAb s.heap.size) ((zWT cI cJ h (n, L) (kt, km, kl) (pt, pm, pl) (nu, le, ow, fo, true, wc, lc, tr, cl, tm, ms) (yl, yc, yt, co, pa, su, sc) mc) ++ ((oa, .inl (cJ, 1, .inr (.inl yo))) :: (zWM cI cJ cZ h2 th (n, L) ((zcb kt pt), (zcb km pm), (zcb kl pl)) mc (true, wc, nu, lc, le, af, tr, ms, cl, tm) (co, yn, yh, pa))))) (hS : va_S (zAb s.heap.size) s.heap H locs) (hl : lv_has ls 9 [(0, .ref b), (1, .ref (h 0)), (2, .ref (h2 0)), (3, .ref oa), (4, .int (nI (4 * j)))]) : W p l e room_1 s m #[Value.ref b] below meth c H locs cc ss (lw_Z below #[Value.ref b] s) (F0 m 744 ls []) := by
  obtain ⟨C0, hls, hK, hE, hL9⟩ := C
  obtain ⟨hx, hb, hr, hml, hown, hts0, hX, hbl, hlocks, hgv⟩ := C0
  have hts : ∀ w ∈ wsL_law, w.before #[Value.ref b] s = true := fun w h => hts0 w (wsL_law_in w h)
  have hbA : ¬ zAb s.heap.size b := Nat.not_le.mpr hbl
  have hB : s.heap.size ≤ s.heap.size := Nat.le_refl _
  have hn40 := hI.1.1
  have hzk := hI.1.2
  obtain ⟨hwc6, hlc48, htrl, hclt, hms1⟩ := hI.2.1
  have hrt := hI.2.2.1
  have hle := hI.2.2.2.1
  have hMk := hI.2.2.2.2.1
  have hct := hI.2.2.2.2.2.1
  have hHi := hI.2.2.2.2.2.2.1
  have hsu := hI.2.2.2.2.2.2.2.2.1
  have hj5 : j ≤ 511 := by omega
  have hco : co < 256 := by have := hct.1; omega
  have hco6 : co ≤ 256 := Nat.le_of_lt hco
  have hsl : su < 2147483648 := by have := hsu.2.2; omega
  have hpt := hI.hpt (Nat.le_succ_of_le hj5)
  have htr : tr < lc := hrt rfl
  have h2ms : ms ≤ 2 := by omega
  have hyn := hHi.2.2.1
  have hy12 := hHi.2.2.2.1
  refine lv_aload_n hx hb dL_law_744 rfl (lv_at hl 1 rfl) ?_
  refine lv_aload_n hx hb dL_law_745 rfl (lv_at hl 0 rfl) ?_
  refine lv_iload hx hb dL_law_746 (lv_at hl 4 rfl) ?_
  refine lv_iconst (v := 1) hx hb dL_law_748 (by decide) ?_
  refine lv_iadd hx hb dL_law_749 ?_
  refine lv_topi (fun v_1 ev_1 => ?_)
  obtain rfl : v_1 = (nI ((4 * j) + 1)) := ev_1.trans (nI_add (4 * j) 1)
  refine va_sld hx hb hX hbl hbA hS (vp_in_nI (n := ((4 * j) + 1)) (N := L9) (by omega) (by omega)) dL_law_750 ?_
  refine lv_topi (fun v_2 ev_2 => ?_)
  obtain rfl : (nI ky) = v_2 := (ev_2.trans ((congrArg xs (nI_clamp (by omega))).trans ea1)).symm
  refine lv_aload_n hx hb dL_law_751 rfl (lv_at hl 0 rfl) ?_
  refine lv_iload hx hb dL_law_752 (lv_at hl 4 rfl) ?_
  refine lv_iconst (v := 2) hx hb dL_law_754 (by decide) ?_
  refine lv_iadd hx hb dL_law_755 ?_
  refine lv_topi (fun v_3 ev_3 => ?_)
  obtain rfl : v_3 = (nI ((4 * j) + 2)) := ev_3.trans (nI_add (4 * j) 2)
  refine va_sld hx hb hX hbl hbA hS (vp_in_nI (n := ((4 * j) + 2)) (N := L9) (by omega) (by omega)) dL_law_756 ?_
  refine lv_topi (fun v_4 ev_4 => ?_)
  obtain rfl : (nI tt) = v_4 := (ev_4.trans ((congrArg xs (nI_clamp (by omega))).trans ea2)).symm
  refine lv_aload_n hx hb dL_law_757 rfl (lv_at hl 3 rfl) ?_
  refine zci (vx_runSW (As := [.ref (h 0), .int (nI ky), .int (nI tt), .ref oa]) (rest := []) ⟨hx, hb, hml, hown, hts⟩ (c_L_strike_r (time := tt) (x := x) (o := o) (fin := fin) (zin26 hky) (ht1) (ht2) (rfl) (hx9) (hx26) (ho) (hoy) (hf) (htr) (hlc48) (hclt) (hco) (h2ms) (hk0)) (vx_cwSW 4 hts gL_law_L_strike rfl rfl rfl hds_L_strike ⟨Nat.le_of_ble_eq_true rfl, Nat.le_of_ble_eq_true rfl⟩) (zS hP hD hK hE hB hS) rfl rfl hl.1 rfl (lv_room (Nat.le_of_ble_eq_true rfl)) dL_law_758 ⟨(show cc + 0 ≤ 601024 by omega), (show ss + 0 ≤ 7293034 by omega)⟩) hS (fun H locs hP hD hS => ?_)
  have hP : va_P D vwCl ((zWT cI cJ h (n, L) ((zkt kt x), (zkm (zc0 ms) km x), (zkl (zc0 ms) kl x (nI tt))) ((zou o x pt (zkt pt)), (zou o x pm (zkm (zc0 ms) pm)), (zou o x pl (fun p => zkl (zc0 ms) pl p (nI tt)))) (nu, le, ow, fo, (zsel fin false true), wc, lc, (tr + 1), (zsel (zc0 ms) (cl + 1) cl), (tm + tt), 0) ((zsel fin (upd yl co (nI lc)) yl), (zsel fin (upd yc co (nI (zsel (zc0 ms) (cl + 1) cl))) yc), (zsel fin (upd yt co (nI (tm + tt))) yt), (zsel fin (co + 1) co), (zsel fin (zpc pa lc (zsel (zc0 ms) (cl + 1) cl)) pa), (zsel fin (su + lc) su), (zsel fin (sc + (zsel (zc0 ms) (cl + 1) cl)) sc)) mc) ++ ((oa, .inl (cJ, 1, .inr (.inl (vp_updL yo 0 ((0 : Int32).toInt64))))) :: (zWM cI cJ cZ h2 th (n, L) ((zcb kt pt), (zcb km pm), (zcb kl pl)) mc (true, wc, nu, lc, le, af, tr, ms, cl, tm) (co, yn, yh, pa)))) H := hP
  have hD : va_D (zAb s.heap.size) ((zWT cI cJ h (n, L) ((zkt kt x), (zkm (zc0 ms) km x), (zkl (zc0 ms) kl x (nI tt))) ((zou o x pt (zkt pt)), (zou o x pm (zkm (zc0 ms) pm)), (zou o x pl (fun p => zkl (zc0 ms) pl p (nI tt)))) (nu, le, ow, fo, (zsel fin false true), wc, lc, (tr + 1), (zsel (zc0 ms) (cl + 1) cl), (tm + tt), 0) ((zsel fin (upd yl co (nI lc)) yl), (zsel fin (upd yc co (nI (zsel (zc0 ms) (cl + 1) cl))) yc), (zsel fin (upd yt co (nI (tm + tt))) yt), (zsel fin (co + 1) co), (zsel fin (zpc pa lc (zsel (zc0 ms) (cl + 1) cl)) pa), (zsel fin (su + lc) su), (zsel fin (sc + (zsel (zc0 ms) (cl + 1) cl)) sc)) mc) ++ ((oa, .inl (cJ, 1, .inr (.inl (vp_updL yo 0 ((0 : Int32).toInt64))))) :: (zWM cI cJ cZ h2 th (n, L) ((zcb kt pt), (zcb km pm), (zcb kl pl)) mc (true, wc, nu, lc, le, af, tr, ms, cl, tm) (co, yn, yh, pa)))) := hD
  refine lv_istore (lv' := [(5, .int 0), (0, .ref b), (1, .ref (h 0)), (2, .ref (h2 0)), (3, .ref oa), (4, .int (nI (4 * j)))]) hx hb dL_law_761 hl (by decide) rfl (fun ls hl => ?_)
  refine lv_aload_n hx hb dL_law_763 rfl (lv_at hl 3 rfl) ?_
  refine lv_aload_n hx hb dL_law_764 rfl (lv_at hl 1 rfl) ?_
  refine lv_iload hx hb dL_law_765 (lv_at hl 5 rfl) ?_
  refine lv_iconst (v := 1) hx hb dL_law_767 (by decide) ?_
  refine lv_iadd hx hb dL_law_768 ?_
  refine lv_topi (fun v_5 ev_5 => ?_)
  obtain rfl : v_5 = (nI ((4 * j) + 1)) := ev_5.trans (nI_add (4 * j) 1)
  refine va_sld hx hb hX hbl hbA hS (vp_in_nI (n := ((4 * j) + 1)) (N := L9) (by omega) (by omega)) dL_law_769 ?_
  refine lv_topi (fun v_6 ev_6 => ?_)
  obtain rfl : (nI ky) = v_6 := (ev_6.trans ((congrArg xs (nI_clamp (by omega))).trans ea1)).symm
  refine lv_aload_n hx hb dL_law_770 rfl (lv_at hl 1 rfl) ?_
  refine lv_iload hx hb dL_law_771 (lv_at hl 5 rfl) ?_
  refine lv_iconst (v := 2) hx hb dL_law_773 (by decide) ?_
  refine lv_iadd hx hb dL_law_774 ?_
  refine lv_topi (fun v_7 ev_7 => ?_)
  obtain rfl : v_7 = (nI ((4 * j) + 2)) := ev_7.trans (nI_add (4 * j) 2)
  refine va_sld hx hb hX hbl hbA hS (vp_in_nI (n := ((4 * j) + 2)) (N := L9) (by omega) (by omega)) dL_law_775 ?_
  refine lv_topi (fun v_8 ev_8 => ?_)
  obtain rfl : (nI tt) = v_8 := (ev_8.trans ((congrArg xs (nI_clamp (by omega))).trans ea2)).symm
  have hP9 : va_P D vwCl ((zWM cI cJ cZ h2 th (n, L) ((zcb kt pt), (zcb km pm), (zcb kl pl)) mc (true, wc, nu, lc, le, af, tr, ms, cl, tm) (co, yn, yh, pa)) ++ ((zWT cI cJ h (n, L) ((zkt kt x), (zkm (zc0 ms) km x), (zkl (zc0 ms) kl x (nI tt))) ((zou o x pt (zkt pt)), (zou o x pm (zkm (zc0 ms) pm)), (zou o x pl (fun p => zkl (zc0 ms) pl p (nI tt)))) (nu, le, ow, fo, (zsel fin false true), wc, lc, (tr + 1), (zsel (zc0 ms) (cl + 1) cl), (tm + tt), 0) ((zsel fin (upd yl co (nI lc)) yl), (zsel fin (upd yc co (nI (zsel (zc0 ms) (cl + 1) cl))) yc), (zsel fin (upd yt co (nI (tm + tt))) yt), (zsel fin (co + 1) co), (zsel fin (zpc pa lc (zsel (zc0 ms) (cl + 1) cl)) pa), (zsel fin (su + lc) su), (zsel fin (sc + (zsel (zc0 ms) (cl + 1) cl)) sc)) mc) ++ [(oa, .inl (cJ, 1, .inr (.inl (vp_updL yo 0 ((0 : Int32).toInt64)))))])) H := zswapP (A := (zWT cI cJ h (n, L) ((zkt kt x), (zkm (zc0 ms) km x), (zkl (zc0 ms) kl x (nI tt))) ((zou o x pt (zkt pt)), (zou o x pm (zkm (zc0 ms) pm)), (zou o x pl (fun p => zkl (zc0 ms) pl p (nI tt)))) (nu, le, ow, fo, (zsel fin false true), wc, lc, (tr + 1), (zsel (zc0 ms) (cl + 1) cl), (tm + tt), 0) ((zsel fin (upd yl co (nI lc)) yl), (zsel fin (upd yc co (nI (zsel (zc0 ms) (cl + 1) cl))) yc), (zsel fin (upd yt co (nI (tm + tt))) yt), (zsel fin (co + 1) co), (zsel fin (zpc pa lc (zsel (zc0 ms) (cl + 1) cl)) pa), (zsel fin (su + lc) su), (zsel fin (sc + (zsel (zc0 ms) (cl + 1) cl)) sc)) mc) ++ [(oa, .inl (cJ, 1, .inr (.inl (vp_updL yo 0 ((0 : Int32).toInt64)))))]) (Bw := (zWM cI cJ cZ h2 th (n, L) ((zcb kt pt), (zcb km pm), (zcb kl pl)) mc (true, wc, nu, lc, le, af, tr, ms, cl, tm) (co, yn, yh, pa))) hP
  have hD9 : va_D (zAb s.heap.size) ((zWM cI cJ cZ h2 th (n, L) ((zcb kt pt), (zcb km pm), (zcb kl pl)) mc (true, wc, nu, lc, le, af, tr, ms, cl, tm) (co, yn, yh, pa)) ++ ((zWT cI cJ h (n, L) ((zkt kt x), (zkm (zc0 ms) km x), (zkl (zc0 ms) kl x (nI tt))) ((zou o x pt (zkt pt)), (zou o x pm (zkm (zc0 ms) pm)), (zou o x pl (fun p => zkl (zc0 ms) pl p (nI tt)))) (nu, le, ow, fo, (zsel fin false true), wc, lc, (tr + 1), (zsel (zc0 ms) (cl + 1) cl), (tm + tt), 0) ((zsel fin (upd yl co (nI lc)) yl), (zsel fin (upd yc co (nI (zsel (zc0 ms) (cl + 1) cl))) yc), (zsel fin (upd yt co (nI (tm + tt))) yt), (zsel fin (co + 1) co), (zsel fin (zpc pa lc (zsel (zc0 ms) (cl + 1) cl)) pa), (zsel fin (su + lc) su), (zsel fin (sc + (zsel (zc0 ms) (cl + 1) cl)) sc)) mc) ++ [(oa, .inl (cJ, 1, .inr (.inl (vp_updL yo 0 ((0 : Int32).toInt64)))))])) := zswapD (A := (zWT cI cJ h (n, L) ((zkt kt x), (zkm (zc0 ms) km x), (zkl (zc0 ms) kl x (nI tt))) ((zou o x pt (zkt pt)), (zou o x pm (zkm (zc0 ms) pm)), (zou o x pl (fun p => zkl (zc0 ms) pl p (nI tt)))) (nu, le, ow, fo, (zsel fin false true), wc, lc, (tr + 1), (zsel (zc0 ms) (cl + 1) cl), (tm + tt), 0) ((zsel fin (upd yl co (nI lc)) yl), (zsel fin (upd yc co (nI (zsel (zc0 ms) (cl + 1) cl))) yc), (zsel fin (upd yt co (nI (tm + tt))) yt), (zsel fin (co + 1) co), (zsel fin (zpc pa lc (zsel (zc0 ms) (cl + 1) cl)) pa), (zsel fin (su + lc) su), (zsel fin (sc + (zsel (zc0 ms) (cl + 1) cl)) sc)) mc) ++ [(oa, .inl (cJ, 1, .inr (.inl (vp_updL yo 0 ((0 : Int32).toInt64)))))]) (Bw := (zWM cI cJ cZ h2 th (n, L) ((zcb kt pt), (zcb km pm), (zcb kl pl)) mc (true, wc, nu, lc, le, af, tr, ms, cl, tm) (co, yn, yh, pa))) hD
  refine zcih (zrV (As := [.int (nI ky), .int (nI tt)]) (rest := []) ⟨hx, hb, hml, hown, hts⟩ (zV 0 hP9 hD9 hK hE hB hS rfl rfl) (c_X5_strike_r (key := ky) (time := tt) (ow := ow) (x := x) (o := o) (fin := fin) (g := g) (hky) (ht1) (ht2) (rfl) (hMk) (hx9) (hx26) (ho1) (ho2) (hf) (htr) (hlc48) (hclt) (hco) (h2ms) (hg) (hyn) (hy12) (hk0)) (cwV 2 hts gL_law_X5_strike rfl rfl rfl hdv_X5_strike ⟨Nat.le_of_ble_eq_true rfl, Nat.le_of_ble_eq_true rfl⟩) rfl rfl hl.1 rfl (lv_room (Nat.le_of_ble_eq_true rfl)) dL_law_776 ⟨(show cc + 0 + 1 ≤ 601024 by omega), (show ss + 0 + 1536 ≤ 7293034 by omega)⟩) hS (fun q9 H locs hP hD hS => ?_)
  have hP : va_P D vwCl ((zWT cI cJ h (n, L) ((zkt kt x), (zkm (zc0 ms) km x), (zkl (zc0 ms) kl x (nI tt))) ((zou o x pt (zkt pt)), (zou o x pm (zkm (zc0 ms) pm)), (zou o x pl (fun p => zkl (zc0 ms) pl p (nI tt)))) (nu, le, ow, fo, (zsel fin false true), wc, lc, (tr + 1), (zsel (zc0 ms) (cl + 1) cl), (tm + tt), 0) ((zsel fin (upd yl co (nI lc)) yl), (zsel fin (upd yc co (nI (zsel (zc0 ms) (cl + 1) cl))) yc), (zsel fin (upd yt co (nI (tm + tt))) yt), (zsel fin (co + 1) co), (zsel fin (zpc pa lc (zsel (zc0 ms) (cl + 1) cl)) pa), (zsel fin (su + lc) su), (zsel fin (sc + (zsel (zc0 ms) (cl + 1) cl)) sc)) mc) ++ ((oa, .inl (cJ, 1, .inr (.inl (vp_updL yo 0 ((0 : Int32).toInt64))))) :: (zWM cI cJ cZ (zh9 h2 q9) 0 (n, L) ((zcb (zkt kt x) (zou o x pt (zkt pt))), (zcb (zkm (zc0 ms) km x) (zou o x pm (zkm (zc0 ms) pm))), (zcb (zkl (zc0 ms) kl x (nI tt)) (zou o x pl (fun p => zkl (zc0 ms) pl p (nI tt))))) mc ((zsel fin false true), wc, nu, lc, le, af, (tr + 1), 0, (zsel (zc0 ms) (cl + 1) cl), (tm + tt)) ((zsel fin (co + 1) co), (zsel fin (zyn g yn) yn), (zsel fin (zh3 (zyh g yh yn) co lc (zsel (zc0 ms) (cl + 1) cl) (tm + tt)) yh), (zsel fin (zpc pa lc (zsel (zc0 ms) (cl + 1) cl)) pa))))) H := zswapP (A := (zWM cI cJ cZ (zh9 h2 q9) 0 (n, L) ((zcb (zkt kt x) (zou o x pt (zkt pt))), (zcb (zkm (zc0 ms) km x) (zou o x pm (zkm (zc0 ms) pm))), (zcb (zkl (zc0 ms) kl x (nI tt)) (zou o x pl (fun p => zkl (zc0 ms) pl p (nI tt))))) mc ((zsel fin false true), wc, nu, lc, le, af, (tr + 1), 0, (zsel (zc0 ms) (cl + 1) cl), (tm + tt)) ((zsel fin (co + 1) co), (zsel fin (zyn g yn) yn), (zsel fin (zh3 (zyh g yh yn) co lc (zsel (zc0 ms) (cl + 1) cl) (tm + tt)) yh), (zsel fin (zpc pa lc (zsel (zc0 ms) (cl + 1) cl)) pa)))) (Bw := (zWT cI cJ h (n, L) ((zkt kt x), (zkm (zc0 ms) km x), (zkl (zc0 ms) kl x (nI tt))) ((zou o x pt (zkt pt)), (zou o x pm (zkm (zc0 ms) pm)), (zou o x pl (fun p => zkl (zc0 ms) pl p (nI tt)))) (nu, le, ow, fo, (zsel fin false true), wc, lc, (tr + 1), (zsel (zc0 ms) (cl + 1) cl), (tm + tt), 0) ((zsel fin (upd yl co (nI lc)) yl), (zsel fin (upd yc co (nI (zsel (zc0 ms) (cl + 1) cl))) yc), (zsel fin (upd yt co (nI (tm + tt))) yt), (zsel fin (co + 1) co), (zsel fin (zpc pa lc (zsel (zc0 ms) (cl + 1) cl)) pa), (zsel fin (su + lc) su), (zsel fin (sc + (zsel (zc0 ms) (cl + 1) cl)) sc)) mc) ++ [(oa, .inl (cJ, 1, .inr (.inl (vp_updL yo 0 ((0 : Int32).toInt64)))))]) hP
  have hD : va_D (zAb s.heap.size) ((zWT cI cJ h (n, L) ((zkt kt x), (zkm (zc0 ms) km x), (zkl (zc0 ms) kl x (nI tt))) ((zou o x pt (zkt pt)), (zou o x pm (zkm (zc0 ms) pm)), (zou o x pl (fun p => zkl (zc0 ms) pl p (nI tt)))) (nu, le, ow, fo, (zsel fin false true), wc, lc, (tr + 1), (zsel (zc0 ms) (cl + 1) cl), (tm + tt), 0) ((zsel fin (upd yl co (nI lc)) yl), (zsel fin (upd yc co (nI (zsel (zc0 ms) (cl + 1) cl))) yc), (zsel fin (upd yt co (nI (tm + tt))) yt), (zsel fin (co + 1) co), (zsel fin (zpc pa lc (zsel (zc0 ms) (cl + 1) cl)) pa), (zsel fin (su + lc) su), (zsel fin (sc + (zsel (zc0 ms) (cl + 1) cl)) sc)) mc) ++ ((oa, .inl (cJ, 1, .inr (.inl (vp_updL yo 0 ((0 : Int32).toInt64))))) :: (zWM cI cJ cZ (zh9 h2 q9) 0 (n, L) ((zcb (zkt kt x) (zou o x pt (zkt pt))), (zcb (zkm (zc0 ms) km x) (zou o x pm (zkm (zc0 ms) pm))), (zcb (zkl (zc0 ms) kl x (nI tt)) (zou o x pl (fun p => zkl (zc0 ms) pl p (nI tt))))) mc ((zsel fin false true), wc, nu, lc, le, af, (tr + 1), 0, (zsel (zc0 ms) (cl + 1) cl), (tm + tt)) ((zsel fin (co + 1) co), (zsel fin (zyn g yn) yn), (zsel fin (zh3 (zyh g yh yn) co lc (zsel (zc0 ms) (cl + 1) cl) (tm + tt)) yh), (zsel fin (zpc pa lc (zsel (zc0 ms) (cl + 1) cl)) pa))))) := zswapD (A := (zWM cI cJ cZ (zh9 h2 q9) 0 (n, L) ((zcb (zkt kt x) (zou o x pt (zkt pt))), (zcb (zkm (zc0 ms) km x) (zou o x pm (zkm (zc0 ms) pm))), (zcb (zkl (zc0 ms) kl x (nI tt)) (zou o x pl (fun p => zkl (zc0 ms) pl p (nI tt))))) mc ((zsel fin false true), wc, nu, lc, le, af, (tr + 1), 0, (zsel (zc0 ms) (cl + 1) cl), (tm + tt)) ((zsel fin (co + 1) co), (zsel fin (zyn g yn) yn), (zsel fin (zh3 (zyh g yh yn) co lc (zsel (zc0 ms) (cl + 1) cl) (tm + tt)) yh), (zsel fin (zpc pa lc (zsel (zc0 ms) (cl + 1) cl)) pa)))) (Bw := (zWT cI cJ h (n, L) ((zkt kt x), (zkm (zc0 ms) km x), (zkl (zc0 ms) kl x (nI tt))) ((zou o x pt (zkt pt)), (zou o x pm (zkm (zc0 ms) pm)), (zou o x pl (fun p => zkl (zc0 ms) pl p (nI tt)))) (nu, le, ow, fo, (zsel fin false true), wc, lc, (tr + 1), (zsel (zc0 ms) (cl + 1) cl), (tm + tt), 0) ((zsel fin (upd yl co (nI lc)) yl), (zsel fin (upd yc co (nI (zsel (zc0 ms) (cl + 1) cl))) yc), (zsel fin (upd yt co (nI (tm + tt))) yt), (zsel fin (co + 1) co), (zsel fin (zpc pa lc (zsel (zc0 ms) (cl + 1) cl)) pa), (zsel fin (su + lc) su), (zsel fin (sc + (zsel (zc0 ms) (cl + 1) cl)) sc)) mc) ++ [(oa, .inl (cJ, 1, .inr (.inl (vp_updL yo 0 ((0 : Int32).toInt64)))))]) hD
  refine lv_istore (lv' := [(6, .int 0), (5, .int 0), (0, .ref b), (1, .ref (h 0)), (2, .ref (h2 0)), (3, .ref oa), (4, .int (nI (4 * j)))]) hx hb dL_law_779 hl (by decide) rfl (fun ls hl => ?_)
  refine lv_aload_n hx hb dL_law_781 rfl (lv_at hl 4 rfl) ?_
  have hP9 : va_P D vwCl ((zWM cI cJ cZ (zh9 h2 q9) 0 (n, L) ((zcb (zkt kt x) (zou o x pt (zkt pt))), (zcb (zkm (zc0 ms) km x) (zou o x pm (zkm (zc0 ms) pm))), (zcb (zkl (zc0 ms) kl x (nI tt)) (zou o x pl (fun p => zkl (zc0 ms) pl p (nI tt))))) mc ((zsel fin false true), wc, nu, lc, le, af, (tr + 1), 0, (zsel (zc0 ms) (cl + 1) cl), (tm + tt)) ((zsel fin (co + 1) co), (zsel fin (zyn g yn) yn), (zsel fin (zh3 (zyh g yh yn) co lc (zsel (zc0 ms) (cl + 1) cl) (tm + tt)) yh), (zsel fin (zpc pa lc (zsel (zc0 ms) (cl + 1) cl)) pa))) ++ ((zWT cI cJ h (n, L) ((zkt kt x), (zkm (zc0 ms) km x), (zkl (zc0 ms) kl x (nI tt))) ((zou o x pt (zkt pt)), (zou o x pm (zkm (zc0 ms) pm)), (zou o x pl (fun p => zkl (zc0 ms) pl p (nI tt)))) (nu, le, ow, fo, (zsel fin false true), wc, lc, (tr + 1), (zsel (zc0 ms) (cl + 1) cl), (tm + tt), 0) ((zsel fin (upd yl co (nI lc)) yl), (zsel fin (upd yc co (nI (zsel (zc0 ms) (cl + 1) cl))) yc), (zsel fin (upd yt co (nI (tm + tt))) yt), (zsel fin (co + 1) co), (zsel fin (zpc pa lc (zsel (zc0 ms) (cl + 1) cl)) pa), (zsel fin (su + lc) su), (zsel fin (sc + (zsel (zc0 ms) (cl + 1) cl)) sc)) mc) ++ [(oa, .inl (cJ, 1, .inr (.inl (vp_updL yo 0 ((0 : Int32).toInt64)))))])) H := zswapP (A := (zWT cI cJ h (n, L) ((zkt kt x), (zkm (zc0 ms) km x), (zkl (zc0 ms) kl x (nI tt))) ((zou o x pt (zkt pt)), (zou o x pm (zkm (zc0 ms) pm)), (zou o x pl (fun p => zkl (zc0 ms) pl p (nI tt)))) (nu, le, ow, fo, (zsel fin false true), wc, lc, (tr + 1), (zsel (zc0 ms) (cl + 1) cl), (tm + tt), 0) ((zsel fin (upd yl co (nI lc)) yl), (zsel fin (upd yc co (nI (zsel (zc0 ms) (cl + 1) cl))) yc), (zsel fin (upd yt co (nI (tm + tt))) yt), (zsel fin (co + 1) co), (zsel fin (zpc pa lc (zsel (zc0 ms) (cl + 1) cl)) pa), (zsel fin (su + lc) su), (zsel fin (sc + (zsel (zc0 ms) (cl + 1) cl)) sc)) mc) ++ [(oa, .inl (cJ, 1, .inr (.inl (vp_updL yo 0 ((0 : Int32).toInt64)))))]) (Bw := (zWM cI cJ cZ (zh9 h2 q9) 0 (n, L) ((zcb (zkt kt x) (zou o x pt (zkt pt))), (zcb (zkm (zc0 ms) km x) (zou o x pm (zkm (zc0 ms) pm))), (zcb (zkl (zc0 ms) kl x (nI tt)) (zou o x pl (fun p => zkl (zc0 ms) pl p (nI tt))))) mc ((zsel fin false true), wc, nu, lc, le, af, (tr + 1), 0, (zsel (zc0 ms) (cl + 1) cl), (tm + tt)) ((zsel fin (co + 1) co), (zsel fin (zyn g yn) yn), (zsel fin (zh3 (zyh g yh yn) co lc (zsel (zc0 ms) (cl + 1) cl) (tm + tt)) yh), (zsel fin (zpc pa lc (zsel (zc0 ms) (cl + 1) cl)) pa)))) hP
  have hD9 : va_D (zAb s.heap.size) ((zWM cI cJ cZ (zh9 h2 q9) 0 (n, L) ((zcb (zkt kt x) (zou o x pt (zkt pt))), (zcb (zkm (zc0 ms) km x) (zou o x pm (zkm (zc0 ms) pm))), (zcb (zkl (zc0 ms) kl x (nI tt)) (zou o x pl (fun p => zkl (zc0 ms) pl p (nI tt))))) mc ((zsel fin false true), wc, nu, lc, le, af, (tr + 1), 0, (zsel (zc0 ms) (cl + 1) cl), (tm + tt)) ((zsel fin (co + 1) co), (zsel fin (zyn g yn) yn), (zsel fin (zh3 (zyh g yh yn) co lc (zsel (zc0 ms) (cl + 1) cl) (tm + tt)) yh), (zsel fin (zpc pa lc (zsel (zc0 ms) (cl + 1) cl)) pa))) ++ ((zWT cI cJ h (n, L) ((zkt kt x), (zkm (zc0 ms) km x), (zkl (zc0 ms) kl x (nI tt))) ((zou o x pt (zkt pt)), (zou o x pm (zkm (zc0 ms) pm)), (zou o x pl (fun p => zkl (zc0 ms) pl p (nI tt)))) (nu, le, ow, fo, (zsel fin false true), wc, lc, (tr + 1), (zsel (zc0 ms) (cl + 1) cl), (tm + tt), 0) ((zsel fin (upd yl co (nI lc)) yl), (zsel fin (upd yc co (nI (zsel (zc0 ms) (cl + 1) cl))) yc), (zsel fin (upd yt co (nI (tm + tt))) yt), (zsel fin (co + 1) co), (zsel fin (zpc pa lc (zsel (zc0 ms) (cl + 1) cl)) pa), (zsel fin (su + lc) su), (zsel fin (sc + (zsel (zc0 ms) (cl + 1) cl)) sc)) mc) ++ [(oa, .inl (cJ, 1, .inr (.inl (vp_updL yo 0 ((0 : Int32).toInt64)))))])) := zswapD (A := (zWT cI cJ h (n, L) ((zkt kt x), (zkm (zc0 ms) km x), (zkl (zc0 ms) kl x (nI tt))) ((zou o x pt (zkt pt)), (zou o x pm (zkm (zc0 ms) pm)), (zou o x pl (fun p => zkl (zc0 ms) pl p (nI tt)))) (nu, le, ow, fo, (zsel fin false true), wc, lc, (tr + 1), (zsel (zc0 ms) (cl + 1) cl), (tm + tt), 0) ((zsel fin (upd yl co (nI lc)) yl), (zsel fin (upd yc co (nI (zsel (zc0 ms) (cl + 1) cl))) yc), (zsel fin (upd yt co (nI (tm + tt))) yt), (zsel fin (co + 1) co), (zsel fin (zpc pa lc (zsel (zc0 ms) (cl + 1) cl)) pa), (zsel fin (su + lc) su), (zsel fin (sc + (zsel (zc0 ms) (cl + 1) cl)) sc)) mc) ++ [(oa, .inl (cJ, 1, .inr (.inl (vp_updL yo 0 ((0 : Int32).toInt64)))))]) (Bw := (zWM cI cJ cZ (zh9 h2 q9) 0 (n, L) ((zcb (zkt kt x) (zou o x pt (zkt pt))), (zcb (zkm (zc0 ms) km x) (zou o x pm (zkm (zc0 ms) pm))), (zcb (zkl (zc0 ms) kl x (nI tt)) (zou o x pl (fun p => zkl (zc0 ms) pl p (nI tt))))) mc ((zsel fin false true), wc, nu, lc, le, af, (tr + 1), 0, (zsel (zc0 ms) (cl + 1) cl), (tm + tt)) ((zsel fin (co + 1) co), (zsel fin (zyn g yn) yn), (zsel fin (zh3 (zyh g yh yn) co lc (zsel (zc0 ms) (cl + 1) cl) (tm + tt)) yh), (zsel fin (zpc pa lc (zsel (zc0 ms) (cl + 1) cl)) pa)))) hD
  refine zci (zrV (As := []) (rest := []) ⟨hx, hb, hml, hown, hts⟩ (zV 0 hP9 hD9 hK hE hB hS rfl rfl) (c_X5_thrown  ) (cwV 0 hts gL_law_X5_thrown rfl rfl rfl hdv_X5_thrown ⟨Nat.le_of_ble_eq_true rfl, Nat.le_of_ble_eq_true rfl⟩) rfl rfl hl.1 rfl (lv_room (Nat.le_of_ble_eq_true rfl)) dL_law_782 ⟨(show cc + 0 + 1 + 0 ≤ 601024 by omega), (show ss + 0 + 1536 + 0 ≤ 7293034 by omega)⟩) hS (fun H locs hP hD hS => ?_)
  have hP : va_P D vwCl ((zWT cI cJ h (n, L) ((zkt kt x), (zkm (zc0 ms) km x), (zkl (zc0 ms) kl x (nI tt))) ((zou o x pt (zkt pt)), (zou o x pm (zkm (zc0 ms) pm)), (zou o x pl (fun p => zkl (zc0 ms) pl p (nI tt)))) (nu, le, ow, fo, (zsel fin false true), wc, lc, (tr + 1), (zsel (zc0 ms) (cl + 1) cl), (tm + tt), 0) ((zsel fin (upd yl co (nI lc)) yl), (zsel fin (upd yc co (nI (zsel (zc0 ms) (cl + 1) cl))) yc), (zsel fin (upd yt co (nI (tm + tt))) yt), (zsel fin (co + 1) co), (zsel fin (zpc pa lc (zsel (zc0 ms) (cl + 1) cl)) pa), (zsel fin (su + lc) su), (zsel fin (sc + (zsel (zc0 ms) (cl + 1) cl)) sc)) mc) ++ ((oa, .inl (cJ, 1, .inr (.inl (vp_updL yo 0 ((0 : Int32).toInt64))))) :: (zWM cI cJ cZ (zh9 h2 q9) 0 (n, L) ((zcb (zkt kt x) (zou o x pt (zkt pt))), (zcb (zkm (zc0 ms) km x) (zou o x pm (zkm (zc0 ms) pm))), (zcb (zkl (zc0 ms) kl x (nI tt)) (zou o x pl (fun p => zkl (zc0 ms) pl p (nI tt))))) mc ((zsel fin false true), wc, nu, lc, le, af, (tr + 1), 0, (zsel (zc0 ms) (cl + 1) cl), (tm + tt)) ((zsel fin (co + 1) co), (zsel fin (zyn g yn) yn), (zsel fin (zh3 (zyh g yh yn) co lc (zsel (zc0 ms) (cl + 1) cl) (tm + tt)) yh), (zsel fin (zpc pa lc (zsel (zc0 ms) (cl + 1) cl)) pa))))) H := zswapP (A := (zWM cI cJ cZ (zh9 h2 q9) 0 (n, L) ((zcb (zkt kt x) (zou o x pt (zkt pt))), (zcb (zkm (zc0 ms) km x) (zou o x pm (zkm (zc0 ms) pm))), (zcb (zkl (zc0 ms) kl x (nI tt)) (zou o x pl (fun p => zkl (zc0 ms) pl p (nI tt))))) mc ((zsel fin false true), wc, nu, lc, le, af, (tr + 1), 0, (zsel (zc0 ms) (cl + 1) cl), (tm + tt)) ((zsel fin (co + 1) co), (zsel fin (zyn g yn) yn), (zsel fin (zh3 (zyh g yh yn) co lc (zsel (zc0 ms) (cl + 1) cl) (tm + tt)) yh), (zsel fin (zpc pa lc (zsel (zc0 ms) (cl + 1) cl)) pa)))) (Bw := (zWT cI cJ h (n, L) ((zkt kt x), (zkm (zc0 ms) km x), (zkl (zc0 ms) kl x (nI tt))) ((zou o x pt (zkt pt)), (zou o x pm (zkm (zc0 ms) pm)), (zou o x pl (fun p => zkl (zc0 ms) pl p (nI tt)))) (nu, le, ow, fo, (zsel fin false true), wc, lc, (tr + 1), (zsel (zc0 ms) (cl + 1) cl), (tm + tt), 0) ((zsel fin (upd yl co (nI lc)) yl), (zsel fin (upd yc co (nI (zsel (zc0 ms) (cl + 1) cl))) yc), (zsel fin (upd yt co (nI (tm + tt))) yt), (zsel fin (co + 1) co), (zsel fin (zpc pa lc (zsel (zc0 ms) (cl + 1) cl)) pa), (zsel fin (su + lc) su), (zsel fin (sc + (zsel (zc0 ms) (cl + 1) cl)) sc)) mc) ++ [(oa, .inl (cJ, 1, .inr (.inl (vp_updL yo 0 ((0 : Int32).toInt64)))))]) hP
  have hD : va_D (zAb s.heap.size) ((zWT cI cJ h (n, L) ((zkt kt x), (zkm (zc0 ms) km x), (zkl (zc0 ms) kl x (nI tt))) ((zou o x pt (zkt pt)), (zou o x pm (zkm (zc0 ms) pm)), (zou o x pl (fun p => zkl (zc0 ms) pl p (nI tt)))) (nu, le, ow, fo, (zsel fin false true), wc, lc, (tr + 1), (zsel (zc0 ms) (cl + 1) cl), (tm + tt), 0) ((zsel fin (upd yl co (nI lc)) yl), (zsel fin (upd yc co (nI (zsel (zc0 ms) (cl + 1) cl))) yc), (zsel fin (upd yt co (nI (tm + tt))) yt), (zsel fin (co + 1) co), (zsel fin (zpc pa lc (zsel (zc0 ms) (cl + 1) cl)) pa), (zsel fin (su + lc) su), (zsel fin (sc + (zsel (zc0 ms) (cl + 1) cl)) sc)) mc) ++ ((oa, .inl (cJ, 1, .inr (.inl (vp_updL yo 0 ((0 : Int32).toInt64))))) :: (zWM cI cJ cZ (zh9 h2 q9) 0 (n, L) ((zcb (zkt kt x) (zou o x pt (zkt pt))), (zcb (zkm (zc0 ms) km x) (zou o x pm (zkm (zc0 ms) pm))), (zcb (zkl (zc0 ms) kl x (nI tt)) (zou o x pl (fun p => zkl (zc0 ms) pl p (nI tt))))) mc ((zsel fin false true), wc, nu, lc, le, af, (tr + 1), 0, (zsel (zc0 ms) (cl + 1) cl), (tm + tt)) ((zsel fin (co + 1) co), (zsel fin (zyn g yn) yn), (zsel fin (zh3 (zyh g yh yn) co lc (zsel (zc0 ms) (cl + 1) cl) (tm + tt)) yh), (zsel fin (zpc pa lc (zsel (zc0 ms) (cl + 1) cl)) pa))))) := zswapD (A := (zWM cI cJ cZ (zh9 h2 q9) 0 (n, L) ((zcb (zkt kt x) (zou o x pt (zkt pt))), (zcb (zkm (zc0 ms) km x) (zou o x pm (zkm (zc0 ms) pm))), (zcb (zkl (zc0 ms) kl x (nI tt)) (zou o x pl (fun p => zkl (zc0 ms) pl p (nI tt))))) mc ((zsel fin false true), wc, nu, lc, le, af, (tr + 1), 0, (zsel (zc0 ms) (cl + 1) cl), (tm + tt)) ((zsel fin (co + 1) co), (zsel fin (zyn g yn) yn), (zsel fin (zh3 (zyh g yh yn) co lc (zsel (zc0 ms) (cl + 1) cl) (tm + tt)) yh), (zsel fin (zpc pa lc (zsel (zc0 ms) (cl + 1) cl)) pa)))) (Bw := (zWT cI cJ h (n, L) ((zkt kt x), (zkm (zc0 ms) km x), (zkl (zc0 ms) kl x (nI tt))) ((zou o x pt (zkt pt)), (zou o x pm (zkm (zc0 ms) pm)), (zou o x pl (fun p => zkl (zc0 ms) pl p (nI tt)))) (nu, le, ow, fo, (zsel fin false true), wc, lc, (tr + 1), (zsel (zc0 ms) (cl + 1) cl), (tm + tt), 0) ((zsel fin (upd yl co (nI lc)) yl), (zsel fin (upd yc co (nI (zsel (zc0 ms) (cl + 1) cl))) yc), (zsel fin (upd yt co (nI (tm + tt))) yt), (zsel fin (co + 1) co), (zsel fin (zpc pa lc (zsel (zc0 ms) (cl + 1) cl)) pa), (zsel fin (su + lc) su), (zsel fin (sc + (zsel (zc0 ms) (cl + 1) cl)) sc)) mc) ++ [(oa, .inl (cJ, 1, .inr (.inl (vp_updL yo 0 ((0 : Int32).toInt64)))))]) hD
  refine lv_iload hx hb dL_law_785 (lv_at hl 1 rfl) ?_
  refine lv_icmp_eq (tgt := 792) hx hb dL_law_787 (by decide) (fun c_9 => ?_) (fun c_9 => ?_)
  · skip
    refine lv_iload hx hb dL_law_792 (lv_at hl 1 rfl) ?_
    refine lv_if_ne (tgt := 809) hx hb dL_law_794 (by decide) (fun c_10 => ?_) (fun c_10 => ?_)
    · skip
      exfalso; first | omega | (revert c_10; decide) | (exact absurd rfl c_10) | simp_all
    · skip
      refine lv_aload_n hx hb dL_law_797 rfl (lv_at hl 5 rfl) ?_
      refine lv_iconst (v := 0) hx hb dL_law_798 (by decide) ?_
      refine va_lald hx hb hK hP 21 1 rfl rfl (vp_in_nI (n := 0) (N := 1) (by omega) (by omega)) dL_law_799 ?_
      refine lv_topl (fun v_11 ev_11 => ?_)
      obtain rfl : ((0 : Int32).toInt64) = v_11 := (ev_11.trans (pk_uLs (f := yo) (k := 0) (x := ((0 : Int32).toInt64)))).symm
      refine lv_iload hx hb dL_law_800 (lv_at hl 0 rfl) ?_
      refine lv_i2l (v := (0 : Int32).toInt64) hx hb dL_law_802 rfl ?_
      refine W.lcmp hx hb dL_law_803 ?_
      refine lv_if_eq (tgt := 809) hx hb dL_law_804 (by decide) (fun c_12 => ?_) (fun c_12 => ?_)
      · skip
        have c_12 : ((0 : Int32).toInt64) = ((0 : Int32).toInt64) := (lg_cmp_eq _ _).mp c_12
        refine lv_goto (tgt := 1191) hx hb dL_law_809 (by decide) ?_
        refine W.widen (k := cc + 2) (n := ss + 1542) (show cc + 0 + 1 + 0 ≤ cc + 2 by omega) (show ss + 0 + 1536 + 0 ≤ ss + 1542 by omega) ?_
        exact kont h (zh9 h2 q9) oa (vp_updL yo 0 ((0 : Int32).toInt64)) 0 n L (zkt kt x) (zkm (zc0 ms) km x) (zkl (zc0 ms) kl x (nI tt)) (zou o x pt (zkt pt)) (zou o x pm (zkm (zc0 ms) pm)) (zou o x pl (fun p => zkl (zc0 ms) pl p (nI tt))) nu le ow fo (zsel fin false true) wc lc (tr + 1) (zsel (zc0 ms) (cl + 1) cl) (tm + tt) 0 (zsel fin (upd yl co (nI lc)) yl) (zsel fin (upd yc co (nI (zsel (zc0 ms) (cl + 1) cl))) yc) (zsel fin (upd yt co (nI (tm + tt))) yt) (zsel fin (co + 1) co) (zsel fin (zpc pa lc (zsel (zc0 ms) (cl + 1) cl)) pa) (zsel fin (su + lc) su) (zsel fin (sc + (zsel (zc0 ms) (cl + 1) cl)) sc) mc af (zsel fin (zyn g yn) yn) (zsel fin (zh3 (zyh g yh yn) co lc (zsel (zc0 ms) (cl + 1) cl) (tm + tt)) yh) (hI.tried (ms' := ms) (o := o) ht1 ht2 hj5 hf hg) _ _ _ hP hD hS (lv_sub hl [2, 3, 4, 5, 6] rfl)
      · skip
        have c_12 : ¬ ((0 : Int32).toInt64) = ((0 : Int32).toInt64) := fun hh => c_12 ((lg_cmp_eq _ _).mpr hh)
        exact absurd rfl c_12
  · skip
    exfalso; first | omega | (revert c_9; decide) | (exact absurd rfl c_9) | simp_all
