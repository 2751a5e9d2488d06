set_option maxHeartbeats 1000000 in
set_option maxRecDepth 100000 in
theorem c_X4_open {l : Launch} {B kr kp : Nat} {D : va_G} {cI cJ cZ : ClassId} {h : Nat → Nat} {R : va_W} {n : Nat} {L : Nat → Int64} {kt : Nat → Int32} {km : Nat → Int32} {kl : Nat → Int32} {pt : Nat → Int32} {pm : Nat → Int32} {pl : Nat → Int32} {nu : Nat → Int32} {le : Nat → Int32} {ow : Nat → Int32} {fo : Nat → Int32} {run : Bool} {wc : Nat} {lc : Nat} {tr : Nat} {cl : Nat} {tm : Nat} {ms : Nat} {yl : Nat → Int32} {yc : Nat → Int32} {yt : Nat → Int32} {co : Nat} {pa : Int32} {su : Nat} {sc : Nat} {mc : Nat → Int32} {words : Nat}   (hw1 : 1 ≤ words) (hw6 : words ≤ 6) (hrun : run = false) (hn0 : 0 < n) (hn : n ≤ 40) (hL : ∀ j, j < n → 0 < zsz (L j)) : Met l yX4_open wsX4_open ({ frames := 6, cells := 0, slots := 0, locals := 140 }) (zPc B kr kp D (zTy cI cJ cZ) (zWT cI cJ h (n, L) (kt, km, kl) (pt, pm, pl) (nu, le, ow, fo, run, wc, lc, tr, cl, tm, ms) (yl, yc, yt, co, pa, su, sc) mc ++ R) [.ref (h 0), .int (nI words)]) (zQi B D (zWT cI cJ h (n, L) (kt, km, kl) (pt, pm, pl) (((zoT L n kl pt pl (nu, le, ow, zfil 26 0 fo, 0, 0) words).1), ((zoT L n kl pt pl (nu, le, ow, zfil 26 0 fo, 0, 0) words).2.1), ((zoT L n kl pt pl (nu, le, ow, zfil 26 0 fo, 0, 0) words).2.2.1), ((zoT L n kl pt pl (nu, le, ow, zfil 26 0 fo, 0, 0) words).2.2.2.1), true, ((zoT L n kl pt pl (nu, le, ow, zfil 26 0 fo, 0, 0) words).2.2.2.2.1), ((zoT L n kl pt pl (nu, le, ow, zfil 26 0 fo, 0, 0) words).2.2.2.2.2), 0, 0, 0, 0) (yl, yc, yt, co, pa, su, sc) mc ++ R) (nI ((zoT L n kl pt pl (nu, le, ow, zfil 26 0 fo, 0, 0) words).2.2.2.2.1))) 0 0 (zAb B) := by
  refine Met.ofW (cc := cX4_open) (maxL := 4) (ret := (some .int)) (by decide) rfl ?_
  intro p e s m args below meth c s₁ B0 hml hv
  obtain ⟨rfl, hP, hD, hK, hE, hB⟩ := hv
  have hx := B0.exec
  have hb := B0.bytes
  have hr := B0.returns
  have hts := atoms_spec (ws := wsX4_open) B0.pre
  have hown : s.vm.findClass RX4 = some m.cls := findClass_of_methodNamed B0.named
  have hlocks := B0.notSynchronized
  have hA : ∀ q : Nat, s.heap.size ≤ q → zAb B q := fun q hq => Nat.le_trans hB hq
  have hS : va_S (zAb B) s.heap s.heap [] := va_S.rf
  have hgr : s.heap.size ≤ s.heap.size := Nat.le_refl _
  have hl := lv_entry ([.ref (h 0), .int (nI words)]) (n := 4) (Nat.le_of_ble_eq_true rfl)
  rw [lg_entry_eq]
  generalize (lg_sl ([.ref (h 0), .int (nI words)]) ++ List.replicate (4 - (lg_sl ([.ref (h 0), .int (nI words)])).length) Slot.unset).toArray = ls at hl ⊢
  have hl : lv_has ls 4 [(0, .ref (h 0)), (1, .int (nI words))] := hl
  have hinX4 : ∀ w ∈ wsX40, w ∈ wsX4_open := fun _ h => List.mem_cons_of_mem _ (List.mem_append_left _ (List.mem_append_left _ (List.mem_append_left _ (List.mem_append_left _ (List.mem_append_left _ (List.mem_append_right _ h))))))
  have hP : va_P D vwCl (zWT cI cJ h (n, L) (kt, km, kl) (pt, pm, pl) (nu, le, ow, fo, run, wc, lc, tr, cl, tm, ms) (yl, yc, yt, co, pa, su, sc) mc ++ R) s.heap := hP
  have hD : va_D (zAb B) (zWT cI cJ h (n, L) (kt, km, kl) (pt, pm, pl) (nu, le, ow, fo, run, wc, lc, tr, cl, tm, ms) (yl, yc, yt, co, pa, su, sc) mc ++ R) := hD
  refine lv_iload_n hx hb dX4_open_0 rfl (lv_at hl 1 rfl) ?_
  refine lv_iconst (v := 1) hx hb dX4_open_1 (by decide) ?_
  refine lv_icmp_lt (tgt := 11) hx hb dX4_open_2 (by decide) (fun c_1 => ?_) (fun c_1 => ?_)
  · skip
    have c_1 : words < 1 := (nI_ltI (a := words) (b := 1) (by omega) (by omega)).mp c_1
    exfalso; first | omega | (revert c_1; decide) | (exact absurd rfl c_1) | simp_all
  · skip
    have c_1 : ¬ words < 1 := fun hh => c_1 ((nI_ltI (a := words) (b := 1) (by omega) (by omega)).mpr hh)
    refine lv_iload_n hx hb dX4_open_5 rfl (lv_at hl 1 rfl) ?_
    refine lv_bipush (v := 6) hx hb dX4_open_6 (by decide) ?_
    refine lv_icmp_le (tgt := 21) hx hb dX4_open_8 (by decide) (fun c_2 => ?_) (fun c_2 => ?_)
    · skip
      have c_2 : words ≤ 6 := (nI_leI (a := words) (b := 6) (by omega) (by omega)).mp c_2
      refine lv_aload_n hx hb dX4_open_21 rfl (lv_at hl 0 rfl) ?_
      refine va_get (ci := 4) (v := .ref (h 11)) (C := RX4) (T := TX4) (N := 6) hx hb hts hinX4 hown hK hP 0 rfl rfl 3 (by decide) (hts (.fieldLink RX4 31 "TypingTutor" "current" "LTypingTutor$Lesson;") (List.mem_of_getElem? (i := 5) rfl)) (fun _ h9 => h9) rfl dX4_open_22 ?_
      refine zci (zrV (As := []) (rest := []) ⟨hx, hb, hml, hown, hts⟩ (zV 11 hP hD hK hE hB hS rfl rfl) (c_X2_isRunning  ) (cwV 0 hts gX4_open_X2_isRunning rfl rfl rfl hdv_X2_isRunning ⟨Nat.le_of_ble_eq_true rfl, Nat.le_of_ble_eq_true rfl⟩) rfl rfl hl.1 rfl (lv_room (Nat.le_of_ble_eq_true rfl)) dX4_open_25 ⟨Nat.le_of_ble_eq_true rfl, Nat.le_of_ble_eq_true rfl⟩) hS (fun H locs hP hD hS => ?_)
      have hP : va_P D vwCl (zWT cI cJ h (n, L) (kt, km, kl) (pt, pm, pl) (nu, le, ow, fo, run, wc, lc, tr, cl, tm, ms) (yl, yc, yt, co, pa, su, sc) mc ++ R) _ := hP
      have hD : va_D (zAb B) (zWT cI cJ h (n, L) (kt, km, kl) (pt, pm, pl) (nu, le, ow, fo, run, wc, lc, tr, cl, tm, ms) (yl, yc, yt, co, pa, su, sc) mc ++ R) := hD
      refine lv_if_ne (tgt := 41) hx hb dX4_open_28 (by decide) (fun c_3 => ?_) (fun c_3 => ?_)
      · skip
        have c_3 : run = true := zb_n c_3
        exact absurd (c_3.symm.trans hrun) (by decide)
      · skip
        have c_3 : run = false := zb_0 c_3
        refine lv_aload_n hx hb dX4_open_31 rfl (lv_at hl 0 rfl) ?_
        refine va_get (ci := 4) (v := .ref (h 1)) (C := RX4) (T := TX4) (N := 6) hx hb hts hinX4 hown hK hP 0 rfl rfl 0 (by decide) (hts (.fieldLink RX4 12 "TypingTutor" "list" "LTypingTutor$WordList;") (List.mem_of_getElem? (i := 6) rfl)) (fun _ h9 => h9) rfl dX4_open_32 ?_
        refine zci (zrV (As := []) (rest := []) ⟨hx, hb, hml, hown, hts⟩ (zV 1 hP hD hK hE hB hS rfl rfl) (c_X3_size  ) (cwV 0 hts gX4_open_X3_size rfl rfl rfl hdv_X3_size ⟨Nat.le_of_ble_eq_true rfl, Nat.le_of_ble_eq_true rfl⟩) rfl rfl hl.1 rfl (lv_room (Nat.le_of_ble_eq_true rfl)) dX4_open_35 ⟨Nat.le_of_ble_eq_true rfl, Nat.le_of_ble_eq_true rfl⟩) hS (fun H locs hP hD hS => ?_)
        have hP : va_P D vwCl (zWT cI cJ h (n, L) (kt, km, kl) (pt, pm, pl) (nu, le, ow, fo, run, wc, lc, tr, cl, tm, ms) (yl, yc, yt, co, pa, su, sc) mc ++ R) _ := hP
        have hD : va_D (zAb B) (zWT cI cJ h (n, L) (kt, km, kl) (pt, pm, pl) (nu, le, ow, fo, run, wc, lc, tr, cl, tm, ms) (yl, yc, yt, co, pa, su, sc) mc ++ R) := hD
        refine lv_if_ne (tgt := 51) hx hb dX4_open_38 (by decide) (fun c_4 => ?_) (fun c_4 => ?_)
        · skip
          have c_4 : ¬ n = 0 := fun hh => c_4 ((nI_eq (a := n) (b := 0) (by omega) (by omega)).mpr hh)
          refine lv_aload_n hx hb dX4_open_51 rfl (lv_at hl 0 rfl) ?_
          refine va_get (ci := 4) (v := .ref (h 11)) (C := RX4) (T := TX4) (N := 6) hx hb hts hinX4 hown hK hP 0 rfl rfl 3 (by decide) (hts (.fieldLink RX4 31 "TypingTutor" "current" "LTypingTutor$Lesson;") (List.mem_of_getElem? (i := 5) rfl)) (fun _ h9 => h9) rfl dX4_open_52 ?_
          refine zcv (zrV (As := []) (rest := []) ⟨hx, hb, hml, hown, hts⟩ (zV 11 hP hD hK hE hB hS rfl rfl) (c_X2_start  ) (cwV 0 hts gX4_open_X2_start rfl rfl rfl hdv_X2_start ⟨Nat.le_of_ble_eq_true rfl, Nat.le_of_ble_eq_true rfl⟩) rfl rfl hl.1 rfl (lv_room (Nat.le_of_ble_eq_true rfl)) dX4_open_55 ⟨Nat.le_of_ble_eq_true rfl, Nat.le_of_ble_eq_true rfl⟩) hS (fun H locs hP hD hS => ?_)
          have hP : va_P D vwCl (zWT cI cJ h (n, L) (kt, km, kl) (pt, pm, pl) (nu, le, ow, (zfil 26 0 fo), true, 0, 0, 0, 0, 0, 0) (yl, yc, yt, co, pa, su, sc) mc ++ R) _ := hP
          have hD : va_D (zAb B) (zWT cI cJ h (n, L) (kt, km, kl) (pt, pm, pl) (nu, le, ow, (zfil 26 0 fo), true, 0, 0, 0, 0, 0, 0) (yl, yc, yt, co, pa, su, sc) mc ++ R) := hD
          refine lv_iconst (v := 0) hx hb dX4_open_58 (by decide) ?_
          refine lv_istore_n (lv' := [(2, .int 0), (0, .ref (h 0)), (1, .int (nI words))]) hx hb dX4_open_59 rfl hl (by decide) rfl (fun ls hl => ?_)
          refine zloop (σ := (Nat)) (nL := 4) (fun x9 => (zWT cI cJ h (n, L) (kt, km, kl) (pt, pm, pl) ((zoT L n kl pt pl (nu, le, ow, zfil 26 0 fo, 0, 0) x9).1, (zoT L n kl pt pl (nu, le, ow, zfil 26 0 fo, 0, 0) x9).2.1, (zoT L n kl pt pl (nu, le, ow, zfil 26 0 fo, 0, 0) x9).2.2.1, (zoT L n kl pt pl (nu, le, ow, zfil 26 0 fo, 0, 0) x9).2.2.2.1, true, (zoT L n kl pt pl (nu, le, ow, zfil 26 0 fo, 0, 0) x9).2.2.2.2.1, (zoT L n kl pt pl (nu, le, ow, zfil 26 0 fo, 0, 0) x9).2.2.2.2.2, 0, 0, 0, 0) (yl, yc, yt, co, pa, su, sc) mc ++ R)) (fun x9 => [(2, .int (nI x9)), (0, .ref (h 0)), (1, .int (nI words))]) (fun x9 => []) (fun x9 => x9 ≤ words) (fun x9 => words - x9) ?_ (0) (by omega) _ _ _ hP hD hS (lv_sub hl [0, 1, 2] rfl)
          rintro j hI ih H locs ls hP hD hS hl
          try dsimp only at hI ih hP hD hS hl ⊢
          refine lv_iload_n hx hb dX4_open_60 rfl (lv_at hl 0 rfl) ?_
          refine lv_iload_n hx hb dX4_open_61 rfl (lv_at hl 2 rfl) ?_
          refine lv_icmp_ge (tgt := 100) hx hb dX4_open_62 (by decide) (fun c_5 => ?_) (fun c_5 => ?_)
          · skip
            have c_5 : words ≤ j := (nI_leI (a := words) (b := j) (by omega) (by omega)).mp c_5
            have e7 : (zoT L n kl pt pl (nu, le, ow, zfil 26 0 fo, 0, 0) j) = (zoT L n kl pt pl (nu, le, ow, zfil 26 0 fo, 0, 0) words) := by rw [show j = words from by omega]
            rw [e7] at hP hD
            refine lv_aload_n hx hb dX4_open_100 rfl (lv_at hl 1 rfl) ?_
            refine va_get (ci := 4) (v := .ref (h 11)) (C := RX4) (T := TX4) (N := 6) hx hb hts hinX4 hown hK hP 0 rfl rfl 3 (by decide) (hts (.fieldLink RX4 31 "TypingTutor" "current" "LTypingTutor$Lesson;") (List.mem_of_getElem? (i := 5) rfl)) (fun _ h9 => h9) rfl dX4_open_101 ?_
            refine zci (zrV (As := []) (rest := []) ⟨hx, hb, hml, hown, hts⟩ (zV 11 hP hD hK hE hB hS rfl rfl) (c_X2_wordTotal  ) (cwV 0 hts gX4_open_X2_wordTotal rfl rfl rfl hdv_X2_wordTotal ⟨Nat.le_of_ble_eq_true rfl, Nat.le_of_ble_eq_true rfl⟩) rfl rfl hl.1 rfl (lv_room (Nat.le_of_ble_eq_true rfl)) dX4_open_104 ⟨Nat.le_of_ble_eq_true rfl, Nat.le_of_ble_eq_true rfl⟩) hS (fun H locs hP hD hS => ?_)
            have hP : va_P D vwCl (zWT cI cJ h (n, L) (kt, km, kl) (pt, pm, pl) (((zoT L n kl pt pl (nu, le, ow, zfil 26 0 fo, 0, 0) words).1), ((zoT L n kl pt pl (nu, le, ow, zfil 26 0 fo, 0, 0) words).2.1), ((zoT L n kl pt pl (nu, le, ow, zfil 26 0 fo, 0, 0) words).2.2.1), ((zoT L n kl pt pl (nu, le, ow, zfil 26 0 fo, 0, 0) words).2.2.2.1), true, ((zoT L n kl pt pl (nu, le, ow, zfil 26 0 fo, 0, 0) words).2.2.2.2.1), ((zoT L n kl pt pl (nu, le, ow, zfil 26 0 fo, 0, 0) words).2.2.2.2.2), 0, 0, 0, 0) (yl, yc, yt, co, pa, su, sc) mc ++ R) _ := hP
            have hD : va_D (zAb B) (zWT cI cJ h (n, L) (kt, km, kl) (pt, pm, pl) (((zoT L n kl pt pl (nu, le, ow, zfil 26 0 fo, 0, 0) words).1), ((zoT L n kl pt pl (nu, le, ow, zfil 26 0 fo, 0, 0) words).2.1), ((zoT L n kl pt pl (nu, le, ow, zfil 26 0 fo, 0, 0) words).2.2.1), ((zoT L n kl pt pl (nu, le, ow, zfil 26 0 fo, 0, 0) words).2.2.2.1), true, ((zoT L n kl pt pl (nu, le, ow, zfil 26 0 fo, 0, 0) words).2.2.2.2.1), ((zoT L n kl pt pl (nu, le, ow, zfil 26 0 fo, 0, 0) words).2.2.2.2.2), 0, 0, 0, 0) (yl, yc, yt, co, pa, su, sc) mc ++ R) := hD
            exact W.iret (v := (nI ((zoT L n kl pt pl (nu, le, ow, zfil 26 0 fo, 0, 0) words).2.2.2.2.1))) hx hb hr (fun t ht hW => ⟨⟨_, (), rfl, rfl, by rw [ht]; exact hP, hD⟩, hS.F ht⟩) hS.2.2 dX4_open_107
          · skip
            have c_5 : ¬ words ≤ j := fun hh => c_5 ((nI_leI (a := words) (b := j) (by omega) (by omega)).mpr hh)
            refine lv_aload_n hx hb dX4_open_65 rfl (lv_at hl 1 rfl) ?_
            refine zci (zrV (As := []) (rest := []) ⟨hx, hb, hml, hown, hts⟩ (zV 0 hP hD hK hE hB hS rfl rfl) (c_X4_weakestWordLeft  (by omega) (by have : (zoT L n kl pt pl (nu, le, ow, zfil 26 0 fo, 0, 0) j).2.2.2.2.1 ≤ 0 + j := zoT_wc j; omega) (hL)) (cwV 0 hts gX4_open_X4_weakestWordLeft rfl rfl rfl hdv_X4_weakestWordLeft ⟨Nat.le_of_ble_eq_true rfl, Nat.le_of_ble_eq_true rfl⟩) rfl rfl hl.1 rfl (lv_room (Nat.le_of_ble_eq_true rfl)) dX4_open_66 ⟨Nat.le_of_ble_eq_true rfl, Nat.le_of_ble_eq_true rfl⟩) hS (fun H locs hP hD hS => ?_)
            have hP : va_P D vwCl (zWT cI cJ h (n, L) (kt, km, kl) (pt, pm, pl) (((zoT L n kl pt pl (nu, le, ow, zfil 26 0 fo, 0, 0) j).1), ((zoT L n kl pt pl (nu, le, ow, zfil 26 0 fo, 0, 0) j).2.1), ((zoT L n kl pt pl (nu, le, ow, zfil 26 0 fo, 0, 0) j).2.2.1), ((zoT L n kl pt pl (nu, le, ow, zfil 26 0 fo, 0, 0) j).2.2.2.1), true, ((zoT L n kl pt pl (nu, le, ow, zfil 26 0 fo, 0, 0) j).2.2.2.2.1), ((zoT L n kl pt pl (nu, le, ow, zfil 26 0 fo, 0, 0) j).2.2.2.2.2), 0, 0, 0, 0) (yl, yc, yt, co, pa, su, sc) mc ++ R) _ := hP
            have hD : va_D (zAb B) (zWT cI cJ h (n, L) (kt, km, kl) (pt, pm, pl) (((zoT L n kl pt pl (nu, le, ow, zfil 26 0 fo, 0, 0) j).1), ((zoT L n kl pt pl (nu, le, ow, zfil 26 0 fo, 0, 0) j).2.1), ((zoT L n kl pt pl (nu, le, ow, zfil 26 0 fo, 0, 0) j).2.2.1), ((zoT L n kl pt pl (nu, le, ow, zfil 26 0 fo, 0, 0) j).2.2.2.1), true, ((zoT L n kl pt pl (nu, le, ow, zfil 26 0 fo, 0, 0) j).2.2.2.2.1), ((zoT L n kl pt pl (nu, le, ow, zfil 26 0 fo, 0, 0) j).2.2.2.2.2), 0, 0, 0, 0) (yl, yc, yt, co, pa, su, sc) mc ++ R) := hD
            obtain ⟨v9, hv9⟩ : ∃ v9, v9 = zpT L n kl pt pl (zoT L n kl pt pl (nu, le, ow, zfil 26 0 fo, 0, 0) j) := ⟨_, rfl⟩
            rw [show (zpk (fun k => zhw (zoT L n kl pt pl (nu, le, ow, zfil 26 0 fo, 0, 0) j).1 (nI k) (zoT L n kl pt pl (nu, le, ow, zfil 26 0 fo, 0, 0) j).2.2.2.2.1) (fun k => zwl (zfh (zoT L n kl pt pl (nu, le, ow, zfil 26 0 fo, 0, 0) j).2.2.2.1) kl pt pl (L k)) n).1 = v9 from hv9.symm]
            refine lv_istore_n (lv' := [(3, .int v9), (2, .int (nI j)), (0, .ref (h 0)), (1, .int (nI words))]) hx hb dX4_open_69 rfl hl (by decide) rfl (fun ls hl => ?_)
            refine lv_iload_n hx hb dX4_open_70 rfl (lv_at hl 0 rfl) ?_
            refine lv_iconst (v := (-1)) hx hb dX4_open_71 (by decide) ?_
            refine lv_icmp_ne (tgt := 78) hx hb dX4_open_72 (by decide) (fun c_6 => ?_) (fun c_6 => ?_)
            · skip
              obtain ⟨k9, hk9, hc9, e9⟩ := (zpk_in (fun k => zhw (zoT L n kl pt pl (nu, le, ow, zfil 26 0 fo, 0, 0) j).1 (nI k) (zoT L n kl pt pl (nu, le, ow, zfil 26 0 fo, 0, 0) j).2.2.2.2.1) (fun k => zwl (zfh (zoT L n kl pt pl (nu, le, ow, zfil 26 0 fo, 0, 0) j).2.2.2.1) kl pt pl (L k)) n).resolve_left (fun q => c_6 (hv9.trans q))
              obtain rfl : nI k9 = v9 := (hv9.trans e9).symm
              refine lv_aload_n hx hb dX4_open_78 rfl (lv_at hl 2 rfl) ?_
              refine va_get (ci := 4) (v := .ref (h 11)) (C := RX4) (T := TX4) (N := 6) hx hb hts hinX4 hown hK hP 0 rfl rfl 3 (by decide) (hts (.fieldLink RX4 31 "TypingTutor" "current" "LTypingTutor$Lesson;") (List.mem_of_getElem? (i := 5) rfl)) (fun _ h9 => h9) rfl dX4_open_79 ?_
              refine lv_iload_n hx hb dX4_open_82 rfl (lv_at hl 0 rfl) ?_
              refine lv_aload_n hx hb dX4_open_83 rfl (lv_at hl 2 rfl) ?_
              refine va_get (ci := 4) (v := .ref (h 1)) (C := RX4) (T := TX4) (N := 6) hx hb hts hinX4 hown hK hP 0 rfl rfl 0 (by decide) (hts (.fieldLink RX4 12 "TypingTutor" "list" "LTypingTutor$WordList;") (List.mem_of_getElem? (i := 6) rfl)) (fun _ h9 => h9) rfl dX4_open_84 ?_
              refine lv_iload_n hx hb dX4_open_87 rfl (lv_at hl 0 rfl) ?_
              refine zcl (zrV (As := [.int (nI k9)]) (rest := [.int (nI k9), .ref (h 11)]) ⟨hx, hb, hml, hown, hts⟩ (zV 1 hP hD hK hE hB hS rfl rfl) (c_X3_wordAt (k := k9) (by omega)) (cwV 1 hts gX4_open_X3_wordAt rfl rfl rfl hdv_X3_wordAt ⟨Nat.le_of_ble_eq_true rfl, Nat.le_of_ble_eq_true rfl⟩) rfl rfl hl.1 rfl (lv_room (Nat.le_of_ble_eq_true rfl)) dX4_open_88 ⟨Nat.le_of_ble_eq_true rfl, Nat.le_of_ble_eq_true rfl⟩) hS (fun H locs hP hD hS => ?_)
              have hP : va_P D vwCl (zWT cI cJ h (n, L) (kt, km, kl) (pt, pm, pl) (((zoT L n kl pt pl (nu, le, ow, zfil 26 0 fo, 0, 0) j).1), ((zoT L n kl pt pl (nu, le, ow, zfil 26 0 fo, 0, 0) j).2.1), ((zoT L n kl pt pl (nu, le, ow, zfil 26 0 fo, 0, 0) j).2.2.1), ((zoT L n kl pt pl (nu, le, ow, zfil 26 0 fo, 0, 0) j).2.2.2.1), true, ((zoT L n kl pt pl (nu, le, ow, zfil 26 0 fo, 0, 0) j).2.2.2.2.1), ((zoT L n kl pt pl (nu, le, ow, zfil 26 0 fo, 0, 0) j).2.2.2.2.2), 0, 0, 0, 0) (yl, yc, yt, co, pa, su, sc) mc ++ R) _ := hP
              have hD : va_D (zAb B) (zWT cI cJ h (n, L) (kt, km, kl) (pt, pm, pl) (((zoT L n kl pt pl (nu, le, ow, zfil 26 0 fo, 0, 0) j).1), ((zoT L n kl pt pl (nu, le, ow, zfil 26 0 fo, 0, 0) j).2.1), ((zoT L n kl pt pl (nu, le, ow, zfil 26 0 fo, 0, 0) j).2.2.1), ((zoT L n kl pt pl (nu, le, ow, zfil 26 0 fo, 0, 0) j).2.2.2.1), true, ((zoT L n kl pt pl (nu, le, ow, zfil 26 0 fo, 0, 0) j).2.2.2.2.1), ((zoT L n kl pt pl (nu, le, ow, zfil 26 0 fo, 0, 0) j).2.2.2.2.2), 0, 0, 0, 0) (yl, yc, yt, co, pa, su, sc) mc ++ R) := hD
              refine zcv (zrV (As := [.int (nI k9), .long (L k9)]) (rest := []) ⟨hx, hb, hml, hown, hts⟩ (zV 11 hP hD hK hE hB hS rfl rfl) (c_X2_append  (by have : (zoT L n kl pt pl (nu, le, ow, zfil 26 0 fo, 0, 0) j).2.2.2.2.1 ≤ 0 + j := zoT_wc j; omega) (by have h91 := zoT_lc (L := L) (n := n) (kl := kl) (pt := pt) (pl := pl) (s := (nu, le, ow, zfil 26 0 fo, 0, 0)) (hs := Nat.le_refl 0) j; have h92 : (zoT L n kl pt pl (nu, le, ow, zfil 26 0 fo, 0, 0) j).2.2.2.2.1 ≤ 0 + j := zoT_wc j; have h93 := zsz_le (L k9); omega)) (cwV 2 hts gX4_open_X2_append rfl rfl rfl hdv_X2_append ⟨Nat.le_of_ble_eq_true rfl, Nat.le_of_ble_eq_true rfl⟩) rfl rfl hl.1 rfl (lv_room (Nat.le_of_ble_eq_true rfl)) dX4_open_91 ⟨Nat.le_of_ble_eq_true rfl, Nat.le_of_ble_eq_true rfl⟩) hS (fun H locs hP hD hS => ?_)
              have hP : va_P D vwCl (zWT cI cJ h (n, L) (kt, km, kl) (pt, pm, pl) ((upd ((zoT L n kl pt pl (nu, le, ow, zfil 26 0 fo, 0, 0) j).1) ((zoT L n kl pt pl (nu, le, ow, zfil 26 0 fo, 0, 0) j).2.2.2.2.1) (nI k9)), (zale ((zoT L n kl pt pl (nu, le, ow, zfil 26 0 fo, 0, 0) j).2.1) ((zoT L n kl pt pl (nu, le, ow, zfil 26 0 fo, 0, 0) j).2.2.2.2.2) (L k9) (zsz (L k9))), (zaow ((zoT L n kl pt pl (nu, le, ow, zfil 26 0 fo, 0, 0) j).2.2.1) ((zoT L n kl pt pl (nu, le, ow, zfil 26 0 fo, 0, 0) j).2.2.2.2.2) ((zoT L n kl pt pl (nu, le, ow, zfil 26 0 fo, 0, 0) j).2.2.2.2.1) (zsz (L k9))), (zafo ((zoT L n kl pt pl (nu, le, ow, zfil 26 0 fo, 0, 0) j).2.2.2.1) (L k9) (zsz (L k9))), true, (((zoT L n kl pt pl (nu, le, ow, zfil 26 0 fo, 0, 0) j).2.2.2.2.1) + 1), (((zoT L n kl pt pl (nu, le, ow, zfil 26 0 fo, 0, 0) j).2.2.2.2.2) + zsz (L k9)), 0, 0, 0, 0) (yl, yc, yt, co, pa, su, sc) mc ++ R) _ := hP
              have hD : va_D (zAb B) (zWT cI cJ h (n, L) (kt, km, kl) (pt, pm, pl) ((upd ((zoT L n kl pt pl (nu, le, ow, zfil 26 0 fo, 0, 0) j).1) ((zoT L n kl pt pl (nu, le, ow, zfil 26 0 fo, 0, 0) j).2.2.2.2.1) (nI k9)), (zale ((zoT L n kl pt pl (nu, le, ow, zfil 26 0 fo, 0, 0) j).2.1) ((zoT L n kl pt pl (nu, le, ow, zfil 26 0 fo, 0, 0) j).2.2.2.2.2) (L k9) (zsz (L k9))), (zaow ((zoT L n kl pt pl (nu, le, ow, zfil 26 0 fo, 0, 0) j).2.2.1) ((zoT L n kl pt pl (nu, le, ow, zfil 26 0 fo, 0, 0) j).2.2.2.2.2) ((zoT L n kl pt pl (nu, le, ow, zfil 26 0 fo, 0, 0) j).2.2.2.2.1) (zsz (L k9))), (zafo ((zoT L n kl pt pl (nu, le, ow, zfil 26 0 fo, 0, 0) j).2.2.2.1) (L k9) (zsz (L k9))), true, (((zoT L n kl pt pl (nu, le, ow, zfil 26 0 fo, 0, 0) j).2.2.2.2.1) + 1), (((zoT L n kl pt pl (nu, le, ow, zfil 26 0 fo, 0, 0) j).2.2.2.2.2) + zsz (L k9)), 0, 0, 0, 0) (yl, yc, yt, co, pa, su, sc) mc ++ R) := hD
              refine lv_iinc (v := (nI (j + 1))) (lv' := [(2, .int (nI (j + 1))), (3, .int (nI k9)), (0, .ref (h 0)), (1, .int (nI words))]) hx hb dX4_open_94 hl (k := 1) rfl (nI_add j 1) (by decide) rfl (fun ls hl => ?_)
              refine lv_goto (tgt := 60) hx hb dX4_open_97 (by decide) ?_
              have e8 : (zoT L n kl pt pl (nu, le, ow, zfil 26 0 fo, 0, 0) (j + 1)) = zap (zoT L n kl pt pl (nu, le, ow, zfil 26 0 fo, 0, 0) j) (nI k9) (L k9) := zoT_step (by omega) hv9.symm
              have hP : va_P D vwCl (zWT cI cJ h (n, L) (kt, km, kl) (pt, pm, pl) (((zoT L n kl pt pl (nu, le, ow, zfil 26 0 fo, 0, 0) (j + 1)).1), ((zoT L n kl pt pl (nu, le, ow, zfil 26 0 fo, 0, 0) (j + 1)).2.1), ((zoT L n kl pt pl (nu, le, ow, zfil 26 0 fo, 0, 0) (j + 1)).2.2.1), ((zoT L n kl pt pl (nu, le, ow, zfil 26 0 fo, 0, 0) (j + 1)).2.2.2.1), true, ((zoT L n kl pt pl (nu, le, ow, zfil 26 0 fo, 0, 0) (j + 1)).2.2.2.2.1), ((zoT L n kl pt pl (nu, le, ow, zfil 26 0 fo, 0, 0) (j + 1)).2.2.2.2.2), 0, 0, 0, 0) (yl, yc, yt, co, pa, su, sc) mc ++ R) H := by rw [e8]; exact hP
              have hD : va_D (zAb B) (zWT cI cJ h (n, L) (kt, km, kl) (pt, pm, pl) (((zoT L n kl pt pl (nu, le, ow, zfil 26 0 fo, 0, 0) (j + 1)).1), ((zoT L n kl pt pl (nu, le, ow, zfil 26 0 fo, 0, 0) (j + 1)).2.1), ((zoT L n kl pt pl (nu, le, ow, zfil 26 0 fo, 0, 0) (j + 1)).2.2.1), ((zoT L n kl pt pl (nu, le, ow, zfil 26 0 fo, 0, 0) (j + 1)).2.2.2.1), true, ((zoT L n kl pt pl (nu, le, ow, zfil 26 0 fo, 0, 0) (j + 1)).2.2.2.2.1), ((zoT L n kl pt pl (nu, le, ow, zfil 26 0 fo, 0, 0) (j + 1)).2.2.2.2.2), 0, 0, 0, 0) (yl, yc, yt, co, pa, su, sc) mc ++ R) := by rw [e8]; exact hD
              exact ih (j + 1) (by omega) (by omega) _ _ _ hP hD hS (lv_sub hl [0, 2, 3] rfl)
            · skip
              refine lv_goto (tgt := 100) hx hb dX4_open_75 (by decide) ?_
              have e7 : (zoT L n kl pt pl (nu, le, ow, zfil 26 0 fo, 0, 0) j) = (zoT L n kl pt pl (nu, le, ow, zfil 26 0 fo, 0, 0) words) := by have e6 := zoT_stop (L := L) (n := n) (kl := kl) (pt := pt) (pl := pl) (s := (nu, le, ow, zfil 26 0 fo, 0, 0)) (j := j) (hv9.symm.trans c_6) (words - j); rw [show j + (words - j) = words from by omega] at e6; exact e6.symm
              rw [e7] at hP hD
              refine lv_aload_n hx hb dX4_open_100 rfl (lv_at hl 2 rfl) ?_
              refine va_get (ci := 4) (v := .ref (h 11)) (C := RX4) (T := TX4) (N := 6) hx hb hts hinX4 hown hK hP 0 rfl rfl 3 (by decide) (hts (.fieldLink RX4 31 "TypingTutor" "current" "LTypingTutor$Lesson;") (List.mem_of_getElem? (i := 5) rfl)) (fun _ h9 => h9) rfl dX4_open_101 ?_
              refine zci (zrV (As := []) (rest := []) ⟨hx, hb, hml, hown, hts⟩ (zV 11 hP hD hK hE hB hS rfl rfl) (c_X2_wordTotal  ) (cwV 0 hts gX4_open_X2_wordTotal rfl rfl rfl hdv_X2_wordTotal ⟨Nat.le_of_ble_eq_true rfl, Nat.le_of_ble_eq_true rfl⟩) rfl rfl hl.1 rfl (lv_room (Nat.le_of_ble_eq_true rfl)) dX4_open_104 ⟨Nat.le_of_ble_eq_true rfl, Nat.le_of_ble_eq_true rfl⟩) hS (fun H locs hP hD hS => ?_)
              have hP : va_P D vwCl (zWT cI cJ h (n, L) (kt, km, kl) (pt, pm, pl) (((zoT L n kl pt pl (nu, le, ow, zfil 26 0 fo, 0, 0) words).1), ((zoT L n kl pt pl (nu, le, ow, zfil 26 0 fo, 0, 0) words).2.1), ((zoT L n kl pt pl (nu, le, ow, zfil 26 0 fo, 0, 0) words).2.2.1), ((zoT L n kl pt pl (nu, le, ow, zfil 26 0 fo, 0, 0) words).2.2.2.1), true, ((zoT L n kl pt pl (nu, le, ow, zfil 26 0 fo, 0, 0) words).2.2.2.2.1), ((zoT L n kl pt pl (nu, le, ow, zfil 26 0 fo, 0, 0) words).2.2.2.2.2), 0, 0, 0, 0) (yl, yc, yt, co, pa, su, sc) mc ++ R) _ := hP
              have hD : va_D (zAb B) (zWT cI cJ h (n, L) (kt, km, kl) (pt, pm, pl) (((zoT L n kl pt pl (nu, le, ow, zfil 26 0 fo, 0, 0) words).1), ((zoT L n kl pt pl (nu, le, ow, zfil 26 0 fo, 0, 0) words).2.1), ((zoT L n kl pt pl (nu, le, ow, zfil 26 0 fo, 0, 0) words).2.2.1), ((zoT L n kl pt pl (nu, le, ow, zfil 26 0 fo, 0, 0) words).2.2.2.1), true, ((zoT L n kl pt pl (nu, le, ow, zfil 26 0 fo, 0, 0) words).2.2.2.2.1), ((zoT L n kl pt pl (nu, le, ow, zfil 26 0 fo, 0, 0) words).2.2.2.2.2), 0, 0, 0, 0) (yl, yc, yt, co, pa, su, sc) mc ++ R) := hD
              exact W.iret (v := (nI ((zoT L n kl pt pl (nu, le, ow, zfil 26 0 fo, 0, 0) words).2.2.2.2.1))) hx hb hr (fun t ht hW => ⟨⟨_, (), rfl, rfl, by rw [ht]; exact hP, hD⟩, hS.F ht⟩) hS.2.2 dX4_open_107
        · skip
          have c_4 : n = 0 := (nI_eq (a := n) (b := 0) (by omega) (by omega)).mp c_4
          omega
    · skip
      have c_2 : ¬ words ≤ 6 := fun hh => c_2 ((nI_leI (a := words) (b := 6) (by omega) (by omega)).mpr hh)
      exfalso; first | omega | (revert c_2; decide) | (exact absurd rfl c_2) | simp_all

set_option maxHeartbeats 1000000 in
set_option maxRecDepth 100000 in
theorem c_X4_open_x1 {l : Launch} {B kr kp : Nat} {D : va_G} {cI cJ cZ : ClassId} {h : Nat → Nat} {R : va_W} {n : Nat} {L : Nat → Int64} {kt : Nat → Int32} {km : Nat → Int32} {kl : Nat → Int32} {pt : Nat → Int32} {pm : Nat → Int32} {pl : Nat → Int32} {nu : Nat → Int32} {le : Nat → Int32} {ow : Nat → Int32} {fo : Nat → Int32} {run : Bool} {wc : Nat} {lc : Nat} {tr : Nat} {cl : Nat} {tm : Nat} {ms : Nat} {yl : Nat → Int32} {yc : Nat → Int32} {yt : Nat → Int32} {co : Nat} {pa : Int32} {su : Nat} {sc : Nat} {mc : Nat → Int32} {i : Int32}   (hls : l.stackTraces = false) (hi : i < 1 ∨ ¬ i ≤ 6) : vx_Met l yX4_open wsX4_open ({ frames := 6, cells := 1, slots := 6, locals := 82 }) (zPc B kr kp D (zTy cI cJ cZ) (zWT cI cJ h (n, L) (kt, km, kl) (pt, pm, pl) (nu, le, ow, fo, run, wc, lc, tr, cl, tm, ms) (yl, yc, yt, co, pa, su, sc) mc ++ R) [.ref (h 0), .int i]) (zQxi B D (zWT cI cJ h (n, L) (kt, km, kl) (pt, pm, pl) (nu, le, ow, fo, run, wc, lc, tr, cl, tm, ms) (yl, yc, yt, co, pa, su, sc) mc ++ R)) (zXC "java/lang/IllegalArgumentException" B D (zWT cI cJ h (n, L) (kt, km, kl) (pt, pm, pl) (nu, le, ow, fo, run, wc, lc, tr, cl, tm, ms) (yl, yc, yt, co, pa, su, sc) mc ++ R)) 1 6 (zAb B) := by
  refine vx_ofW (cc := cX4_open) (maxL := 4) (ret := (some .int)) (by decide) rfl ?_
  intro p e s m args below meth c s₁ B0 hml ht9 hv
  obtain ⟨rfl, hP, hD, hK, hE, hB⟩ := hv
  have hx := B0.exec
  have hb := B0.bytes
  have hr := B0.returns
  have hts := atoms_spec (ws := wsX4_open) B0.pre
  have hown : s.vm.findClass RX4 = some m.cls := findClass_of_methodNamed B0.named
  have hlocks := B0.notSynchronized
  have hA : ∀ q : Nat, s.heap.size ≤ q → zAb B q := fun q hq => Nat.le_trans hB hq
  have hS : va_S (zAb B) s.heap s.heap [] := va_S.rf
  have hgr : s.heap.size ≤ s.heap.size := Nat.le_refl _
  have hl := lv_entry ([.ref (h 0), .int i]) (n := 4) (Nat.le_of_ble_eq_true rfl)
  rw [lg_entry_eq]
  generalize (lg_sl ([.ref (h 0), .int i]) ++ List.replicate (4 - (lg_sl ([.ref (h 0), .int i])).length) Slot.unset).toArray = ls at hl ⊢
  have hl : lv_has ls 4 [(0, .ref (h 0)), (1, .int i)] := hl
  have hP : va_P D vwCl (zWT cI cJ h (n, L) (kt, km, kl) (pt, pm, pl) (nu, le, ow, fo, run, wc, lc, tr, cl, tm, ms) (yl, yc, yt, co, pa, su, sc) mc ++ R) s.heap := hP
  have hD : va_D (zAb B) (zWT cI cJ h (n, L) (kt, km, kl) (pt, pm, pl) (nu, le, ow, fo, run, wc, lc, tr, cl, tm, ms) (yl, yc, yt, co, pa, su, sc) mc ++ R) := hD
  refine lv_iload_n hx hb dX4_open_0 rfl (lv_at hl 1 rfl) ?_
  refine lv_iconst (v := 1) hx hb dX4_open_1 (by decide) ?_
  refine lv_icmp_lt (tgt := 11) hx hb dX4_open_2 (by decide) (fun c_1 => ?_) (fun c_1 => ?_)
  · skip
    exact zthrow hx hb hls hown hE hP hD hS (hl.1.trans hml.symm) ht9 hlocks (by decide +kernel) (List.mem_of_getElem? (i := 4) rfl) (by decide +kernel) (hts (.classLink RX4 50 "java/lang/IllegalArgumentException") (List.mem_of_getElem? (i := 1) rfl)) (hts (.initialized "java/lang/IllegalArgumentException") (List.mem_of_getElem? (i := 2) rfl)) (fun w h9 => hts w (List.mem_cons_of_mem _ (List.mem_append_left _ (List.mem_append_right _ h9)))) (by decide +kernel) (by decide +kernel) dX4_open_11 dX4_open_14 dX4_open_15 dX4_open_17 dX4_open_20 ⟨Nat.le_of_ble_eq_true rfl, Nat.le_of_ble_eq_true rfl, Nat.le_of_ble_eq_true rfl, Nat.le_of_ble_eq_true rfl⟩
  · skip
    refine lv_iload_n hx hb dX4_open_5 rfl (lv_at hl 1 rfl) ?_
    refine lv_bipush (v := 6) hx hb dX4_open_6 (by decide) ?_
    refine lv_icmp_le (tgt := 21) hx hb dX4_open_8 (by decide) (fun c_2 => ?_) (fun c_2 => ?_)
    · skip
      exact hi.elim (fun q => absurd q c_1) (fun q => absurd c_2 q)
    · skip
      exact zthrow hx hb hls hown hE hP hD hS (hl.1.trans hml.symm) ht9 hlocks (by decide +kernel) (List.mem_of_getElem? (i := 4) rfl) (by decide +kernel) (hts (.classLink RX4 50 "java/lang/IllegalArgumentException") (List.mem_of_getElem? (i := 1) rfl)) (hts (.initialized "java/lang/IllegalArgumentException") (List.mem_of_getElem? (i := 2) rfl)) (fun w h9 => hts w (List.mem_cons_of_mem _ (List.mem_append_left _ (List.mem_append_right _ h9)))) (by decide +kernel) (by decide +kernel) dX4_open_11 dX4_open_14 dX4_open_15 dX4_open_17 dX4_open_20 ⟨Nat.le_of_ble_eq_true rfl, Nat.le_of_ble_eq_true rfl, Nat.le_of_ble_eq_true rfl, Nat.le_of_ble_eq_true rfl⟩

set_option maxHeartbeats 1000000 in
set_option maxRecDepth 100000 in
theorem c_X4_open_x2 {l : Launch} {B kr kp : Nat} {D : va_G} {cI cJ cZ : ClassId} {h : Nat → Nat} {R : va_W} {n : Nat} {L : Nat → Int64} {kt : Nat → Int32} {km : Nat → Int32} {kl : Nat → Int32} {pt : Nat → Int32} {pm : Nat → Int32} {pl : Nat → Int32} {nu : Nat → Int32} {le : Nat → Int32} {ow : Nat → Int32} {fo : Nat → Int32} {run : Bool} {wc : Nat} {lc : Nat} {tr : Nat} {cl : Nat} {tm : Nat} {ms : Nat} {yl : Nat → Int32} {yc : Nat → Int32} {yt : Nat → Int32} {co : Nat} {pa : Int32} {su : Nat} {sc : Nat} {mc : Nat → Int32} {i : Int32}   (hls : l.stackTraces = false) (hi1 : ¬ i < 1) (hi6 : i ≤ 6) (hf : run = true ∨ n = 0) (hn : n ≤ 40) : vx_Met l yX4_open wsX4_open ({ frames := 6, cells := 1, slots := 6, locals := 82 }) (zPc B kr kp D (zTy cI cJ cZ) (zWT cI cJ h (n, L) (kt, km, kl) (pt, pm, pl) (nu, le, ow, fo, run, wc, lc, tr, cl, tm, ms) (yl, yc, yt, co, pa, su, sc) mc ++ R) [.ref (h 0), .int i]) (zQxi B D (zWT cI cJ h (n, L) (kt, km, kl) (pt, pm, pl) (nu, le, ow, fo, run, wc, lc, tr, cl, tm, ms) (yl, yc, yt, co, pa, su, sc) mc ++ R)) (zXC "java/lang/IllegalStateException" B D (zWT cI cJ h (n, L) (kt, km, kl) (pt, pm, pl) (nu, le, ow, fo, run, wc, lc, tr, cl, tm, ms) (yl, yc, yt, co, pa, su, sc) mc ++ R)) 1 6 (zAb B) := by
  refine vx_ofW (cc := cX4_open) (maxL := 4) (ret := (some .int)) (by decide) rfl ?_
  intro p e s m args below meth c s₁ B0 hml ht9 hv
  obtain ⟨rfl, hP, hD, hK, hE, hB⟩ := hv
  have hx := B0.exec
  have hb := B0.bytes
  have hr := B0.returns
  have hts := atoms_spec (ws := wsX4_open) B0.pre
  have hown : s.vm.findClass RX4 = some m.cls := findClass_of_methodNamed B0.named
  have hlocks := B0.notSynchronized
  have hA : ∀ q : Nat, s.heap.size ≤ q → zAb B q := fun q hq => Nat.le_trans hB hq
  have hS : va_S (zAb B) s.heap s.heap [] := va_S.rf
  have hgr : s.heap.size ≤ s.heap.size := Nat.le_refl _
  have hl := lv_entry ([.ref (h 0), .int i]) (n := 4) (Nat.le_of_ble_eq_true rfl)
  rw [lg_entry_eq]
  generalize (lg_sl ([.ref (h 0), .int i]) ++ List.replicate (4 - (lg_sl ([.ref (h 0), .int i])).length) Slot.unset).toArray = ls at hl ⊢
  have hl : lv_has ls 4 [(0, .ref (h 0)), (1, .int i)] := hl
  have hinX4 : ∀ w ∈ wsX40, w ∈ wsX4_open := fun _ h => List.mem_cons_of_mem _ (List.mem_append_left _ (List.mem_append_left _ (List.mem_append_left _ (List.mem_append_left _ (List.mem_append_left _ (List.mem_append_right _ h))))))
  have hP : va_P D vwCl (zWT cI cJ h (n, L) (kt, km, kl) (pt, pm, pl) (nu, le, ow, fo, run, wc, lc, tr, cl, tm, ms) (yl, yc, yt, co, pa, su, sc) mc ++ R) s.heap := hP
  have hD : va_D (zAb B) (zWT cI cJ h (n, L) (kt, km, kl) (pt, pm, pl) (nu, le, ow, fo, run, wc, lc, tr, cl, tm, ms) (yl, yc, yt, co, pa, su, sc) mc ++ R) := hD
  refine lv_iload_n hx hb dX4_open_0 rfl (lv_at hl 1 rfl) ?_
  refine lv_iconst (v := 1) hx hb dX4_open_1 (by decide) ?_
  refine lv_icmp_lt (tgt := 11) hx hb dX4_open_2 (by decide) (fun c_1 => ?_) (fun c_1 => ?_)
  · skip
    exact absurd c_1 hi1
  · skip
    refine lv_iload_n hx hb dX4_open_5 rfl (lv_at hl 1 rfl) ?_
    refine lv_bipush (v := 6) hx hb dX4_open_6 (by decide) ?_
    refine lv_icmp_le (tgt := 21) hx hb dX4_open_8 (by decide) (fun c_2 => ?_) (fun c_2 => ?_)
    · skip
      refine lv_aload_n hx hb dX4_open_21 rfl (lv_at hl 0 rfl) ?_
      refine va_get (ci := 4) (v := .ref (h 11)) (C := RX4) (T := TX4) (N := 6) hx hb hts hinX4 hown hK hP 0 rfl rfl 3 (by decide) (hts (.fieldLink RX4 31 "TypingTutor" "current" "LTypingTutor$Lesson;") (List.mem_of_getElem? (i := 5) rfl)) (fun _ h9 => h9) rfl dX4_open_22 ?_
      refine zci (zrV (As := []) (rest := []) ⟨hx, hb, hml, hown, hts⟩ (zV 11 hP hD hK hE hB hS rfl rfl) (c_X2_isRunning  ) (cwV 0 hts gX4_open_X2_isRunning rfl rfl rfl hdv_X2_isRunning ⟨Nat.le_of_ble_eq_true rfl, Nat.le_of_ble_eq_true rfl⟩) rfl rfl hl.1 rfl (lv_room (Nat.le_of_ble_eq_true rfl)) dX4_open_25 ⟨Nat.le_of_ble_eq_true rfl, Nat.le_of_ble_eq_true rfl⟩) hS (fun H locs hP hD hS => ?_)
      have hP : va_P D vwCl (zWT cI cJ h (n, L) (kt, km, kl) (pt, pm, pl) (nu, le, ow, fo, run, wc, lc, tr, cl, tm, ms) (yl, yc, yt, co, pa, su, sc) mc ++ R) _ := hP
      have hD : va_D (zAb B) (zWT cI cJ h (n, L) (kt, km, kl) (pt, pm, pl) (nu, le, ow, fo, run, wc, lc, tr, cl, tm, ms) (yl, yc, yt, co, pa, su, sc) mc ++ R) := hD
      refine lv_if_ne (tgt := 41) hx hb dX4_open_28 (by decide) (fun c_3 => ?_) (fun c_3 => ?_)
      · skip
        have c_3 : run = true := zb_n c_3
        exact zthrow hx hb hls hown hE hP hD hS (hl.1.trans hml.symm) ht9 hlocks (by decide +kernel) (List.mem_of_getElem? (i := 5) rfl) (by decide +kernel) (hts (.classLink RX4 64 "java/lang/IllegalStateException") (List.mem_of_getElem? (i := 3) rfl)) (hts (.initialized "java/lang/IllegalStateException") (List.mem_of_getElem? (i := 4) rfl)) (fun w h9 => hts w (List.mem_cons_of_mem _ (List.mem_append_right _ h9))) (by decide +kernel) (by decide +kernel) dX4_open_41 dX4_open_44 dX4_open_45 dX4_open_47 dX4_open_50 ⟨Nat.le_of_ble_eq_true rfl, Nat.le_of_ble_eq_true rfl, Nat.le_of_ble_eq_true rfl, Nat.le_of_ble_eq_true rfl⟩
      · skip
        have c_3 : run = false := zb_0 c_3
        refine lv_aload_n hx hb dX4_open_31 rfl (lv_at hl 0 rfl) ?_
        refine va_get (ci := 4) (v := .ref (h 1)) (C := RX4) (T := TX4) (N := 6) hx hb hts hinX4 hown hK hP 0 rfl rfl 0 (by decide) (hts (.fieldLink RX4 12 "TypingTutor" "list" "LTypingTutor$WordList;") (List.mem_of_getElem? (i := 6) rfl)) (fun _ h9 => h9) rfl dX4_open_32 ?_
        refine zci (zrV (As := []) (rest := []) ⟨hx, hb, hml, hown, hts⟩ (zV 1 hP hD hK hE hB hS rfl rfl) (c_X3_size  ) (cwV 0 hts gX4_open_X3_size rfl rfl rfl hdv_X3_size ⟨Nat.le_of_ble_eq_true rfl, Nat.le_of_ble_eq_true rfl⟩) rfl rfl hl.1 rfl (lv_room (Nat.le_of_ble_eq_true rfl)) dX4_open_35 ⟨Nat.le_of_ble_eq_true rfl, Nat.le_of_ble_eq_true rfl⟩) hS (fun H locs hP hD hS => ?_)
        have hP : va_P D vwCl (zWT cI cJ h (n, L) (kt, km, kl) (pt, pm, pl) (nu, le, ow, fo, run, wc, lc, tr, cl, tm, ms) (yl, yc, yt, co, pa, su, sc) mc ++ R) _ := hP
        have hD : va_D (zAb B) (zWT cI cJ h (n, L) (kt, km, kl) (pt, pm, pl) (nu, le, ow, fo, run, wc, lc, tr, cl, tm, ms) (yl, yc, yt, co, pa, su, sc) mc ++ R) := hD
        refine lv_if_ne (tgt := 51) hx hb dX4_open_38 (by decide) (fun c_4 => ?_) (fun c_4 => ?_)
        · skip
          have c_4 : ¬ n = 0 := fun hh => c_4 ((nI_eq (a := n) (b := 0) (by omega) (by omega)).mpr hh)
          exact hf.elim (fun q => absurd (c_3.symm.trans q) (by decide)) (fun q => absurd q c_4)
        · skip
          have c_4 : n = 0 := (nI_eq (a := n) (b := 0) (by omega) (by omega)).mp c_4
          exact zthrow hx hb hls hown hE hP hD hS (hl.1.trans hml.symm) ht9 hlocks (by decide +kernel) (List.mem_of_getElem? (i := 5) rfl) (by decide +kernel) (hts (.classLink RX4 64 "java/lang/IllegalStateException") (List.mem_of_getElem? (i := 3) rfl)) (hts (.initialized "java/lang/IllegalStateException") (List.mem_of_getElem? (i := 4) rfl)) (fun w h9 => hts w (List.mem_cons_of_mem _ (List.mem_append_right _ h9))) (by decide +kernel) (by decide +kernel) dX4_open_41 dX4_open_44 dX4_open_45 dX4_open_47 dX4_open_50 ⟨Nat.le_of_ble_eq_true rfl, Nat.le_of_ble_eq_true rfl, Nat.le_of_ble_eq_true rfl, Nat.le_of_ble_eq_true rfl⟩
    · skip
      exact absurd hi6 c_2

set_option maxHeartbeats 1000000 in
set_option maxRecDepth 100000 in
theorem c_X4_giveUp {l : Launch} {B kr kp : Nat} {D : va_G} {cI cJ cZ : ClassId} {h : Nat → Nat} {R : va_W} {n : Nat} {L : Nat → Int64} {kt : Nat → Int32} {km : Nat → Int32} {kl : Nat → Int32} {pt : Nat → Int32} {pm : Nat → Int32} {pl : Nat → Int32} {nu : Nat → Int32} {le : Nat → Int32} {ow : Nat → Int32} {fo : Nat → Int32} {run : Bool} {wc : Nat} {lc : Nat} {tr : Nat} {cl : Nat} {tm : Nat} {ms : Nat} {yl : Nat → Int32} {yc : Nat → Int32} {yt : Nat → Int32} {co : Nat} {pa : Int32} {su : Nat} {sc : Nat} {mc : Nat → Int32}    (hrun : run = true) (htr : tr ≤ lc) : Met l yX4_giveUp wsX4_giveUp ({ frames := 1, cells := 0, slots := 0, locals := 20 }) (zPc B kr kp D (zTy cI cJ cZ) (zWT cI cJ h (n, L) (kt, km, kl) (pt, pm, pl) (nu, le, ow, fo, run, wc, lc, tr, cl, tm, ms) (yl, yc, yt, co, pa, su, sc) mc ++ R) [.ref (h 0)]) (zQi B D (zWT cI cJ h (n, L) (kt, km, kl) (pt, pm, pl) (nu, le, ow, fo, false, wc, lc, tr, cl, tm, ms) (yl, yc, yt, co, pa, su, sc) mc ++ R) (nI (lc - tr))) 0 0 (zAb B) := by
  refine Met.ofW (cc := cX4_giveUp) (maxL := 1) (ret := (some .int)) (by decide) rfl ?_
  intro p e s m args below meth c s₁ B0 hml hv
  obtain ⟨rfl, hP, hD, hK, hE, hB⟩ := hv
  have hx := B0.exec
  have hb := B0.bytes
  have hr := B0.returns
  have hts := atoms_spec (ws := wsX4_giveUp) B0.pre
  have hown : s.vm.findClass RX4 = some m.cls := findClass_of_methodNamed B0.named
  have hlocks := B0.notSynchronized
  have hA : ∀ q : Nat, s.heap.size ≤ q → zAb B q := fun q hq => Nat.le_trans hB hq
  have hS : va_S (zAb B) s.heap s.heap [] := va_S.rf
  have hgr : s.heap.size ≤ s.heap.size := Nat.le_refl _
  have hl := lv_entry ([.ref (h 0)]) (n := 1) (Nat.le_of_ble_eq_true rfl)
  rw [lg_entry_eq]
  generalize (lg_sl ([.ref (h 0)]) ++ List.replicate (1 - (lg_sl ([.ref (h 0)])).length) Slot.unset).toArray = ls at hl ⊢
  have hl : lv_has ls 1 [(0, .ref (h 0))] := hl
  have hinX4 : ∀ w ∈ wsX40, w ∈ wsX4_giveUp := fun _ h => List.mem_cons_of_mem _ (List.mem_append_left _ (List.mem_append_left _ (List.mem_append_right _ h)))
  have hP : va_P D vwCl (zWT cI cJ h (n, L) (kt, km, kl) (pt, pm, pl) (nu, le, ow, fo, run, wc, lc, tr, cl, tm, ms) (yl, yc, yt, co, pa, su, sc) mc ++ R) s.heap := hP
  have hD : va_D (zAb B) (zWT cI cJ h (n, L) (kt, km, kl) (pt, pm, pl) (nu, le, ow, fo, run, wc, lc, tr, cl, tm, ms) (yl, yc, yt, co, pa, su, sc) mc ++ R) := hD
  refine lv_aload_n hx hb dX4_giveUp_0 rfl (lv_at hl 0 rfl) ?_
  refine va_get (ci := 4) (v := .ref (h 11)) (C := RX4) (T := TX4) (N := 6) hx hb hts hinX4 hown hK hP 0 rfl rfl 3 (by decide) (hts (.fieldLink RX4 31 "TypingTutor" "current" "LTypingTutor$Lesson;") (List.mem_of_getElem? (i := 3) rfl)) (fun _ h9 => h9) rfl dX4_giveUp_1 ?_
  refine zci (zrV (As := []) (rest := []) ⟨hx, hb, hml, hown, hts⟩ (zV 11 hP hD hK hE hB hS rfl rfl) (c_X2_isRunning  ) (cwV 0 hts gX4_giveUp_X2_isRunning rfl rfl rfl hdv_X2_isRunning ⟨Nat.le_of_ble_eq_true rfl, Nat.le_of_ble_eq_true rfl⟩) rfl rfl hl.1 rfl (lv_room (Nat.le_of_ble_eq_true rfl)) dX4_giveUp_4 ⟨Nat.le_of_ble_eq_true rfl, Nat.le_of_ble_eq_true rfl⟩) hS (fun H locs hP hD hS => ?_)
  have hP : va_P D vwCl (zWT cI cJ h (n, L) (kt, km, kl) (pt, pm, pl) (nu, le, ow, fo, run, wc, lc, tr, cl, tm, ms) (yl, yc, yt, co, pa, su, sc) mc ++ R) _ := hP
  have hD : va_D (zAb B) (zWT cI cJ h (n, L) (kt, km, kl) (pt, pm, pl) (nu, le, ow, fo, run, wc, lc, tr, cl, tm, ms) (yl, yc, yt, co, pa, su, sc) mc ++ R) := hD
  refine lv_if_ne (tgt := 20) hx hb dX4_giveUp_7 (by decide) (fun c_1 => ?_) (fun c_1 => ?_)
  · skip
    have c_1 : run = true := zb_n c_1
    refine lv_aload_n hx hb dX4_giveUp_20 rfl (lv_at hl 0 rfl) ?_
    refine va_get (ci := 4) (v := .ref (h 11)) (C := RX4) (T := TX4) (N := 6) hx hb hts hinX4 hown hK hP 0 rfl rfl 3 (by decide) (hts (.fieldLink RX4 31 "TypingTutor" "current" "LTypingTutor$Lesson;") (List.mem_of_getElem? (i := 3) rfl)) (fun _ h9 => h9) rfl dX4_giveUp_21 ?_
    refine zcv (zrV (As := []) (rest := []) ⟨hx, hb, hml, hown, hts⟩ (zV 11 hP hD hK hE hB hS rfl rfl) (c_X2_stop  ) (cwV 0 hts gX4_giveUp_X2_stop rfl rfl rfl hdv_X2_stop ⟨Nat.le_of_ble_eq_true rfl, Nat.le_of_ble_eq_true rfl⟩) rfl rfl hl.1 rfl (lv_room (Nat.le_of_ble_eq_true rfl)) dX4_giveUp_24 ⟨Nat.le_of_ble_eq_true rfl, Nat.le_of_ble_eq_true rfl⟩) hS (fun H locs hP hD hS => ?_)
    have hP : va_P D vwCl (zWT cI cJ h (n, L) (kt, km, kl) (pt, pm, pl) (nu, le, ow, fo, false, wc, lc, tr, cl, tm, ms) (yl, yc, yt, co, pa, su, sc) mc ++ R) _ := hP
    have hD : va_D (zAb B) (zWT cI cJ h (n, L) (kt, km, kl) (pt, pm, pl) (nu, le, ow, fo, false, wc, lc, tr, cl, tm, ms) (yl, yc, yt, co, pa, su, sc) mc ++ R) := hD
    refine lv_aload_n hx hb dX4_giveUp_27 rfl (lv_at hl 0 rfl) ?_
    refine va_get (ci := 4) (v := .ref (h 11)) (C := RX4) (T := TX4) (N := 6) hx hb hts hinX4 hown hK hP 0 rfl rfl 3 (by decide) (hts (.fieldLink RX4 31 "TypingTutor" "current" "LTypingTutor$Lesson;") (List.mem_of_getElem? (i := 3) rfl)) (fun _ h9 => h9) rfl dX4_giveUp_28 ?_
    refine zci (zrV (As := []) (rest := []) ⟨hx, hb, hml, hown, hts⟩ (zV 11 hP hD hK hE hB hS rfl rfl) (c_X2_letterTotal  ) (cwV 0 hts gX4_giveUp_X2_letterTotal rfl rfl rfl hdv_X2_letterTotal ⟨Nat.le_of_ble_eq_true rfl, Nat.le_of_ble_eq_true rfl⟩) rfl rfl hl.1 rfl (lv_room (Nat.le_of_ble_eq_true rfl)) dX4_giveUp_31 ⟨Nat.le_of_ble_eq_true rfl, Nat.le_of_ble_eq_true rfl⟩) hS (fun H locs hP hD hS => ?_)
    have hP : va_P D vwCl (zWT cI cJ h (n, L) (kt, km, kl) (pt, pm, pl) (nu, le, ow, fo, false, wc, lc, tr, cl, tm, ms) (yl, yc, yt, co, pa, su, sc) mc ++ R) _ := hP
    have hD : va_D (zAb B) (zWT cI cJ h (n, L) (kt, km, kl) (pt, pm, pl) (nu, le, ow, fo, false, wc, lc, tr, cl, tm, ms) (yl, yc, yt, co, pa, su, sc) mc ++ R) := hD
    refine lv_aload_n hx hb dX4_giveUp_34 rfl (lv_at hl 0 rfl) ?_
    refine va_get (ci := 4) (v := .ref (h 11)) (C := RX4) (T := TX4) (N := 6) hx hb hts hinX4 hown hK hP 0 rfl rfl 3 (by decide) (hts (.fieldLink RX4 31 "TypingTutor" "current" "LTypingTutor$Lesson;") (List.mem_of_getElem? (i := 3) rfl)) (fun _ h9 => h9) rfl dX4_giveUp_35 ?_
    refine zci (zrV (As := []) (rest := [.int (nI lc)]) ⟨hx, hb, hml, hown, hts⟩ (zV 11 hP hD hK hE hB hS rfl rfl) (c_X2_triedTotal  ) (cwV 0 hts gX4_giveUp_X2_triedTotal rfl rfl rfl hdv_X2_triedTotal ⟨Nat.le_of_ble_eq_true rfl, Nat.le_of_ble_eq_true rfl⟩) rfl rfl hl.1 rfl (lv_room (Nat.le_of_ble_eq_true rfl)) dX4_giveUp_38 ⟨Nat.le_of_ble_eq_true rfl, Nat.le_of_ble_eq_true rfl⟩) hS (fun H locs hP hD hS => ?_)
    have hP : va_P D vwCl (zWT cI cJ h (n, L) (kt, km, kl) (pt, pm, pl) (nu, le, ow, fo, false, wc, lc, tr, cl, tm, ms) (yl, yc, yt, co, pa, su, sc) mc ++ R) _ := hP
    have hD : va_D (zAb B) (zWT cI cJ h (n, L) (kt, km, kl) (pt, pm, pl) (nu, le, ow, fo, false, wc, lc, tr, cl, tm, ms) (yl, yc, yt, co, pa, su, sc) mc ++ R) := hD
    refine lv_isub hx hb dX4_giveUp_41 ?_
    refine lv_topi (fun v_2 ev_2 => ?_)
    obtain rfl : v_2 = (nI (lc - tr)) := ev_2.trans (pk_sub (a := lc) (b := tr) (by omega))
    exact W.iret (v := (nI (lc - tr))) hx hb hr (fun t ht hW => ⟨⟨_, (), rfl, rfl, by rw [ht]; exact hP, hD⟩, hS.F ht⟩) hS.2.2 dX4_giveUp_42
  · skip
    have c_1 : run = false := zb_0 c_1
    exact absurd (c_1.symm.trans hrun) (by decide)

set_option maxHeartbeats 1000000 in
set_option maxRecDepth 100000 in
theorem c_X4_giveUp_x {l : Launch} {B kr kp : Nat} {D : va_G} {cI cJ cZ : ClassId} {h : Nat → Nat} {R : va_W} {n : Nat} {L : Nat → Int64} {kt : Nat → Int32} {km : Nat → Int32} {kl : Nat → Int32} {pt : Nat → Int32} {pm : Nat → Int32} {pl : Nat → Int32} {nu : Nat → Int32} {le : Nat → Int32} {ow : Nat → Int32} {fo : Nat → Int32} {run : Bool} {wc : Nat} {lc : Nat} {tr : Nat} {cl : Nat} {tm : Nat} {ms : Nat} {yl : Nat → Int32} {yc : Nat → Int32} {yt : Nat → Int32} {co : Nat} {pa : Int32} {su : Nat} {sc : Nat} {mc : Nat → Int32}    (hls : l.stackTraces = false) (hrun : run = false) : vx_Met l yX4_giveUp wsX4_giveUp ({ frames := 6, cells := 1, slots := 6, locals := 82 }) (zPc B kr kp D (zTy cI cJ cZ) (zWT cI cJ h (n, L) (kt, km, kl) (pt, pm, pl) (nu, le, ow, fo, run, wc, lc, tr, cl, tm, ms) (yl, yc, yt, co, pa, su, sc) mc ++ R) [.ref (h 0)]) (zQxi B D (zWT cI cJ h (n, L) (kt, km, kl) (pt, pm, pl) (nu, le, ow, fo, run, wc, lc, tr, cl, tm, ms) (yl, yc, yt, co, pa, su, sc) mc ++ R)) (zXC "java/lang/IllegalStateException" B D (zWT cI cJ h (n, L) (kt, km, kl) (pt, pm, pl) (nu, le, ow, fo, run, wc, lc, tr, cl, tm, ms) (yl, yc, yt, co, pa, su, sc) mc ++ R)) 1 6 (zAb B) := by
  refine vx_ofW (cc := cX4_giveUp) (maxL := 1) (ret := (some .int)) (by decide) rfl ?_
  intro p e s m args below meth c s₁ B0 hml ht9 hv
  obtain ⟨rfl, hP, hD, hK, hE, hB⟩ := hv
  have hx := B0.exec
  have hb := B0.bytes
  have hr := B0.returns
  have hts := atoms_spec (ws := wsX4_giveUp) B0.pre
  have hown : s.vm.findClass RX4 = some m.cls := findClass_of_methodNamed B0.named
  have hlocks := B0.notSynchronized
  have hA : ∀ q : Nat, s.heap.size ≤ q → zAb B q := fun q hq => Nat.le_trans hB hq
  have hS : va_S (zAb B) s.heap s.heap [] := va_S.rf
  have hgr : s.heap.size ≤ s.heap.size := Nat.le_refl _
  have hl := lv_entry ([.ref (h 0)]) (n := 1) (Nat.le_of_ble_eq_true rfl)
  rw [lg_entry_eq]
  generalize (lg_sl ([.ref (h 0)]) ++ List.replicate (1 - (lg_sl ([.ref (h 0)])).length) Slot.unset).toArray = ls at hl ⊢
  have hl : lv_has ls 1 [(0, .ref (h 0))] := hl
  have hinX4 : ∀ w ∈ wsX40, w ∈ wsX4_giveUp := fun _ h => List.mem_cons_of_mem _ (List.mem_append_left _ (List.mem_append_left _ (List.mem_append_right _ h)))
  have hP : va_P D vwCl (zWT cI cJ h (n, L) (kt, km, kl) (pt, pm, pl) (nu, le, ow, fo, run, wc, lc, tr, cl, tm, ms) (yl, yc, yt, co, pa, su, sc) mc ++ R) s.heap := hP
  have hD : va_D (zAb B) (zWT cI cJ h (n, L) (kt, km, kl) (pt, pm, pl) (nu, le, ow, fo, run, wc, lc, tr, cl, tm, ms) (yl, yc, yt, co, pa, su, sc) mc ++ R) := hD
  refine lv_aload_n hx hb dX4_giveUp_0 rfl (lv_at hl 0 rfl) ?_
  refine va_get (ci := 4) (v := .ref (h 11)) (C := RX4) (T := TX4) (N := 6) hx hb hts hinX4 hown hK hP 0 rfl rfl 3 (by decide) (hts (.fieldLink RX4 31 "TypingTutor" "current" "LTypingTutor$Lesson;") (List.mem_of_getElem? (i := 3) rfl)) (fun _ h9 => h9) rfl dX4_giveUp_1 ?_
  refine zci (zrV (As := []) (rest := []) ⟨hx, hb, hml, hown, hts⟩ (zV 11 hP hD hK hE hB hS rfl rfl) (c_X2_isRunning  ) (cwV 0 hts gX4_giveUp_X2_isRunning rfl rfl rfl hdv_X2_isRunning ⟨Nat.le_of_ble_eq_true rfl, Nat.le_of_ble_eq_true rfl⟩) rfl rfl hl.1 rfl (lv_room (Nat.le_of_ble_eq_true rfl)) dX4_giveUp_4 ⟨Nat.le_of_ble_eq_true rfl, Nat.le_of_ble_eq_true rfl⟩) hS (fun H locs hP hD hS => ?_)
  have hP : va_P D vwCl (zWT cI cJ h (n, L) (kt, km, kl) (pt, pm, pl) (nu, le, ow, fo, run, wc, lc, tr, cl, tm, ms) (yl, yc, yt, co, pa, su, sc) mc ++ R) _ := hP
  have hD : va_D (zAb B) (zWT cI cJ h (n, L) (kt, km, kl) (pt, pm, pl) (nu, le, ow, fo, run, wc, lc, tr, cl, tm, ms) (yl, yc, yt, co, pa, su, sc) mc ++ R) := hD
  refine lv_if_ne (tgt := 20) hx hb dX4_giveUp_7 (by decide) (fun c_1 => ?_) (fun c_1 => ?_)
  · skip
    have c_1 : run = true := zb_n c_1
    exact absurd (c_1.symm.trans hrun) (by decide)
  · skip
    have c_1 : run = false := zb_0 c_1
    exact zthrow hx hb hls hown hE hP hD hS (hl.1.trans hml.symm) ht9 hlocks (by decide +kernel) (List.mem_of_getElem? (i := 7) rfl) (by decide +kernel) (hts (.classLink RX4 64 "java/lang/IllegalStateException") (List.mem_of_getElem? (i := 1) rfl)) (hts (.initialized "java/lang/IllegalStateException") (List.mem_of_getElem? (i := 2) rfl)) (fun w h9 => hts w (List.mem_cons_of_mem _ (List.mem_append_right _ h9))) (by decide +kernel) (by decide +kernel) dX4_giveUp_10 dX4_giveUp_13 dX4_giveUp_14 dX4_giveUp_16 dX4_giveUp_19 ⟨Nat.le_of_ble_eq_true rfl, Nat.le_of_ble_eq_true rfl, Nat.le_of_ble_eq_true rfl, Nat.le_of_ble_eq_true rfl⟩

set_option maxHeartbeats 1000000 in
set_option maxRecDepth 100000 in
theorem c_X4_wanted_x {l : Launch} {B kr kp : Nat} {D : va_G} {cI cJ cZ : ClassId} {h : Nat → Nat} {R : va_W} {n : Nat} {L : Nat → Int64} {kt : Nat → Int32} {km : Nat → Int32} {kl : Nat → Int32} {pt : Nat → Int32} {pm : Nat → Int32} {pl : Nat → Int32} {nu : Nat → Int32} {le : Nat → Int32} {ow : Nat → Int32} {fo : Nat → Int32} {run : Bool} {wc : Nat} {lc : Nat} {tr : Nat} {cl : Nat} {tm : Nat} {ms : Nat} {yl : Nat → Int32} {yc : Nat → Int32} {yt : Nat → Int32} {co : Nat} {pa : Int32} {su : Nat} {sc : Nat} {mc : Nat → Int32}    (hls : l.stackTraces = false) (hrun : run = false) : vx_Met l yX4_wanted wsX4_wanted ({ frames := 6, cells := 1, slots := 6, locals := 82 }) (zPc B kr kp D (zTy cI cJ cZ) (zWT cI cJ h (n, L) (kt, km, kl) (pt, pm, pl) (nu, le, ow, fo, run, wc, lc, tr, cl, tm, ms) (yl, yc, yt, co, pa, su, sc) mc ++ R) [.ref (h 0)]) (zQxi B D (zWT cI cJ h (n, L) (kt, km, kl) (pt, pm, pl) (nu, le, ow, fo, run, wc, lc, tr, cl, tm, ms) (yl, yc, yt, co, pa, su, sc) mc ++ R)) (zXC "java/lang/IllegalStateException" B D (zWT cI cJ h (n, L) (kt, km, kl) (pt, pm, pl) (nu, le, ow, fo, run, wc, lc, tr, cl, tm, ms) (yl, yc, yt, co, pa, su, sc) mc ++ R)) 1 6 (zAb B) := by
  refine vx_ofW (cc := cX4_wanted) (maxL := 1) (ret := (some .int)) (by decide) rfl ?_
  intro p e s m args below meth c s₁ B0 hml ht9 hv
  obtain ⟨rfl, hP, hD, hK, hE, hB⟩ := hv
  have hx := B0.exec
  have hb := B0.bytes
  have hr := B0.returns
  have hts := atoms_spec (ws := wsX4_wanted) B0.pre
  have hown : s.vm.findClass RX4 = some m.cls := findClass_of_methodNamed B0.named
  have hlocks := B0.notSynchronized
  have hA : ∀ q : Nat, s.heap.size ≤ q → zAb B q := fun q hq => Nat.le_trans hB hq
  have hS : va_S (zAb B) s.heap s.heap [] := va_S.rf
  have hgr : s.heap.size ≤ s.heap.size := Nat.le_refl _
  have hl := lv_entry ([.ref (h 0)]) (n := 1) (Nat.le_of_ble_eq_true rfl)
  rw [lg_entry_eq]
  generalize (lg_sl ([.ref (h 0)]) ++ List.replicate (1 - (lg_sl ([.ref (h 0)])).length) Slot.unset).toArray = ls at hl ⊢
  have hl : lv_has ls 1 [(0, .ref (h 0))] := hl
  have hinX4 : ∀ w ∈ wsX40, w ∈ wsX4_wanted := fun _ h => List.mem_cons_of_mem _ (List.mem_append_left _ (List.mem_append_left _ (List.mem_append_right _ h)))
  have hP : va_P D vwCl (zWT cI cJ h (n, L) (kt, km, kl) (pt, pm, pl) (nu, le, ow, fo, run, wc, lc, tr, cl, tm, ms) (yl, yc, yt, co, pa, su, sc) mc ++ R) s.heap := hP
  have hD : va_D (zAb B) (zWT cI cJ h (n, L) (kt, km, kl) (pt, pm, pl) (nu, le, ow, fo, run, wc, lc, tr, cl, tm, ms) (yl, yc, yt, co, pa, su, sc) mc ++ R) := hD
  refine lv_aload_n hx hb dX4_wanted_0 rfl (lv_at hl 0 rfl) ?_
  refine va_get (ci := 4) (v := .ref (h 11)) (C := RX4) (T := TX4) (N := 6) hx hb hts hinX4 hown hK hP 0 rfl rfl 3 (by decide) (hts (.fieldLink RX4 31 "TypingTutor" "current" "LTypingTutor$Lesson;") (List.mem_of_getElem? (i := 3) rfl)) (fun _ h9 => h9) rfl dX4_wanted_1 ?_
  refine zci (zrV (As := []) (rest := []) ⟨hx, hb, hml, hown, hts⟩ (zV 11 hP hD hK hE hB hS rfl rfl) (c_X2_isRunning  ) (cwV 0 hts gX4_wanted_X2_isRunning rfl rfl rfl hdv_X2_isRunning ⟨Nat.le_of_ble_eq_true rfl, Nat.le_of_ble_eq_true rfl⟩) rfl rfl hl.1 rfl (lv_room (Nat.le_of_ble_eq_true rfl)) dX4_wanted_4 ⟨Nat.le_of_ble_eq_true rfl, Nat.le_of_ble_eq_true rfl⟩) hS (fun H locs hP hD hS => ?_)
  have hP : va_P D vwCl (zWT cI cJ h (n, L) (kt, km, kl) (pt, pm, pl) (nu, le, ow, fo, run, wc, lc, tr, cl, tm, ms) (yl, yc, yt, co, pa, su, sc) mc ++ R) _ := hP
  have hD : va_D (zAb B) (zWT cI cJ h (n, L) (kt, km, kl) (pt, pm, pl) (nu, le, ow, fo, run, wc, lc, tr, cl, tm, ms) (yl, yc, yt, co, pa, su, sc) mc ++ R) := hD
  refine lv_if_ne (tgt := 20) hx hb dX4_wanted_7 (by decide) (fun c_1 => ?_) (fun c_1 => ?_)
  · skip
    have c_1 : run = true := zb_n c_1
    exact absurd (c_1.symm.trans hrun) (by decide)
  · skip
    have c_1 : run = false := zb_0 c_1
    exact zthrow hx hb hls hown hE hP hD hS (hl.1.trans hml.symm) ht9 hlocks (by decide +kernel) (List.mem_of_getElem? (i := 7) rfl) (by decide +kernel) (hts (.classLink RX4 64 "java/lang/IllegalStateException") (List.mem_of_getElem? (i := 1) rfl)) (hts (.initialized "java/lang/IllegalStateException") (List.mem_of_getElem? (i := 2) rfl)) (fun w h9 => hts w (List.mem_cons_of_mem _ (List.mem_append_right _ h9))) (by decide +kernel) (by decide +kernel) dX4_wanted_10 dX4_wanted_13 dX4_wanted_14 dX4_wanted_16 dX4_wanted_19 ⟨Nat.le_of_ble_eq_true rfl, Nat.le_of_ble_eq_true rfl, Nat.le_of_ble_eq_true rfl, Nat.le_of_ble_eq_true rfl⟩

set_option maxHeartbeats 1000000 in
set_option maxRecDepth 100000 in
theorem c_X4_done_x {l : Launch} {B kr kp : Nat} {D : va_G} {cI cJ cZ : ClassId} {h : Nat → Nat} {R : va_W} {n : Nat} {L : Nat → Int64} {kt : Nat → Int32} {km : Nat → Int32} {kl : Nat → Int32} {pt : Nat → Int32} {pm : Nat → Int32} {pl : Nat → Int32} {nu : Nat → Int32} {le : Nat → Int32} {ow : Nat → Int32} {fo : Nat → Int32} {run : Bool} {wc : Nat} {lc : Nat} {tr : Nat} {cl : Nat} {tm : Nat} {ms : Nat} {yl : Nat → Int32} {yc : Nat → Int32} {yt : Nat → Int32} {co : Nat} {pa : Int32} {su : Nat} {sc : Nat} {mc : Nat → Int32}    (hls : l.stackTraces = false) (hrun : run = false) : vx_Met l yX4_done wsX4_done ({ frames := 6, cells := 1, slots := 6, locals := 82 }) (zPc B kr kp D (zTy cI cJ cZ) (zWT cI cJ h (n, L) (kt, km, kl) (pt, pm, pl) (nu, le, ow, fo, run, wc, lc, tr, cl, tm, ms) (yl, yc, yt, co, pa, su, sc) mc ++ R) [.ref (h 0)]) (zQxi B D (zWT cI cJ h (n, L) (kt, km, kl) (pt, pm, pl) (nu, le, ow, fo, run, wc, lc, tr, cl, tm, ms) (yl, yc, yt, co, pa, su, sc) mc ++ R)) (zXC "java/lang/IllegalStateException" B D (zWT cI cJ h (n, L) (kt, km, kl) (pt, pm, pl) (nu, le, ow, fo, run, wc, lc, tr, cl, tm, ms) (yl, yc, yt, co, pa, su, sc) mc ++ R)) 1 6 (zAb B) := by
  refine vx_ofW (cc := cX4_done) (maxL := 1) (ret := (some .int)) (by decide) rfl ?_
  intro p e s m args below meth c s₁ B0 hml ht9 hv
  obtain ⟨rfl, hP, hD, hK, hE, hB⟩ := hv
  have hx := B0.exec
  have hb := B0.bytes
  have hr := B0.returns
  have hts := atoms_spec (ws := wsX4_done) B0.pre
  have hown : s.vm.findClass RX4 = some m.cls := findClass_of_methodNamed B0.named
  have hlocks := B0.notSynchronized
  have hA : ∀ q : Nat, s.heap.size ≤ q → zAb B q := fun q hq => Nat.le_trans hB hq
  have hS : va_S (zAb B) s.heap s.heap [] := va_S.rf
  have hgr : s.heap.size ≤ s.heap.size := Nat.le_refl _
  have hl := lv_entry ([.ref (h 0)]) (n := 1) (Nat.le_of_ble_eq_true rfl)
  rw [lg_entry_eq]
  generalize (lg_sl ([.ref (h 0)]) ++ List.replicate (1 - (lg_sl ([.ref (h 0)])).length) Slot.unset).toArray = ls at hl ⊢
  have hl : lv_has ls 1 [(0, .ref (h 0))] := hl
  have hinX4 : ∀ w ∈ wsX40, w ∈ wsX4_done := fun _ h => List.mem_cons_of_mem _ (List.mem_append_left _ (List.mem_append_left _ (List.mem_append_right _ h)))
  have hP : va_P D vwCl (zWT cI cJ h (n, L) (kt, km, kl) (pt, pm, pl) (nu, le, ow, fo, run, wc, lc, tr, cl, tm, ms) (yl, yc, yt, co, pa, su, sc) mc ++ R) s.heap := hP
  have hD : va_D (zAb B) (zWT cI cJ h (n, L) (kt, km, kl) (pt, pm, pl) (nu, le, ow, fo, run, wc, lc, tr, cl, tm, ms) (yl, yc, yt, co, pa, su, sc) mc ++ R) := hD
  refine lv_aload_n hx hb dX4_done_0 rfl (lv_at hl 0 rfl) ?_
  refine va_get (ci := 4) (v := .ref (h 11)) (C := RX4) (T := TX4) (N := 6) hx hb hts hinX4 hown hK hP 0 rfl rfl 3 (by decide) (hts (.fieldLink RX4 31 "TypingTutor" "current" "LTypingTutor$Lesson;") (List.mem_of_getElem? (i := 3) rfl)) (fun _ h9 => h9) rfl dX4_done_1 ?_
  refine zci (zrV (As := []) (rest := []) ⟨hx, hb, hml, hown, hts⟩ (zV 11 hP hD hK hE hB hS rfl rfl) (c_X2_isRunning  ) (cwV 0 hts gX4_done_X2_isRunning rfl rfl rfl hdv_X2_isRunning ⟨Nat.le_of_ble_eq_true rfl, Nat.le_of_ble_eq_true rfl⟩) rfl rfl hl.1 rfl (lv_room (Nat.le_of_ble_eq_true rfl)) dX4_done_4 ⟨Nat.le_of_ble_eq_true rfl, Nat.le_of_ble_eq_true rfl⟩) hS (fun H locs hP hD hS => ?_)
  have hP : va_P D vwCl (zWT cI cJ h (n, L) (kt, km, kl) (pt, pm, pl) (nu, le, ow, fo, run, wc, lc, tr, cl, tm, ms) (yl, yc, yt, co, pa, su, sc) mc ++ R) _ := hP
  have hD : va_D (zAb B) (zWT cI cJ h (n, L) (kt, km, kl) (pt, pm, pl) (nu, le, ow, fo, run, wc, lc, tr, cl, tm, ms) (yl, yc, yt, co, pa, su, sc) mc ++ R) := hD
  refine lv_if_ne (tgt := 20) hx hb dX4_done_7 (by decide) (fun c_1 => ?_) (fun c_1 => ?_)
  · skip
    have c_1 : run = true := zb_n c_1
    exact absurd (c_1.symm.trans hrun) (by decide)
  · skip
    have c_1 : run = false := zb_0 c_1
    exact zthrow hx hb hls hown hE hP hD hS (hl.1.trans hml.symm) ht9 hlocks (by decide +kernel) (List.mem_of_getElem? (i := 7) rfl) (by decide +kernel) (hts (.classLink RX4 64 "java/lang/IllegalStateException") (List.mem_of_getElem? (i := 1) rfl)) (hts (.initialized "java/lang/IllegalStateException") (List.mem_of_getElem? (i := 2) rfl)) (fun w h9 => hts w (List.mem_cons_of_mem _ (List.mem_append_right _ h9))) (by decide +kernel) (by decide +kernel) dX4_done_10 dX4_done_13 dX4_done_14 dX4_done_16 dX4_done_19 ⟨Nat.le_of_ble_eq_true rfl, Nat.le_of_ble_eq_true rfl, Nat.le_of_ble_eq_true rfl, Nat.le_of_ble_eq_true rfl⟩

set_option maxHeartbeats 1000000 in
set_option maxRecDepth 100000 in
theorem c_X4_isOpen {l : Launch} {B kr kp : Nat} {D : va_G} {cI cJ cZ : ClassId} {h : Nat → Nat} {R : va_W} {n : Nat} {L : Nat → Int64} {kt : Nat → Int32} {km : Nat → Int32} {kl : Nat → Int32} {pt : Nat → Int32} {pm : Nat → Int32} {pl : Nat → Int32} {nu : Nat → Int32} {le : Nat → Int32} {ow : Nat → Int32} {fo : Nat → Int32} {run : Bool} {wc : Nat} {lc : Nat} {tr : Nat} {cl : Nat} {tm : Nat} {ms : Nat} {yl : Nat → Int32} {yc : Nat → Int32} {yt : Nat → Int32} {co : Nat} {pa : Int32} {su : Nat} {sc : Nat} {mc : Nat → Int32}     : Met l yX4_isOpen wsX4_isOpen ({ frames := 1, cells := 0, slots := 0, locals := 20 }) (zPc B kr kp D (zTy cI cJ cZ) (zWT cI cJ h (n, L) (kt, km, kl) (pt, pm, pl) (nu, le, ow, fo, run, wc, lc, tr, cl, tm, ms) (yl, yc, yt, co, pa, su, sc) mc ++ R) [.ref (h 0)]) (zQi B D (zWT cI cJ h (n, L) (kt, km, kl) (pt, pm, pl) (nu, le, ow, fo, run, wc, lc, tr, cl, tm, ms) (yl, yc, yt, co, pa, su, sc) mc ++ R) (zb run)) 0 0 (zAb B) := by
  refine Met.ofW (cc := cX4_isOpen) (maxL := 1) (ret := (some .boolean)) (by decide) rfl ?_
  intro p e s m args below meth c s₁ B0 hml hv
  obtain ⟨rfl, hP, hD, hK, hE, hB⟩ := hv
  have hx := B0.exec
  have hb := B0.bytes
  have hr := B0.returns
  have hts := atoms_spec (ws := wsX4_isOpen) B0.pre
  have hown : s.vm.findClass RX4 = some m.cls := findClass_of_methodNamed B0.named
  have hlocks := B0.notSynchronized
  have hA : ∀ q : Nat, s.heap.size ≤ q → zAb B q := fun q hq => Nat.le_trans hB hq
  have hS : va_S (zAb B) s.heap s.heap [] := va_S.rf
  have hgr : s.heap.size ≤ s.heap.size := Nat.le_refl _
  have hl := lv_entry ([.ref (h 0)]) (n := 1) (Nat.le_of_ble_eq_true rfl)
  rw [lg_entry_eq]
  generalize (lg_sl ([.ref (h 0)]) ++ List.replicate (1 - (lg_sl ([.ref (h 0)])).length) Slot.unset).toArray = ls at hl ⊢
  have hl : lv_has ls 1 [(0, .ref (h 0))] := hl
  have hinX4 : ∀ w ∈ wsX40, w ∈ wsX4_isOpen := fun _ h => List.mem_cons_of_mem _ (List.mem_append_left _ (List.mem_append_right _ h))
  have hP : va_P D vwCl (zWT cI cJ h (n, L) (kt, km, kl) (pt, pm, pl) (nu, le, ow, fo, run, wc, lc, tr, cl, tm, ms) (yl, yc, yt, co, pa, su, sc) mc ++ R) s.heap := hP
  have hD : va_D (zAb B) (zWT cI cJ h (n, L) (kt, km, kl) (pt, pm, pl) (nu, le, ow, fo, run, wc, lc, tr, cl, tm, ms) (yl, yc, yt, co, pa, su, sc) mc ++ R) := hD
  refine lv_aload_n hx hb dX4_isOpen_0 rfl (lv_at hl 0 rfl) ?_
  refine va_get (ci := 4) (v := .ref (h 11)) (C := RX4) (T := TX4) (N := 6) hx hb hts hinX4 hown hK hP 0 rfl rfl 3 (by decide) (hts (.fieldLink RX4 31 "TypingTutor" "current" "LTypingTutor$Lesson;") (List.mem_of_getElem? (i := 1) rfl)) (fun _ h9 => h9) rfl dX4_isOpen_1 ?_
  refine zci (zrV (As := []) (rest := []) ⟨hx, hb, hml, hown, hts⟩ (zV 11 hP hD hK hE hB hS rfl rfl) (c_X2_isRunning  ) (cwV 0 hts gX4_isOpen_X2_isRunning rfl rfl rfl hdv_X2_isRunning ⟨Nat.le_of_ble_eq_true rfl, Nat.le_of_ble_eq_true rfl⟩) rfl rfl hl.1 rfl (lv_room (Nat.le_of_ble_eq_true rfl)) dX4_isOpen_4 ⟨Nat.le_of_ble_eq_true rfl, Nat.le_of_ble_eq_true rfl⟩) hS (fun H locs hP hD hS => ?_)
  have hP : va_P D vwCl (zWT cI cJ h (n, L) (kt, km, kl) (pt, pm, pl) (nu, le, ow, fo, run, wc, lc, tr, cl, tm, ms) (yl, yc, yt, co, pa, su, sc) mc ++ R) _ := hP
  have hD : va_D (zAb B) (zWT cI cJ h (n, L) (kt, km, kl) (pt, pm, pl) (nu, le, ow, fo, run, wc, lc, tr, cl, tm, ms) (yl, yc, yt, co, pa, su, sc) mc ++ R) := hD
  exact W.zret (v := (zb run)) hx hb hr zb_nar (fun t ht hW => ⟨⟨_, (), rfl, rfl, by rw [ht]; exact hP, hD⟩, hS.F ht⟩) hS.2.2 dX4_isOpen_7

set_option maxHeartbeats 1000000 in
set_option maxRecDepth 100000 in
theorem c_X4_wanted {l : Launch} {B kr kp : Nat} {D : va_G} {cI cJ cZ : ClassId} {h : Nat → Nat} {R : va_W} {n : Nat} {L : Nat → Int64} {kt : Nat → Int32} {km : Nat → Int32} {kl : Nat → Int32} {pt : Nat → Int32} {pm : Nat → Int32} {pl : Nat → Int32} {nu : Nat → Int32} {le : Nat → Int32} {ow : Nat → Int32} {fo : Nat → Int32} {run : Bool} {wc : Nat} {lc : Nat} {tr : Nat} {cl : Nat} {tm : Nat} {ms : Nat} {yl : Nat → Int32} {yc : Nat → Int32} {yt : Nat → Int32} {co : Nat} {pa : Int32} {su : Nat} {sc : Nat} {mc : Nat → Int32}    (hrun : run = true) (htr : tr < 48) : Met l yX4_wanted wsX4_wanted ({ frames := 2, cells := 0, slots := 0, locals := 41 }) (zPc B kr kp D (zTy cI cJ cZ) (zWT cI cJ h (n, L) (kt, km, kl) (pt, pm, pl) (nu, le, ow, fo, run, wc, lc, tr, cl, tm, ms) (yl, yc, yt, co, pa, su, sc) mc ++ R) [.ref (h 0)]) (zQi B D (zWT cI cJ h (n, L) (kt, km, kl) (pt, pm, pl) (nu, le, ow, fo, run, wc, lc, tr, cl, tm, ms) (yl, yc, yt, co, pa, su, sc) mc ++ R) (le tr)) 0 0 (zAb B) := by
  refine Met.ofW (cc := cX4_wanted) (maxL := 1) (ret := (some .int)) (by decide) rfl ?_
  intro p e s m args below meth c s₁ B0 hml hv
  obtain ⟨rfl, hP, hD, hK, hE, hB⟩ := hv
  have hx := B0.exec
  have hb := B0.bytes
  have hr := B0.returns
  have hts := atoms_spec (ws := wsX4_wanted) B0.pre
  have hown : s.vm.findClass RX4 = some m.cls := findClass_of_methodNamed B0.named
  have hlocks := B0.notSynchronized
  have hA : ∀ q : Nat, s.heap.size ≤ q → zAb B q := fun q hq => Nat.le_trans hB hq
  have hS : va_S (zAb B) s.heap s.heap [] := va_S.rf
  have hgr : s.heap.size ≤ s.heap.size := Nat.le_refl _
  have hl := lv_entry ([.ref (h 0)]) (n := 1) (Nat.le_of_ble_eq_true rfl)
  rw [lg_entry_eq]
  generalize (lg_sl ([.ref (h 0)]) ++ List.replicate (1 - (lg_sl ([.ref (h 0)])).length) Slot.unset).toArray = ls at hl ⊢
  have hl : lv_has ls 1 [(0, .ref (h 0))] := hl
  have hinX4 : ∀ w ∈ wsX40, w ∈ wsX4_wanted := fun _ h => List.mem_cons_of_mem _ (List.mem_append_left _ (List.mem_append_left _ (List.mem_append_right _ h)))
  have hP : va_P D vwCl (zWT cI cJ h (n, L) (kt, km, kl) (pt, pm, pl) (nu, le, ow, fo, run, wc, lc, tr, cl, tm, ms) (yl, yc, yt, co, pa, su, sc) mc ++ R) s.heap := hP
  have hD : va_D (zAb B) (zWT cI cJ h (n, L) (kt, km, kl) (pt, pm, pl) (nu, le, ow, fo, run, wc, lc, tr, cl, tm, ms) (yl, yc, yt, co, pa, su, sc) mc ++ R) := hD
  refine lv_aload_n hx hb dX4_wanted_0 rfl (lv_at hl 0 rfl) ?_
  refine va_get (ci := 4) (v := .ref (h 11)) (C := RX4) (T := TX4) (N := 6) hx hb hts hinX4 hown hK hP 0 rfl rfl 3 (by decide) (hts (.fieldLink RX4 31 "TypingTutor" "current" "LTypingTutor$Lesson;") (List.mem_of_getElem? (i := 3) rfl)) (fun _ h9 => h9) rfl dX4_wanted_1 ?_
  refine zci (zrV (As := []) (rest := []) ⟨hx, hb, hml, hown, hts⟩ (zV 11 hP hD hK hE hB hS rfl rfl) (c_X2_isRunning  ) (cwV 0 hts gX4_wanted_X2_isRunning rfl rfl rfl hdv_X2_isRunning ⟨Nat.le_of_ble_eq_true rfl, Nat.le_of_ble_eq_true rfl⟩) rfl rfl hl.1 rfl (lv_room (Nat.le_of_ble_eq_true rfl)) dX4_wanted_4 ⟨Nat.le_of_ble_eq_true rfl, Nat.le_of_ble_eq_true rfl⟩) hS (fun H locs hP hD hS => ?_)
  have hP : va_P D vwCl (zWT cI cJ h (n, L) (kt, km, kl) (pt, pm, pl) (nu, le, ow, fo, run, wc, lc, tr, cl, tm, ms) (yl, yc, yt, co, pa, su, sc) mc ++ R) _ := hP
  have hD : va_D (zAb B) (zWT cI cJ h (n, L) (kt, km, kl) (pt, pm, pl) (nu, le, ow, fo, run, wc, lc, tr, cl, tm, ms) (yl, yc, yt, co, pa, su, sc) mc ++ R) := hD
  refine lv_if_ne (tgt := 20) hx hb dX4_wanted_7 (by decide) (fun c_1 => ?_) (fun c_1 => ?_)
  · skip
    have c_1 : run = true := zb_n c_1
    refine lv_aload_n hx hb dX4_wanted_20 rfl (lv_at hl 0 rfl) ?_
    refine va_get (ci := 4) (v := .ref (h 11)) (C := RX4) (T := TX4) (N := 6) hx hb hts hinX4 hown hK hP 0 rfl rfl 3 (by decide) (hts (.fieldLink RX4 31 "TypingTutor" "current" "LTypingTutor$Lesson;") (List.mem_of_getElem? (i := 3) rfl)) (fun _ h9 => h9) rfl dX4_wanted_21 ?_
    refine zci (zrV (As := []) (rest := []) ⟨hx, hb, hml, hown, hts⟩ (zV 11 hP hD hK hE hB hS rfl rfl) (c_X2_letterHere  (by omega)) (cwV 0 hts gX4_wanted_X2_letterHere rfl rfl rfl hdv_X2_letterHere ⟨Nat.le_of_ble_eq_true rfl, Nat.le_of_ble_eq_true rfl⟩) rfl rfl hl.1 rfl (lv_room (Nat.le_of_ble_eq_true rfl)) dX4_wanted_24 ⟨Nat.le_of_ble_eq_true rfl, Nat.le_of_ble_eq_true rfl⟩) hS (fun H locs hP hD hS => ?_)
    have hP : va_P D vwCl (zWT cI cJ h (n, L) (kt, km, kl) (pt, pm, pl) (nu, le, ow, fo, run, wc, lc, tr, cl, tm, ms) (yl, yc, yt, co, pa, su, sc) mc ++ R) _ := hP
    have hD : va_D (zAb B) (zWT cI cJ h (n, L) (kt, km, kl) (pt, pm, pl) (nu, le, ow, fo, run, wc, lc, tr, cl, tm, ms) (yl, yc, yt, co, pa, su, sc) mc ++ R) := hD
    exact W.iret (v := (le tr)) hx hb hr (fun t ht hW => ⟨⟨_, (), rfl, rfl, by rw [ht]; exact hP, hD⟩, hS.F ht⟩) hS.2.2 dX4_wanted_27
  · skip
    have c_1 : run = false := zb_0 c_1
    exact absurd (c_1.symm.trans hrun) (by decide)

set_option maxHeartbeats 1000000 in
set_option maxRecDepth 100000 in
theorem c_X4_done {l : Launch} {B kr kp : Nat} {D : va_G} {cI cJ cZ : ClassId} {h : Nat → Nat} {R : va_W} {n : Nat} {L : Nat → Int64} {kt : Nat → Int32} {km : Nat → Int32} {kl : Nat → Int32} {pt : Nat → Int32} {pm : Nat → Int32} {pl : Nat → Int32} {nu : Nat → Int32} {le : Nat → Int32} {ow : Nat → Int32} {fo : Nat → Int32} {run : Bool} {wc : Nat} {lc : Nat} {tr : Nat} {cl : Nat} {tm : Nat} {ms : Nat} {yl : Nat → Int32} {yc : Nat → Int32} {yt : Nat → Int32} {co : Nat} {pa : Int32} {su : Nat} {sc : Nat} {mc : Nat → Int32}    (hrun : run = true) : Met l yX4_done wsX4_done ({ frames := 1, cells := 0, slots := 0, locals := 20 }) (zPc B kr kp D (zTy cI cJ cZ) (zWT cI cJ h (n, L) (kt, km, kl) (pt, pm, pl) (nu, le, ow, fo, run, wc, lc, tr, cl, tm, ms) (yl, yc, yt, co, pa, su, sc) mc ++ R) [.ref (h 0)]) (zQi B D (zWT cI cJ h (n, L) (kt, km, kl) (pt, pm, pl) (nu, le, ow, fo, run, wc, lc, tr, cl, tm, ms) (yl, yc, yt, co, pa, su, sc) mc ++ R) (nI tr)) 0 0 (zAb B) := by
  refine Met.ofW (cc := cX4_done) (maxL := 1) (ret := (some .int)) (by decide) rfl ?_
  intro p e s m args below meth c s₁ B0 hml hv
  obtain ⟨rfl, hP, hD, hK, hE, hB⟩ := hv
  have hx := B0.exec
  have hb := B0.bytes
  have hr := B0.returns
  have hts := atoms_spec (ws := wsX4_done) B0.pre
  have hown : s.vm.findClass RX4 = some m.cls := findClass_of_methodNamed B0.named
  have hlocks := B0.notSynchronized
  have hA : ∀ q : Nat, s.heap.size ≤ q → zAb B q := fun q hq => Nat.le_trans hB hq
  have hS : va_S (zAb B) s.heap s.heap [] := va_S.rf
  have hgr : s.heap.size ≤ s.heap.size := Nat.le_refl _
  have hl := lv_entry ([.ref (h 0)]) (n := 1) (Nat.le_of_ble_eq_true rfl)
  rw [lg_entry_eq]
  generalize (lg_sl ([.ref (h 0)]) ++ List.replicate (1 - (lg_sl ([.ref (h 0)])).length) Slot.unset).toArray = ls at hl ⊢
  have hl : lv_has ls 1 [(0, .ref (h 0))] := hl
  have hinX4 : ∀ w ∈ wsX40, w ∈ wsX4_done := fun _ h => List.mem_cons_of_mem _ (List.mem_append_left _ (List.mem_append_left _ (List.mem_append_right _ h)))
  have hP : va_P D vwCl (zWT cI cJ h (n, L) (kt, km, kl) (pt, pm, pl) (nu, le, ow, fo, run, wc, lc, tr, cl, tm, ms) (yl, yc, yt, co, pa, su, sc) mc ++ R) s.heap := hP
  have hD : va_D (zAb B) (zWT cI cJ h (n, L) (kt, km, kl) (pt, pm, pl) (nu, le, ow, fo, run, wc, lc, tr, cl, tm, ms) (yl, yc, yt, co, pa, su, sc) mc ++ R) := hD
  refine lv_aload_n hx hb dX4_done_0 rfl (lv_at hl 0 rfl) ?_
  refine va_get (ci := 4) (v := .ref (h 11)) (C := RX4) (T := TX4) (N := 6) hx hb hts hinX4 hown hK hP 0 rfl rfl 3 (by decide) (hts (.fieldLink RX4 31 "TypingTutor" "current" "LTypingTutor$Lesson;") (List.mem_of_getElem? (i := 3) rfl)) (fun _ h9 => h9) rfl dX4_done_1 ?_
  refine zci (zrV (As := []) (rest := []) ⟨hx, hb, hml, hown, hts⟩ (zV 11 hP hD hK hE hB hS rfl rfl) (c_X2_isRunning  ) (cwV 0 hts gX4_done_X2_isRunning rfl rfl rfl hdv_X2_isRunning ⟨Nat.le_of_ble_eq_true rfl, Nat.le_of_ble_eq_true rfl⟩) rfl rfl hl.1 rfl (lv_room (Nat.le_of_ble_eq_true rfl)) dX4_done_4 ⟨Nat.le_of_ble_eq_true rfl, Nat.le_of_ble_eq_true rfl⟩) hS (fun H locs hP hD hS => ?_)
  have hP : va_P D vwCl (zWT cI cJ h (n, L) (kt, km, kl) (pt, pm, pl) (nu, le, ow, fo, run, wc, lc, tr, cl, tm, ms) (yl, yc, yt, co, pa, su, sc) mc ++ R) _ := hP
  have hD : va_D (zAb B) (zWT cI cJ h (n, L) (kt, km, kl) (pt, pm, pl) (nu, le, ow, fo, run, wc, lc, tr, cl, tm, ms) (yl, yc, yt, co, pa, su, sc) mc ++ R) := hD
  refine lv_if_ne (tgt := 20) hx hb dX4_done_7 (by decide) (fun c_1 => ?_) (fun c_1 => ?_)
  · skip
    have c_1 : run = true := zb_n c_1
    refine lv_aload_n hx hb dX4_done_20 rfl (lv_at hl 0 rfl) ?_
    refine va_get (ci := 4) (v := .ref (h 11)) (C := RX4) (T := TX4) (N := 6) hx hb hts hinX4 hown hK hP 0 rfl rfl 3 (by decide) (hts (.fieldLink RX4 31 "TypingTutor" "current" "LTypingTutor$Lesson;") (List.mem_of_getElem? (i := 3) rfl)) (fun _ h9 => h9) rfl dX4_done_21 ?_
    refine zci (zrV (As := []) (rest := []) ⟨hx, hb, hml, hown, hts⟩ (zV 11 hP hD hK hE hB hS rfl rfl) (c_X2_triedTotal  ) (cwV 0 hts gX4_done_X2_triedTotal rfl rfl rfl hdv_X2_triedTotal ⟨Nat.le_of_ble_eq_true rfl, Nat.le_of_ble_eq_true rfl⟩) rfl rfl hl.1 rfl (lv_room (Nat.le_of_ble_eq_true rfl)) dX4_done_24 ⟨Nat.le_of_ble_eq_true rfl, Nat.le_of_ble_eq_true rfl⟩) hS (fun H locs hP hD hS => ?_)
    have hP : va_P D vwCl (zWT cI cJ h (n, L) (kt, km, kl) (pt, pm, pl) (nu, le, ow, fo, run, wc, lc, tr, cl, tm, ms) (yl, yc, yt, co, pa, su, sc) mc ++ R) _ := hP
    have hD : va_D (zAb B) (zWT cI cJ h (n, L) (kt, km, kl) (pt, pm, pl) (nu, le, ow, fo, run, wc, lc, tr, cl, tm, ms) (yl, yc, yt, co, pa, su, sc) mc ++ R) := hD
    exact W.iret (v := (nI tr)) hx hb hr (fun t ht hW => ⟨⟨_, (), rfl, rfl, by rw [ht]; exact hP, hD⟩, hS.F ht⟩) hS.2.2 dX4_done_27
  · skip
    have c_1 : run = false := zb_0 c_1
    exact absurd (c_1.symm.trans hrun) (by decide)

set_option maxHeartbeats 1000000 in
set_option maxRecDepth 100000 in
theorem c_X4_lessonWord {l : Launch} {B kr kp : Nat} {D : va_G} {cI cJ cZ : ClassId} {h : Nat → Nat} {R : va_W} {n : Nat} {L : Nat → Int64} {kt : Nat → Int32} {km : Nat → Int32} {kl : Nat → Int32} {pt : Nat → Int32} {pm : Nat → Int32} {pl : Nat → Int32} {nu : Nat → Int32} {le : Nat → Int32} {ow : Nat → Int32} {fo : Nat → Int32} {run : Bool} {wc : Nat} {lc : Nat} {tr : Nat} {cl : Nat} {tm : Nat} {ms : Nat} {yl : Nat → Int32} {yc : Nat → Int32} {yt : Nat → Int32} {co : Nat} {pa : Int32} {su : Nat} {sc : Nat} {mc : Nat → Int32} {k : Nat}   (hrun : run = true) (hk : k < wc) (hwc : wc ≤ 6) : Met l yX4_lessonWord wsX4_lessonWord ({ frames := 2, cells := 0, slots := 0, locals := 42 }) (zPc B kr kp D (zTy cI cJ cZ) (zWT cI cJ h (n, L) (kt, km, kl) (pt, pm, pl) (nu, le, ow, fo, run, wc, lc, tr, cl, tm, ms) (yl, yc, yt, co, pa, su, sc) mc ++ R) [.ref (h 0), .int (nI k)]) (zQi B D (zWT cI cJ h (n, L) (kt, km, kl) (pt, pm, pl) (nu, le, ow, fo, run, wc, lc, tr, cl, tm, ms) (yl, yc, yt, co, pa, su, sc) mc ++ R) (nu k)) 0 0 (zAb B) := by
  refine Met.ofW (cc := cX4_lessonWord) (maxL := 2) (ret := (some .int)) (by decide) rfl ?_
  intro p e s m args below meth c s₁ B0 hml hv
  obtain ⟨rfl, hP, hD, hK, hE, hB⟩ := hv
  have hx := B0.exec
  have hb := B0.bytes
  have hr := B0.returns
  have hts := atoms_spec (ws := wsX4_lessonWord) B0.pre
  have hown : s.vm.findClass RX4 = some m.cls := findClass_of_methodNamed B0.named
  have hlocks := B0.notSynchronized
  have hA : ∀ q : Nat, s.heap.size ≤ q → zAb B q := fun q hq => Nat.le_trans hB hq
  have hS : va_S (zAb B) s.heap s.heap [] := va_S.rf
  have hgr : s.heap.size ≤ s.heap.size := Nat.le_refl _
  have hl := lv_entry ([.ref (h 0), .int (nI k)]) (n := 2) (Nat.le_of_ble_eq_true rfl)
  rw [lg_entry_eq]
  generalize (lg_sl ([.ref (h 0), .int (nI k)]) ++ List.replicate (2 - (lg_sl ([.ref (h 0), .int (nI k)])).length) Slot.unset).toArray = ls at hl ⊢
  have hl : lv_has ls 2 [(0, .ref (h 0)), (1, .int (nI k))] := hl
  have hinX4 : ∀ w ∈ wsX40, w ∈ wsX4_lessonWord := fun _ h => List.mem_cons_of_mem _ (List.mem_append_left _ (List.mem_append_left _ (List.mem_append_left _ (List.mem_append_right _ h))))
  have hP : va_P D vwCl (zWT cI cJ h (n, L) (kt, km, kl) (pt, pm, pl) (nu, le, ow, fo, run, wc, lc, tr, cl, tm, ms) (yl, yc, yt, co, pa, su, sc) mc ++ R) s.heap := hP
  have hD : va_D (zAb B) (zWT cI cJ h (n, L) (kt, km, kl) (pt, pm, pl) (nu, le, ow, fo, run, wc, lc, tr, cl, tm, ms) (yl, yc, yt, co, pa, su, sc) mc ++ R) := hD
  refine lv_aload_n hx hb dX4_lessonWord_0 rfl (lv_at hl 0 rfl) ?_
  refine va_get (ci := 4) (v := .ref (h 11)) (C := RX4) (T := TX4) (N := 6) hx hb hts hinX4 hown hK hP 0 rfl rfl 3 (by decide) (hts (.fieldLink RX4 31 "TypingTutor" "current" "LTypingTutor$Lesson;") (List.mem_of_getElem? (i := 5) rfl)) (fun _ h9 => h9) rfl dX4_lessonWord_1 ?_
  refine zci (zrV (As := []) (rest := []) ⟨hx, hb, hml, hown, hts⟩ (zV 11 hP hD hK hE hB hS rfl rfl) (c_X2_isRunning  ) (cwV 0 hts gX4_lessonWord_X2_isRunning rfl rfl rfl hdv_X2_isRunning ⟨Nat.le_of_ble_eq_true rfl, Nat.le_of_ble_eq_true rfl⟩) rfl rfl hl.1 rfl (lv_room (Nat.le_of_ble_eq_true rfl)) dX4_lessonWord_4 ⟨Nat.le_of_ble_eq_true rfl, Nat.le_of_ble_eq_true rfl⟩) hS (fun H locs hP hD hS => ?_)
  have hP : va_P D vwCl (zWT cI cJ h (n, L) (kt, km, kl) (pt, pm, pl) (nu, le, ow, fo, run, wc, lc, tr, cl, tm, ms) (yl, yc, yt, co, pa, su, sc) mc ++ R) _ := hP
  have hD : va_D (zAb B) (zWT cI cJ h (n, L) (kt, km, kl) (pt, pm, pl) (nu, le, ow, fo, run, wc, lc, tr, cl, tm, ms) (yl, yc, yt, co, pa, su, sc) mc ++ R) := hD
  refine lv_if_ne (tgt := 20) hx hb dX4_lessonWord_7 (by decide) (fun c_1 => ?_) (fun c_1 => ?_)
  · skip
    have c_1 : run = true := zb_n c_1
    refine lv_iload_n hx hb dX4_lessonWord_20 rfl (lv_at hl 1 rfl) ?_
    refine lv_if_lt (tgt := 35) hx hb dX4_lessonWord_21 (by decide) (fun c_2 => ?_) (fun c_2 => ?_)
    · skip
      have c_2 : k < 0 := (nI_ltI (a := k) (b := 0) (by omega) (by omega)).mp c_2
      exfalso; first | omega | (revert c_2; decide) | (exact absurd rfl c_2) | simp_all
    · skip
      have c_2 : ¬ k < 0 := fun hh => c_2 ((nI_ltI (a := k) (b := 0) (by omega) (by omega)).mpr hh)
      refine lv_iload_n hx hb dX4_lessonWord_24 rfl (lv_at hl 1 rfl) ?_
      refine lv_aload_n hx hb dX4_lessonWord_25 rfl (lv_at hl 0 rfl) ?_
      refine va_get (ci := 4) (v := .ref (h 11)) (C := RX4) (T := TX4) (N := 6) hx hb hts hinX4 hown hK hP 0 rfl rfl 3 (by decide) (hts (.fieldLink RX4 31 "TypingTutor" "current" "LTypingTutor$Lesson;") (List.mem_of_getElem? (i := 5) rfl)) (fun _ h9 => h9) rfl dX4_lessonWord_26 ?_
      refine zci (zrV (As := []) (rest := [.int (nI k)]) ⟨hx, hb, hml, hown, hts⟩ (zV 11 hP hD hK hE hB hS rfl rfl) (c_X2_wordTotal  ) (cwV 0 hts gX4_lessonWord_X2_wordTotal rfl rfl rfl hdv_X2_wordTotal ⟨Nat.le_of_ble_eq_true rfl, Nat.le_of_ble_eq_true rfl⟩) rfl rfl hl.1 rfl (lv_room (Nat.le_of_ble_eq_true rfl)) dX4_lessonWord_29 ⟨Nat.le_of_ble_eq_true rfl, Nat.le_of_ble_eq_true rfl⟩) hS (fun H locs hP hD hS => ?_)
      have hP : va_P D vwCl (zWT cI cJ h (n, L) (kt, km, kl) (pt, pm, pl) (nu, le, ow, fo, run, wc, lc, tr, cl, tm, ms) (yl, yc, yt, co, pa, su, sc) mc ++ R) _ := hP
      have hD : va_D (zAb B) (zWT cI cJ h (n, L) (kt, km, kl) (pt, pm, pl) (nu, le, ow, fo, run, wc, lc, tr, cl, tm, ms) (yl, yc, yt, co, pa, su, sc) mc ++ R) := hD
      refine lv_icmp_lt (tgt := 45) hx hb dX4_lessonWord_32 (by decide) (fun c_3 => ?_) (fun c_3 => ?_)
      · skip
        have c_3 : k < wc := (nI_ltI (a := k) (b := wc) (by omega) (by omega)).mp c_3
        refine lv_aload_n hx hb dX4_lessonWord_45 rfl (lv_at hl 0 rfl) ?_
        refine va_get (ci := 4) (v := .ref (h 11)) (C := RX4) (T := TX4) (N := 6) hx hb hts hinX4 hown hK hP 0 rfl rfl 3 (by decide) (hts (.fieldLink RX4 31 "TypingTutor" "current" "LTypingTutor$Lesson;") (List.mem_of_getElem? (i := 5) rfl)) (fun _ h9 => h9) rfl dX4_lessonWord_46 ?_
        refine lv_iload_n hx hb dX4_lessonWord_49 rfl (lv_at hl 1 rfl) ?_
        refine zci (zrV (As := [.int (nI k)]) (rest := []) ⟨hx, hb, hml, hown, hts⟩ (zV 11 hP hD hK hE hB hS rfl rfl) (c_X2_numberAt (k := k) (by omega)) (cwV 1 hts gX4_lessonWord_X2_numberAt rfl rfl rfl hdv_X2_numberAt ⟨Nat.le_of_ble_eq_true rfl, Nat.le_of_ble_eq_true rfl⟩) rfl rfl hl.1 rfl (lv_room (Nat.le_of_ble_eq_true rfl)) dX4_lessonWord_50 ⟨Nat.le_of_ble_eq_true rfl, Nat.le_of_ble_eq_true rfl⟩) hS (fun H locs hP hD hS => ?_)
        have hP : va_P D vwCl (zWT cI cJ h (n, L) (kt, km, kl) (pt, pm, pl) (nu, le, ow, fo, run, wc, lc, tr, cl, tm, ms) (yl, yc, yt, co, pa, su, sc) mc ++ R) _ := hP
        have hD : va_D (zAb B) (zWT cI cJ h (n, L) (kt, km, kl) (pt, pm, pl) (nu, le, ow, fo, run, wc, lc, tr, cl, tm, ms) (yl, yc, yt, co, pa, su, sc) mc ++ R) := hD
        exact W.iret (v := (nu k)) hx hb hr (fun t ht hW => ⟨⟨_, (), rfl, rfl, by rw [ht]; exact hP, hD⟩, hS.F ht⟩) hS.2.2 dX4_lessonWord_53
      · skip
        have c_3 : ¬ k < wc := fun hh => c_3 ((nI_ltI (a := k) (b := wc) (by omega) (by omega)).mpr hh)
        exfalso; first | omega | (revert c_3; decide) | (exact absurd rfl c_3) | simp_all
  · skip
    have c_1 : run = false := zb_0 c_1
    exact absurd (c_1.symm.trans hrun) (by decide)

set_option maxHeartbeats 1000000 in
set_option maxRecDepth 100000 in
theorem c_X4_lessonWord_x1 {l : Launch} {B kr kp : Nat} {D : va_G} {cI cJ cZ : ClassId} {h : Nat → Nat} {R : va_W} {n : Nat} {L : Nat → Int64} {kt : Nat → Int32} {km : Nat → Int32} {kl : Nat → Int32} {pt : Nat → Int32} {pm : Nat → Int32} {pl : Nat → Int32} {nu : Nat → Int32} {le : Nat → Int32} {ow : Nat → Int32} {fo : Nat → Int32} {run : Bool} {wc : Nat} {lc : Nat} {tr : Nat} {cl : Nat} {tm : Nat} {ms : Nat} {yl : Nat → Int32} {yc : Nat → Int32} {yt : Nat → Int32} {co : Nat} {pa : Int32} {su : Nat} {sc : Nat} {mc : Nat → Int32} {i : Int32}   (hls : l.stackTraces = false) (hrun : run = false) : vx_Met l yX4_lessonWord wsX4_lessonWord ({ frames := 6, cells := 1, slots := 6, locals := 82 }) (zPc B kr kp D (zTy cI cJ cZ) (zWT cI cJ h (n, L) (kt, km, kl) (pt, pm, pl) (nu, le, ow, fo, run, wc, lc, tr, cl, tm, ms) (yl, yc, yt, co, pa, su, sc) mc ++ R) [.ref (h 0), .int i]) (zQxi B D (zWT cI cJ h (n, L) (kt, km, kl) (pt, pm, pl) (nu, le, ow, fo, run, wc, lc, tr, cl, tm, ms) (yl, yc, yt, co, pa, su, sc) mc ++ R)) (zXC "java/lang/IllegalStateException" B D (zWT cI cJ h (n, L) (kt, km, kl) (pt, pm, pl) (nu, le, ow, fo, run, wc, lc, tr, cl, tm, ms) (yl, yc, yt, co, pa, su, sc) mc ++ R)) 1 6 (zAb B) := by
  refine vx_ofW (cc := cX4_lessonWord) (maxL := 2) (ret := (some .int)) (by decide) rfl ?_
  intro p e s m args below meth c s₁ B0 hml ht9 hv
  obtain ⟨rfl, hP, hD, hK, hE, hB⟩ := hv
  have hx := B0.exec
  have hb := B0.bytes
  have hr := B0.returns
  have hts := atoms_spec (ws := wsX4_lessonWord) B0.pre
  have hown : s.vm.findClass RX4 = some m.cls := findClass_of_methodNamed B0.named
  have hlocks := B0.notSynchronized
  have hA : ∀ q : Nat, s.heap.size ≤ q → zAb B q := fun q hq => Nat.le_trans hB hq
  have hS : va_S (zAb B) s.heap s.heap [] := va_S.rf
  have hgr : s.heap.size ≤ s.heap.size := Nat.le_refl _
  have hl := lv_entry ([.ref (h 0), .int i]) (n := 2) (Nat.le_of_ble_eq_true rfl)
  rw [lg_entry_eq]
  generalize (lg_sl ([.ref (h 0), .int i]) ++ List.replicate (2 - (lg_sl ([.ref (h 0), .int i])).length) Slot.unset).toArray = ls at hl ⊢
  have hl : lv_has ls 2 [(0, .ref (h 0)), (1, .int i)] := hl
  have hinX4 : ∀ w ∈ wsX40, w ∈ wsX4_lessonWord := fun _ h => List.mem_cons_of_mem _ (List.mem_append_left _ (List.mem_append_left _ (List.mem_append_left _ (List.mem_append_right _ h))))
  have hP : va_P D vwCl (zWT cI cJ h (n, L) (kt, km, kl) (pt, pm, pl) (nu, le, ow, fo, run, wc, lc, tr, cl, tm, ms) (yl, yc, yt, co, pa, su, sc) mc ++ R) s.heap := hP
  have hD : va_D (zAb B) (zWT cI cJ h (n, L) (kt, km, kl) (pt, pm, pl) (nu, le, ow, fo, run, wc, lc, tr, cl, tm, ms) (yl, yc, yt, co, pa, su, sc) mc ++ R) := hD
  refine lv_aload_n hx hb dX4_lessonWord_0 rfl (lv_at hl 0 rfl) ?_
  refine va_get (ci := 4) (v := .ref (h 11)) (C := RX4) (T := TX4) (N := 6) hx hb hts hinX4 hown hK hP 0 rfl rfl 3 (by decide) (hts (.fieldLink RX4 31 "TypingTutor" "current" "LTypingTutor$Lesson;") (List.mem_of_getElem? (i := 5) rfl)) (fun _ h9 => h9) rfl dX4_lessonWord_1 ?_
  refine zci (zrV (As := []) (rest := []) ⟨hx, hb, hml, hown, hts⟩ (zV 11 hP hD hK hE hB hS rfl rfl) (c_X2_isRunning  ) (cwV 0 hts gX4_lessonWord_X2_isRunning rfl rfl rfl hdv_X2_isRunning ⟨Nat.le_of_ble_eq_true rfl, Nat.le_of_ble_eq_true rfl⟩) rfl rfl hl.1 rfl (lv_room (Nat.le_of_ble_eq_true rfl)) dX4_lessonWord_4 ⟨Nat.le_of_ble_eq_true rfl, Nat.le_of_ble_eq_true rfl⟩) hS (fun H locs hP hD hS => ?_)
  have hP : va_P D vwCl (zWT cI cJ h (n, L) (kt, km, kl) (pt, pm, pl) (nu, le, ow, fo, run, wc, lc, tr, cl, tm, ms) (yl, yc, yt, co, pa, su, sc) mc ++ R) _ := hP
  have hD : va_D (zAb B) (zWT cI cJ h (n, L) (kt, km, kl) (pt, pm, pl) (nu, le, ow, fo, run, wc, lc, tr, cl, tm, ms) (yl, yc, yt, co, pa, su, sc) mc ++ R) := hD
  refine lv_if_ne (tgt := 20) hx hb dX4_lessonWord_7 (by decide) (fun c_1 => ?_) (fun c_1 => ?_)
  · skip
    have c_1 : run = true := zb_n c_1
    exact absurd (c_1.symm.trans hrun) (by decide)
  · skip
    have c_1 : run = false := zb_0 c_1
    exact zthrow hx hb hls hown hE hP hD hS (hl.1.trans hml.symm) ht9 hlocks (by decide +kernel) (List.mem_of_getElem? (i := 7) rfl) (by decide +kernel) (hts (.classLink RX4 64 "java/lang/IllegalStateException") (List.mem_of_getElem? (i := 1) rfl)) (hts (.initialized "java/lang/IllegalStateException") (List.mem_of_getElem? (i := 2) rfl)) (fun w h9 => hts w (List.mem_cons_of_mem _ (List.mem_append_left _ (List.mem_append_right _ h9)))) (by decide +kernel) (by decide +kernel) dX4_lessonWord_10 dX4_lessonWord_13 dX4_lessonWord_14 dX4_lessonWord_16 dX4_lessonWord_19 ⟨Nat.le_of_ble_eq_true rfl, Nat.le_of_ble_eq_true rfl, Nat.le_of_ble_eq_true rfl, Nat.le_of_ble_eq_true rfl⟩

set_option maxHeartbeats 1000000 in
set_option maxRecDepth 100000 in
theorem c_X4_lessonWord_x2 {l : Launch} {B kr kp : Nat} {D : va_G} {cI cJ cZ : ClassId} {h : Nat → Nat} {R : va_W} {n : Nat} {L : Nat → Int64} {kt : Nat → Int32} {km : Nat → Int32} {kl : Nat → Int32} {pt : Nat → Int32} {pm : Nat → Int32} {pl : Nat → Int32} {nu : Nat → Int32} {le : Nat → Int32} {ow : Nat → Int32} {fo : Nat → Int32} {run : Bool} {wc : Nat} {lc : Nat} {tr : Nat} {cl : Nat} {tm : Nat} {ms : Nat} {yl : Nat → Int32} {yc : Nat → Int32} {yt : Nat → Int32} {co : Nat} {pa : Int32} {su : Nat} {sc : Nat} {mc : Nat → Int32} {i : Int32}   (hls : l.stackTraces = false) (hrun : run = true) (hi : i < 0 ∨ ¬ i < nI wc) : vx_Met l yX4_lessonWord wsX4_lessonWord ({ frames := 6, cells := 1, slots := 6, locals := 82 }) (zPc B kr kp D (zTy cI cJ cZ) (zWT cI cJ h (n, L) (kt, km, kl) (pt, pm, pl) (nu, le, ow, fo, run, wc, lc, tr, cl, tm, ms) (yl, yc, yt, co, pa, su, sc) mc ++ R) [.ref (h 0), .int i]) (zQxi B D (zWT cI cJ h (n, L) (kt, km, kl) (pt, pm, pl) (nu, le, ow, fo, run, wc, lc, tr, cl, tm, ms) (yl, yc, yt, co, pa, su, sc) mc ++ R)) (zXC "java/lang/IndexOutOfBoundsException" B D (zWT cI cJ h (n, L) (kt, km, kl) (pt, pm, pl) (nu, le, ow, fo, run, wc, lc, tr, cl, tm, ms) (yl, yc, yt, co, pa, su, sc) mc ++ R)) 1 6 (zAb B) := by
  refine vx_ofW (cc := cX4_lessonWord) (maxL := 2) (ret := (some .int)) (by decide) rfl ?_
  intro p e s m args below meth c s₁ B0 hml ht9 hv
  obtain ⟨rfl, hP, hD, hK, hE, hB⟩ := hv
  have hx := B0.exec
  have hb := B0.bytes
  have hr := B0.returns
  have hts := atoms_spec (ws := wsX4_lessonWord) B0.pre
  have hown : s.vm.findClass RX4 = some m.cls := findClass_of_methodNamed B0.named
  have hlocks := B0.notSynchronized
  have hA : ∀ q : Nat, s.heap.size ≤ q → zAb B q := fun q hq => Nat.le_trans hB hq
  have hS : va_S (zAb B) s.heap s.heap [] := va_S.rf
  have hgr : s.heap.size ≤ s.heap.size := Nat.le_refl _
  have hl := lv_entry ([.ref (h 0), .int i]) (n := 2) (Nat.le_of_ble_eq_true rfl)
  rw [lg_entry_eq]
  generalize (lg_sl ([.ref (h 0), .int i]) ++ List.replicate (2 - (lg_sl ([.ref (h 0), .int i])).length) Slot.unset).toArray = ls at hl ⊢
  have hl : lv_has ls 2 [(0, .ref (h 0)), (1, .int i)] := hl
  have hinX4 : ∀ w ∈ wsX40, w ∈ wsX4_lessonWord := fun _ h => List.mem_cons_of_mem _ (List.mem_append_left _ (List.mem_append_left _ (List.mem_append_left _ (List.mem_append_right _ h))))
  have hP : va_P D vwCl (zWT cI cJ h (n, L) (kt, km, kl) (pt, pm, pl) (nu, le, ow, fo, run, wc, lc, tr, cl, tm, ms) (yl, yc, yt, co, pa, su, sc) mc ++ R) s.heap := hP
  have hD : va_D (zAb B) (zWT cI cJ h (n, L) (kt, km, kl) (pt, pm, pl) (nu, le, ow, fo, run, wc, lc, tr, cl, tm, ms) (yl, yc, yt, co, pa, su, sc) mc ++ R) := hD
  refine lv_aload_n hx hb dX4_lessonWord_0 rfl (lv_at hl 0 rfl) ?_
  refine va_get (ci := 4) (v := .ref (h 11)) (C := RX4) (T := TX4) (N := 6) hx hb hts hinX4 hown hK hP 0 rfl rfl 3 (by decide) (hts (.fieldLink RX4 31 "TypingTutor" "current" "LTypingTutor$Lesson;") (List.mem_of_getElem? (i := 5) rfl)) (fun _ h9 => h9) rfl dX4_lessonWord_1 ?_
  refine zci (zrV (As := []) (rest := []) ⟨hx, hb, hml, hown, hts⟩ (zV 11 hP hD hK hE hB hS rfl rfl) (c_X2_isRunning  ) (cwV 0 hts gX4_lessonWord_X2_isRunning rfl rfl rfl hdv_X2_isRunning ⟨Nat.le_of_ble_eq_true rfl, Nat.le_of_ble_eq_true rfl⟩) rfl rfl hl.1 rfl (lv_room (Nat.le_of_ble_eq_true rfl)) dX4_lessonWord_4 ⟨Nat.le_of_ble_eq_true rfl, Nat.le_of_ble_eq_true rfl⟩) hS (fun H locs hP hD hS => ?_)
  have hP : va_P D vwCl (zWT cI cJ h (n, L) (kt, km, kl) (pt, pm, pl) (nu, le, ow, fo, run, wc, lc, tr, cl, tm, ms) (yl, yc, yt, co, pa, su, sc) mc ++ R) _ := hP
  have hD : va_D (zAb B) (zWT cI cJ h (n, L) (kt, km, kl) (pt, pm, pl) (nu, le, ow, fo, run, wc, lc, tr, cl, tm, ms) (yl, yc, yt, co, pa, su, sc) mc ++ R) := hD
  refine lv_if_ne (tgt := 20) hx hb dX4_lessonWord_7 (by decide) (fun c_1 => ?_) (fun c_1 => ?_)
  · skip
    have c_1 : run = true := zb_n c_1
    refine lv_iload_n hx hb dX4_lessonWord_20 rfl (lv_at hl 1 rfl) ?_
    refine lv_if_lt (tgt := 35) hx hb dX4_lessonWord_21 (by decide) (fun c_2 => ?_) (fun c_2 => ?_)
    · skip
      exact zthrow hx hb hls hown hE hP hD hS (hl.1.trans hml.symm) ht9 hlocks (by decide +kernel) (List.mem_of_getElem? (i := 8) rfl) (by decide +kernel) (hts (.classLink RX4 81 "java/lang/IndexOutOfBoundsException") (List.mem_of_getElem? (i := 3) rfl)) (hts (.initialized "java/lang/IndexOutOfBoundsException") (List.mem_of_getElem? (i := 4) rfl)) (fun w h9 => hts w (List.mem_cons_of_mem _ (List.mem_append_right _ h9))) (by decide +kernel) (by decide +kernel) dX4_lessonWord_35 dX4_lessonWord_38 dX4_lessonWord_39 dX4_lessonWord_41 dX4_lessonWord_44 ⟨Nat.le_of_ble_eq_true rfl, Nat.le_of_ble_eq_true rfl, Nat.le_of_ble_eq_true rfl, Nat.le_of_ble_eq_true rfl⟩
    · skip
      refine lv_iload_n hx hb dX4_lessonWord_24 rfl (lv_at hl 1 rfl) ?_
      refine lv_aload_n hx hb dX4_lessonWord_25 rfl (lv_at hl 0 rfl) ?_
      refine va_get (ci := 4) (v := .ref (h 11)) (C := RX4) (T := TX4) (N := 6) hx hb hts hinX4 hown hK hP 0 rfl rfl 3 (by decide) (hts (.fieldLink RX4 31 "TypingTutor" "current" "LTypingTutor$Lesson;") (List.mem_of_getElem? (i := 5) rfl)) (fun _ h9 => h9) rfl dX4_lessonWord_26 ?_
      refine zci (zrV (As := []) (rest := [.int i]) ⟨hx, hb, hml, hown, hts⟩ (zV 11 hP hD hK hE hB hS rfl rfl) (c_X2_wordTotal  ) (cwV 0 hts gX4_lessonWord_X2_wordTotal rfl rfl rfl hdv_X2_wordTotal ⟨Nat.le_of_ble_eq_true rfl, Nat.le_of_ble_eq_true rfl⟩) rfl rfl hl.1 rfl (lv_room (Nat.le_of_ble_eq_true rfl)) dX4_lessonWord_29 ⟨Nat.le_of_ble_eq_true rfl, Nat.le_of_ble_eq_true rfl⟩) hS (fun H locs hP hD hS => ?_)
      have hP : va_P D vwCl (zWT cI cJ h (n, L) (kt, km, kl) (pt, pm, pl) (nu, le, ow, fo, run, wc, lc, tr, cl, tm, ms) (yl, yc, yt, co, pa, su, sc) mc ++ R) _ := hP
      have hD : va_D (zAb B) (zWT cI cJ h (n, L) (kt, km, kl) (pt, pm, pl) (nu, le, ow, fo, run, wc, lc, tr, cl, tm, ms) (yl, yc, yt, co, pa, su, sc) mc ++ R) := hD
      refine lv_icmp_lt (tgt := 45) hx hb dX4_lessonWord_32 (by decide) (fun c_3 => ?_) (fun c_3 => ?_)
      · skip
        exact hi.elim (fun q => absurd q c_2) (fun q => absurd c_3 q)
      · skip
        exact zthrow hx hb hls hown hE hP hD hS (hl.1.trans hml.symm) ht9 hlocks (by decide +kernel) (List.mem_of_getElem? (i := 8) rfl) (by decide +kernel) (hts (.classLink RX4 81 "java/lang/IndexOutOfBoundsException") (List.mem_of_getElem? (i := 3) rfl)) (hts (.initialized "java/lang/IndexOutOfBoundsException") (List.mem_of_getElem? (i := 4) rfl)) (fun w h9 => hts w (List.mem_cons_of_mem _ (List.mem_append_right _ h9))) (by decide +kernel) (by decide +kernel) dX4_lessonWord_35 dX4_lessonWord_38 dX4_lessonWord_39 dX4_lessonWord_41 dX4_lessonWord_44 ⟨Nat.le_of_ble_eq_true rfl, Nat.le_of_ble_eq_true rfl, Nat.le_of_ble_eq_true rfl, Nat.le_of_ble_eq_true rfl⟩
  · skip
    have c_1 : run = false := zb_0 c_1
    exact absurd (c_1.symm.trans hrun) (by decide)
