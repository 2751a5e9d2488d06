set_option maxHeartbeats 1000000 in
set_option maxRecDepth 100000 in
theorem c_X5_digest {l : Launch} {B kr kp : Nat} {D : va_G} {cI cJ cZ : ClassId} {h : Nat → Nat} {R : va_W} {th : Int32} {n : Nat} {L : Nat → Int64} {kt : Nat → Int32} {km : Nat → Int32} {kl : Nat → Int32} {pt : Nat → Int32} {pm : Nat → Int32} {pl : Nat → Int32} {nu : Nat → Int32} {le : Nat → Int32} {af : Nat → Int32} {run : Bool} {wc : Nat} {lc : Nat} {tr : Nat} {cl : Nat} {tm : Nat} {ms : Nat} {co : Nat} {yn : Nat} {yh : Nat → Int32} {pa : Int32} {mc : Nat → Int32}  {yl : Nat → Int32} {yc : Nat → Int32} {yt : Nat → Int32}  (hn : n ≤ 40) (hwc : wc ≤ 6) (hco : co ≤ 256) (hH : zHi yh yl yc yt co) (hhn : 3 * co ≤ yn) (hh3 : yn ≤ 1530) : Met l yX5_digest wsX5_digest ({ frames := 1, cells := 0, slots := 0, locals := 22 }) (zPc B kr kp D (zTy cI cJ cZ) (zWM cI cJ cZ h th (n, L) ((zcb kt pt), (zcb km pm), (zcb kl pl)) mc (run, wc, nu, lc, le, af, tr, ms, cl, tm) (co, yn, yh, pa) ++ R) [.ref (h 0)]) (zQl B D (zWM cI cJ cZ h 0 (n, L) ((zcb kt pt), (zcb km pm), (zcb kl pl)) mc (run, wc, nu, lc, le, af, tr, ms, cl, tm) (co, yn, yh, pa) ++ R) (zmx (zdH yl yc yt (zmx (zdL run nu wc tr (zd4 mc (zdP pt pm pl (zdK kt km kl (zdW L (zmx 191 (nI n).toInt64) n) 26) 676))) (nI co).toInt64) co) pa.toInt64)) 0 0 (zAb B) := by
  cases run with
  | true =>
    refine Met.ofW (cc := cX5_digest) (maxL := 5) (ret := (some .long)) (by decide) rfl ?_
    intro p e s m args below meth c s₁ B0 hml hv
    obtain ⟨rfl, hP, hD, hK, hE, hB⟩ := hv
    have hx := B0.exec
    have hb := B0.bytes
    have hr := B0.returns
    have hts := atoms_spec (ws := wsX5_digest) B0.pre
    have hown : s.vm.findClass RX5 = some m.cls := findClass_of_methodNamed B0.named
    have hlocks := B0.notSynchronized
    have hA : ∀ q : Nat, s.heap.size ≤ q → zAb B q := fun q hq => Nat.le_trans hB hq
    have hS : va_S (zAb B) s.heap s.heap [] := va_S.rf
    have hgr : s.heap.size ≤ s.heap.size := Nat.le_refl _
    have hl := lv_entry ([.ref (h 0)]) (n := 5) (Nat.le_of_ble_eq_true rfl)
    rw [lg_entry_eq]
    generalize (lg_sl ([.ref (h 0)]) ++ List.replicate (5 - (lg_sl ([.ref (h 0)])).length) Slot.unset).toArray = ls at hl ⊢
    have hl : lv_has ls 5 [(0, .ref (h 0))] := hl
    have hinX5 : ∀ w ∈ wsX50, w ∈ wsX5_digest := fun _ h => List.mem_cons_of_mem _ (List.mem_append_right _ h)
    have hP : va_P D vwCl (zWM cI cJ cZ h th (n, L) ((zcb kt pt), (zcb km pm), (zcb kl pl)) mc (true, wc, nu, lc, le, af, tr, ms, cl, tm) (co, yn, yh, pa) ++ R) s.heap := hP
    have hD : va_D (zAb B) (zWM cI cJ cZ h th (n, L) ((zcb kt pt), (zcb km pm), (zcb kl pl)) mc (true, wc, nu, lc, le, af, tr, ms, cl, tm) (co, yn, yh, pa) ++ R) := hD
    refine lv_aload_n hx hb dX5_digest_0 rfl (lv_at hl 0 rfl) ?_
    refine lv_iconst (v := 0) hx hb dX5_digest_1 (by decide) ?_
    refine va_put (ci := 5) (v := .int 0) (ty := .int) (C := RX5) (T := TX5) (N := 20) hx hb hts hinX5 tyX5 tyX5_ok nmX5 hown hK hP hD hS 0 rfl rfl 0 (by decide) (hts (.fieldLink RX5 43 "TypingTutorModel" "thrown" "I") (List.mem_of_getElem? (i := 1) rfl)) (fun _ h9 => h9) rfl (by decide +kernel) rfl rfl (Nat.le_of_ble_eq_true rfl) dX5_digest_2 (fun H locs hP hD hS => ?_)
    have hP : va_P D vwCl (zWM cI cJ cZ h 0 (n, L) ((zcb kt pt), (zcb km pm), (zcb kl pl)) mc (true, wc, nu, lc, le, af, tr, ms, cl, tm) (co, yn, yh, pa) ++ R) _ := hP
    have hD : va_D (zAb B) (zWM cI cJ cZ h 0 (n, L) ((zcb kt pt), (zcb km pm), (zcb kl pl)) mc (true, wc, nu, lc, le, af, tr, ms, cl, tm) (co, yn, yh, pa) ++ R) := hD
    refine lv_ldc2 hx hb hown (hts (.constantLong RX5 173 (5921)) (List.mem_of_getElem? (i := 2) rfl)) dX5_digest_5 ?_
    refine lv_aload_n hx hb dX5_digest_8 rfl (lv_at hl 0 rfl) ?_
    refine va_get (ci := 5) (v := .int (nI n)) (C := RX5) (T := TX5) (N := 20) hx hb hts hinX5 hown hK hP 0 rfl rfl 1 (by decide) (hts (.fieldLink RX5 46 "TypingTutorModel" "words" "I") (List.mem_of_getElem? (i := 3) rfl)) (fun _ h9 => h9) rfl dX5_digest_9 ?_
    refine lv_i2l (v := ((nI n)).toInt64) hx hb dX5_digest_12 rfl ?_
    refine lv_ladd hx hb dX5_digest_13 ?_
    refine lv_lstore_n (lv' := [(1, .long (5921 + (((nI n)).toInt64))), (0, .ref (h 0))]) hx hb dX5_digest_14 rfl hl (by decide) rfl (fun ls hl => ?_)
    refine lv_iconst (v := 0) hx hb dX5_digest_15 (by decide) ?_
    refine lv_istore_n (lv' := [(3, .int 0), (1, .long (5921 + (((nI n)).toInt64))), (0, .ref (h 0))]) hx hb dX5_digest_16 rfl hl (by decide) rfl (fun ls hl => ?_)
    refine zloop (σ := (Nat) × (Int64)) (nL := 5) (fun x9 => (zWM cI cJ cZ h 0 (n, L) ((zcb kt pt), (zcb km pm), (zcb kl pl)) mc (true, wc, nu, lc, le, af, tr, ms, cl, tm) (co, yn, yh, pa) ++ R)) (fun x9 => [(3, .int (nI x9.1)), (1, .long x9.2), (0, .ref (h 0))]) (fun x9 => []) (fun x9 => (x9.1 ≤ n) ∧ x9.2 = zdW L (zmx 191 (nI n).toInt64) x9.1) (fun x9 => n - x9.1) ?_ (0, 5921 + (nI n).toInt64) (⟨by omega, zmx_191 _⟩) _ _ _ hP hD hS (lv_sub hl [0, 1, 2] rfl)
    rintro ⟨j, z⟩ hI ih H locs ls hP hD hS hl
    try dsimp only at hI ih hP hD hS hl ⊢
    obtain ⟨hI, rfl⟩ := hI
    refine lv_iload_n hx hb dX5_digest_17 rfl (lv_at hl 0 rfl) ?_
    refine lv_aload_n hx hb dX5_digest_18 rfl (lv_at hl 2 rfl) ?_
    refine va_get (ci := 5) (v := .int (nI n)) (C := RX5) (T := TX5) (N := 20) hx hb hts hinX5 hown hK hP 0 rfl rfl 1 (by decide) (hts (.fieldLink RX5 46 "TypingTutorModel" "words" "I") (List.mem_of_getElem? (i := 3) rfl)) (fun _ h9 => h9) rfl dX5_digest_19 ?_
    refine lv_icmp_ge (tgt := 44) hx hb dX5_digest_22 (by decide) (fun c_1 => ?_) (fun c_1 => ?_)
    · skip
      have c_1 : n ≤ j := (nI_leI (a := n) (b := j) (by omega) (by omega)).mp c_1
      obtain rfl : n = j := by omega
      refine lv_iconst (v := 0) hx hb dX5_digest_44 (by decide) ?_
      refine lv_istore_n (lv' := [(3, .int 0), (1, .long (zdW L (zmx 191 (nI n).toInt64) n)), (0, .ref (h 0))]) hx hb dX5_digest_45 rfl hl (by decide) rfl (fun ls hl => ?_)
      refine zloop (σ := (Nat) × (Int64)) (nL := 5) (fun x9 => (zWM cI cJ cZ h 0 (n, L) ((zcb kt pt), (zcb km pm), (zcb kl pl)) mc (true, wc, nu, lc, le, af, tr, ms, cl, tm) (co, yn, yh, pa) ++ R)) (fun x9 => [(3, .int (nI x9.1)), (1, .long x9.2), (0, .ref (h 0))]) (fun x9 => []) (fun x9 => (x9.1 ≤ 26) ∧ x9.2 = zdK kt km kl (zdW L (zmx 191 (nI n).toInt64) n) x9.1) (fun x9 => 26 - x9.1) ?_ (0, zdW L (zmx 191 (nI n).toInt64) n) (⟨by omega, rfl⟩) _ _ _ hP hD hS (lv_sub hl [0, 1, 2] rfl)
      rintro ⟨j, z⟩ hI ih H locs ls hP hD hS hl
      try dsimp only at hI ih hP hD hS hl ⊢
      obtain ⟨hI, rfl⟩ := hI
      refine lv_iload_n hx hb dX5_digest_46 rfl (lv_at hl 0 rfl) ?_
      refine lv_bipush (v := 26) hx hb dX5_digest_47 (by decide) ?_
      refine lv_icmp_ge (tgt := 88) hx hb dX5_digest_49 (by decide) (fun c_2 => ?_) (fun c_2 => ?_)
      · skip
        have c_2 : 26 ≤ j := (nI_leI (a := 26) (b := j) (by omega) (by omega)).mp c_2
        obtain rfl : 26 = j := by omega
        refine lv_iconst (v := 0) hx hb dX5_digest_88 (by decide) ?_
        refine lv_istore_n (lv' := [(3, .int 0), (1, .long (zdK kt km kl (zdW L (zmx 191 (nI n).toInt64) n) 26)), (0, .ref (h 0))]) hx hb dX5_digest_89 rfl hl (by decide) rfl (fun ls hl => ?_)
        refine zloop (σ := (Nat) × (Int64)) (nL := 5) (fun x9 => (zWM cI cJ cZ h 0 (n, L) ((zcb kt pt), (zcb km pm), (zcb kl pl)) mc (true, wc, nu, lc, le, af, tr, ms, cl, tm) (co, yn, yh, pa) ++ R)) (fun x9 => [(3, .int (nI x9.1)), (1, .long x9.2), (0, .ref (h 0))]) (fun x9 => []) (fun x9 => (x9.1 ≤ 676) ∧ x9.2 = zdP pt pm pl (zdK kt km kl (zdW L (zmx 191 (nI n).toInt64) n) 26) x9.1) (fun x9 => 676 - x9.1) ?_ (0, zdK kt km kl (zdW L (zmx 191 (nI n).toInt64) n) 26) (⟨by omega, rfl⟩) _ _ _ hP hD hS (lv_sub hl [0, 1, 2] rfl)
        rintro ⟨j, z⟩ hI ih H locs ls hP hD hS hl
        try dsimp only at hI ih hP hD hS hl ⊢
        obtain ⟨hI, rfl⟩ := hI
        refine lv_iload_n hx hb dX5_digest_90 rfl (lv_at hl 0 rfl) ?_
        refine lv_sipush (v := 676) hx hb dX5_digest_91 (by decide) ?_
        refine lv_icmp_ge (tgt := 160) hx hb dX5_digest_94 (by decide) (fun c_3 => ?_) (fun c_3 => ?_)
        · skip
          have c_3 : 676 ≤ j := (nI_leI (a := 676) (b := j) (by omega) (by omega)).mp c_3
          obtain rfl : 676 = j := by omega
          refine lv_iconst (v := 1) hx hb dX5_digest_160 (by decide) ?_
          refine lv_istore_n (lv' := [(3, .int 1), (1, .long (zdP pt pm pl (zdK kt km kl (zdW L (zmx 191 (nI n).toInt64) n) 26) 676)), (0, .ref (h 0))]) hx hb dX5_digest_161 rfl hl (by decide) rfl (fun ls hl => ?_)
          refine lv_iload_n hx hb dX5_digest_162 rfl (lv_at hl 0 rfl) ?_
          refine lv_iconst (v := 5) hx hb dX5_digest_163 (by decide) ?_
          refine lv_icmp_ge (tgt := 187) hx hb dX5_digest_164 (by decide) (fun c_4 => ?_) (fun c_4 => ?_)
          · skip
            exfalso; first | omega | (revert c_4; decide) | (exact absurd rfl c_4) | simp_all
          · skip
            refine lv_lload_n hx hb dX5_digest_167 rfl (lv_at hl 1 rfl) ?_
            refine lv_ldc2 hx hb hown (hts (.constantLong RX5 175 (31)) (List.mem_of_getElem? (i := 4) rfl)) dX5_digest_168 ?_
            refine lv_lmul hx hb dX5_digest_171 ?_
            refine lv_aload_n hx hb dX5_digest_172 rfl (lv_at hl 2 rfl) ?_
            refine va_get (ci := 5) (v := .ref (h 5)) (C := RX5) (T := TX5) (N := 20) hx hb hts hinX5 hown hK hP 0 rfl rfl 6 (by decide) (hts (.fieldLink RX5 23 "TypingTutorModel" "kindCounts" "[I") (List.mem_of_getElem? (i := 7) rfl)) (fun _ h9 => h9) rfl dX5_digest_173 ?_
            refine lv_iload_n hx hb dX5_digest_176 rfl (lv_at hl 0 rfl) ?_
            refine va_iald hx hb hK hP 5 0 rfl rfl (vp_in_nI (n := 1) (N := 5) (by omega) (by omega)) dX5_digest_177 ?_
            rw [pk_cl (x := (1 : Int32)) 1 (rfl) (by omega)]
            refine lv_i2l (v := ((mc 1)).toInt64) hx hb dX5_digest_178 rfl ?_
            refine lv_ladd hx hb dX5_digest_179 ?_
            refine lv_lstore_n (lv' := [(1, .long (((zdP pt pm pl (zdK kt km kl (zdW L (zmx 191 (nI n).toInt64) n) 26) 676) * 31) + (((mc 1)).toInt64))), (3, .int 1), (0, .ref (h 0))]) hx hb dX5_digest_180 rfl hl (by decide) rfl (fun ls hl => ?_)
            refine lv_iinc (v := 2) (lv' := [(3, .int 2), (1, .long (((zdP pt pm pl (zdK kt km kl (zdW L (zmx 191 (nI n).toInt64) n) 26) 676) * 31) + (((mc 1)).toInt64))), (0, .ref (h 0))]) hx hb dX5_digest_181 hl (k := 1) rfl (by decide) (by decide) rfl (fun ls hl => ?_)
            refine lv_goto (tgt := 162) hx hb dX5_digest_184 (by decide) ?_
            refine lv_iload_n hx hb dX5_digest_162 rfl (lv_at hl 0 rfl) ?_
            refine lv_iconst (v := 5) hx hb dX5_digest_163 (by decide) ?_
            refine lv_icmp_ge (tgt := 187) hx hb dX5_digest_164 (by decide) (fun c_5 => ?_) (fun c_5 => ?_)
            · skip
              exfalso; first | omega | (revert c_5; decide) | (exact absurd rfl c_5) | simp_all
            · skip
              refine lv_lload_n hx hb dX5_digest_167 rfl (lv_at hl 1 rfl) ?_
              refine lv_ldc2 hx hb hown (hts (.constantLong RX5 175 (31)) (List.mem_of_getElem? (i := 4) rfl)) dX5_digest_168 ?_
              refine lv_lmul hx hb dX5_digest_171 ?_
              refine lv_aload_n hx hb dX5_digest_172 rfl (lv_at hl 2 rfl) ?_
              refine va_get (ci := 5) (v := .ref (h 5)) (C := RX5) (T := TX5) (N := 20) hx hb hts hinX5 hown hK hP 0 rfl rfl 6 (by decide) (hts (.fieldLink RX5 23 "TypingTutorModel" "kindCounts" "[I") (List.mem_of_getElem? (i := 7) rfl)) (fun _ h9 => h9) rfl dX5_digest_173 ?_
              refine lv_iload_n hx hb dX5_digest_176 rfl (lv_at hl 0 rfl) ?_
              refine va_iald hx hb hK hP 5 0 rfl rfl (vp_in_nI (n := 2) (N := 5) (by omega) (by omega)) dX5_digest_177 ?_
              rw [pk_cl (x := (2 : Int32)) 2 (rfl) (by omega)]
              refine lv_i2l (v := ((mc 2)).toInt64) hx hb dX5_digest_178 rfl ?_
              refine lv_ladd hx hb dX5_digest_179 ?_
              refine lv_lstore_n (lv' := [(1, .long (((((zdP pt pm pl (zdK kt km kl (zdW L (zmx 191 (nI n).toInt64) n) 26) 676) * 31) + (((mc 1)).toInt64)) * 31) + (((mc 2)).toInt64))), (3, .int 2), (0, .ref (h 0))]) hx hb dX5_digest_180 rfl hl (by decide) rfl (fun ls hl => ?_)
              refine lv_iinc (v := 3) (lv' := [(3, .int 3), (1, .long (((((zdP pt pm pl (zdK kt km kl (zdW L (zmx 191 (nI n).toInt64) n) 26) 676) * 31) + (((mc 1)).toInt64)) * 31) + (((mc 2)).toInt64))), (0, .ref (h 0))]) hx hb dX5_digest_181 hl (k := 1) rfl (by decide) (by decide) rfl (fun ls hl => ?_)
              refine lv_goto (tgt := 162) hx hb dX5_digest_184 (by decide) ?_
              refine lv_iload_n hx hb dX5_digest_162 rfl (lv_at hl 0 rfl) ?_
              refine lv_iconst (v := 5) hx hb dX5_digest_163 (by decide) ?_
              refine lv_icmp_ge (tgt := 187) hx hb dX5_digest_164 (by decide) (fun c_6 => ?_) (fun c_6 => ?_)
              · skip
                exfalso; first | omega | (revert c_6; decide) | (exact absurd rfl c_6) | simp_all
              · skip
                refine lv_lload_n hx hb dX5_digest_167 rfl (lv_at hl 1 rfl) ?_
                refine lv_ldc2 hx hb hown (hts (.constantLong RX5 175 (31)) (List.mem_of_getElem? (i := 4) rfl)) dX5_digest_168 ?_
                refine lv_lmul hx hb dX5_digest_171 ?_
                refine lv_aload_n hx hb dX5_digest_172 rfl (lv_at hl 2 rfl) ?_
                refine va_get (ci := 5) (v := .ref (h 5)) (C := RX5) (T := TX5) (N := 20) hx hb hts hinX5 hown hK hP 0 rfl rfl 6 (by decide) (hts (.fieldLink RX5 23 "TypingTutorModel" "kindCounts" "[I") (List.mem_of_getElem? (i := 7) rfl)) (fun _ h9 => h9) rfl dX5_digest_173 ?_
                refine lv_iload_n hx hb dX5_digest_176 rfl (lv_at hl 0 rfl) ?_
                refine va_iald hx hb hK hP 5 0 rfl rfl (vp_in_nI (n := 3) (N := 5) (by omega) (by omega)) dX5_digest_177 ?_
                rw [pk_cl (x := (3 : Int32)) 3 (rfl) (by omega)]
                refine lv_i2l (v := ((mc 3)).toInt64) hx hb dX5_digest_178 rfl ?_
                refine lv_ladd hx hb dX5_digest_179 ?_
                refine lv_lstore_n (lv' := [(1, .long (((((((zdP pt pm pl (zdK kt km kl (zdW L (zmx 191 (nI n).toInt64) n) 26) 676) * 31) + (((mc 1)).toInt64)) * 31) + (((mc 2)).toInt64)) * 31) + (((mc 3)).toInt64))), (3, .int 3), (0, .ref (h 0))]) hx hb dX5_digest_180 rfl hl (by decide) rfl (fun ls hl => ?_)
                refine lv_iinc (v := 4) (lv' := [(3, .int 4), (1, .long (((((((zdP pt pm pl (zdK kt km kl (zdW L (zmx 191 (nI n).toInt64) n) 26) 676) * 31) + (((mc 1)).toInt64)) * 31) + (((mc 2)).toInt64)) * 31) + (((mc 3)).toInt64))), (0, .ref (h 0))]) hx hb dX5_digest_181 hl (k := 1) rfl (by decide) (by decide) rfl (fun ls hl => ?_)
                refine lv_goto (tgt := 162) hx hb dX5_digest_184 (by decide) ?_
                refine lv_iload_n hx hb dX5_digest_162 rfl (lv_at hl 0 rfl) ?_
                refine lv_iconst (v := 5) hx hb dX5_digest_163 (by decide) ?_
                refine lv_icmp_ge (tgt := 187) hx hb dX5_digest_164 (by decide) (fun c_7 => ?_) (fun c_7 => ?_)
                · skip
                  exfalso; first | omega | (revert c_7; decide) | (exact absurd rfl c_7) | simp_all
                · skip
                  refine lv_lload_n hx hb dX5_digest_167 rfl (lv_at hl 1 rfl) ?_
                  refine lv_ldc2 hx hb hown (hts (.constantLong RX5 175 (31)) (List.mem_of_getElem? (i := 4) rfl)) dX5_digest_168 ?_
                  refine lv_lmul hx hb dX5_digest_171 ?_
                  refine lv_aload_n hx hb dX5_digest_172 rfl (lv_at hl 2 rfl) ?_
                  refine va_get (ci := 5) (v := .ref (h 5)) (C := RX5) (T := TX5) (N := 20) hx hb hts hinX5 hown hK hP 0 rfl rfl 6 (by decide) (hts (.fieldLink RX5 23 "TypingTutorModel" "kindCounts" "[I") (List.mem_of_getElem? (i := 7) rfl)) (fun _ h9 => h9) rfl dX5_digest_173 ?_
                  refine lv_iload_n hx hb dX5_digest_176 rfl (lv_at hl 0 rfl) ?_
                  refine va_iald hx hb hK hP 5 0 rfl rfl (vp_in_nI (n := 4) (N := 5) (by omega) (by omega)) dX5_digest_177 ?_
                  rw [pk_cl (x := (4 : Int32)) 4 (rfl) (by omega)]
                  refine lv_i2l (v := ((mc 4)).toInt64) hx hb dX5_digest_178 rfl ?_
                  refine lv_ladd hx hb dX5_digest_179 ?_
                  refine lv_lstore_n (lv' := [(1, .long (((((((((zdP pt pm pl (zdK kt km kl (zdW L (zmx 191 (nI n).toInt64) n) 26) 676) * 31) + (((mc 1)).toInt64)) * 31) + (((mc 2)).toInt64)) * 31) + (((mc 3)).toInt64)) * 31) + (((mc 4)).toInt64))), (3, .int 4), (0, .ref (h 0))]) hx hb dX5_digest_180 rfl hl (by decide) rfl (fun ls hl => ?_)
                  refine lv_iinc (v := 5) (lv' := [(3, .int 5), (1, .long (((((((((zdP pt pm pl (zdK kt km kl (zdW L (zmx 191 (nI n).toInt64) n) 26) 676) * 31) + (((mc 1)).toInt64)) * 31) + (((mc 2)).toInt64)) * 31) + (((mc 3)).toInt64)) * 31) + (((mc 4)).toInt64))), (0, .ref (h 0))]) hx hb dX5_digest_181 hl (k := 1) rfl (by decide) (by decide) rfl (fun ls hl => ?_)
                  refine lv_goto (tgt := 162) hx hb dX5_digest_184 (by decide) ?_
                  refine lv_iload_n hx hb dX5_digest_162 rfl (lv_at hl 0 rfl) ?_
                  refine lv_iconst (v := 5) hx hb dX5_digest_163 (by decide) ?_
                  refine lv_icmp_ge (tgt := 187) hx hb dX5_digest_164 (by decide) (fun c_8 => ?_) (fun c_8 => ?_)
                  · skip
                    refine lv_lload_n hx hb dX5_digest_187 rfl (lv_at hl 1 rfl) ?_
                    refine lv_ldc2 hx hb hown (hts (.constantLong RX5 175 (31)) (List.mem_of_getElem? (i := 4) rfl)) dX5_digest_188 ?_
                    refine lv_lmul hx hb dX5_digest_191 ?_
                    refine lv_aload_n hx hb dX5_digest_192 rfl (lv_at hl 2 rfl) ?_
                    refine va_get (ci := 5) (v := .int 1) (C := RX5) (T := TX5) (N := 20) hx hb hts hinX5 hown hK hP 0 rfl rfl 7 (by decide) (hts (.fieldLink RX5 106 "TypingTutorModel" "isOpen" "Z") (List.mem_of_getElem? (i := 8) rfl)) (fun _ h9 => h9) rfl dX5_digest_193 ?_
                    refine lv_if_eq (tgt := 203) hx hb dX5_digest_196 (by decide) (fun c_9 => ?_) (fun c_9 => ?_)
                    · skip
                      exfalso; first | omega | (revert c_9; decide) | (exact absurd rfl c_9) | simp_all
                    · skip
                      refine lv_lconst (v := 1) hx hb dX5_digest_199 (by decide) ?_
                      refine lv_goto (tgt := 204) hx hb dX5_digest_200 (by decide) ?_
                      refine lv_ladd hx hb dX5_digest_204 ?_
                      refine lv_lstore_n (lv' := [(1, .long (((((((((((zdP pt pm pl (zdK kt km kl (zdW L (zmx 191 (nI n).toInt64) n) 26) 676) * 31) + (((mc 1)).toInt64)) * 31) + (((mc 2)).toInt64)) * 31) + (((mc 3)).toInt64)) * 31) + (((mc 4)).toInt64)) * 31) + 1)), (3, .int 5), (0, .ref (h 0))]) hx hb dX5_digest_205 rfl hl (by decide) rfl (fun ls hl => ?_)
                      refine lv_aload_n hx hb dX5_digest_206 rfl (lv_at hl 2 rfl) ?_
                      refine va_get (ci := 5) (v := .int 1) (C := RX5) (T := TX5) (N := 20) hx hb hts hinX5 hown hK hP 0 rfl rfl 7 (by decide) (hts (.fieldLink RX5 106 "TypingTutorModel" "isOpen" "Z") (List.mem_of_getElem? (i := 8) rfl)) (fun _ h9 => h9) rfl dX5_digest_207 ?_
                      refine lv_if_eq (tgt := 267) hx hb dX5_digest_210 (by decide) (fun c_10 => ?_) (fun c_10 => ?_)
                      · skip
                        exfalso; first | omega | (revert c_10; decide) | (exact absurd rfl c_10) | simp_all
                      · skip
                        refine lv_lload_n hx hb dX5_digest_213 rfl (lv_at hl 0 rfl) ?_
                        refine lv_ldc2 hx hb hown (hts (.constantLong RX5 175 (31)) (List.mem_of_getElem? (i := 4) rfl)) dX5_digest_214 ?_
                        refine lv_lmul hx hb dX5_digest_217 ?_
                        refine lv_aload_n hx hb dX5_digest_218 rfl (lv_at hl 2 rfl) ?_
                        refine va_get (ci := 5) (v := .int (nI wc)) (C := RX5) (T := TX5) (N := 20) hx hb hts hinX5 hown hK hP 0 rfl rfl 8 (by decide) (hts (.fieldLink RX5 100 "TypingTutorModel" "lessonWords" "I") (List.mem_of_getElem? (i := 9) rfl)) (fun _ h9 => h9) rfl dX5_digest_219 ?_
                        refine lv_i2l (v := ((nI wc)).toInt64) hx hb dX5_digest_222 rfl ?_
                        refine lv_ladd hx hb dX5_digest_223 ?_
                        refine lv_lstore_n (lv' := [(1, .long (((((((((((((zdP pt pm pl (zdK kt km kl (zdW L (zmx 191 (nI n).toInt64) n) 26) 676) * 31) + (((mc 1)).toInt64)) * 31) + (((mc 2)).toInt64)) * 31) + (((mc 3)).toInt64)) * 31) + (((mc 4)).toInt64)) * 31) + 1) * 31) + (((nI wc)).toInt64))), (3, .int 5), (0, .ref (h 0))]) hx hb dX5_digest_224 rfl hl (by decide) rfl (fun ls hl => ?_)
                        refine lv_iconst (v := 0) hx hb dX5_digest_225 (by decide) ?_
                        refine lv_istore_n (lv' := [(3, .int 0), (1, .long (((((((((((((zdP pt pm pl (zdK kt km kl (zdW L (zmx 191 (nI n).toInt64) n) 26) 676) * 31) + (((mc 1)).toInt64)) * 31) + (((mc 2)).toInt64)) * 31) + (((mc 3)).toInt64)) * 31) + (((mc 4)).toInt64)) * 31) + 1) * 31) + (((nI wc)).toInt64))), (0, .ref (h 0))]) hx hb dX5_digest_226 rfl hl (by decide) rfl (fun ls hl => ?_)
                        refine zloop (σ := (Nat) × (Int64)) (nL := 5) (fun x9 => (zWM cI cJ cZ h 0 (n, L) ((zcb kt pt), (zcb km pm), (zcb kl pl)) mc (true, wc, nu, lc, le, af, tr, ms, cl, tm) (co, yn, yh, pa) ++ R)) (fun x9 => [(3, .int (nI x9.1)), (1, .long x9.2), (0, .ref (h 0))]) (fun x9 => []) (fun x9 => (x9.1 ≤ wc) ∧ x9.2 = zdN nu (zmx (zmx (zd4 mc (zdP pt pm pl (zdK kt km kl (zdW L (zmx 191 (nI n).toInt64) n) 26) 676)) 1) (nI wc).toInt64) x9.1) (fun x9 => wc - x9.1) ?_ (0, zmx (zmx (zd4 mc (zdP pt pm pl (zdK kt km kl (zdW L (zmx 191 (nI n).toInt64) n) 26) 676)) 1) (nI wc).toInt64) (⟨by omega, rfl⟩) _ _ _ hP hD hS (lv_sub hl [0, 1, 2] rfl)
                        rintro ⟨j, z⟩ hI ih H locs ls hP hD hS hl
                        try dsimp only at hI ih hP hD hS hl ⊢
                        obtain ⟨hI, rfl⟩ := hI
                        refine lv_iload_n hx hb dX5_digest_227 rfl (lv_at hl 0 rfl) ?_
                        refine lv_aload_n hx hb dX5_digest_228 rfl (lv_at hl 2 rfl) ?_
                        refine va_get (ci := 5) (v := .int (nI wc)) (C := RX5) (T := TX5) (N := 20) hx hb hts hinX5 hown hK hP 0 rfl rfl 8 (by decide) (hts (.fieldLink RX5 100 "TypingTutorModel" "lessonWords" "I") (List.mem_of_getElem? (i := 9) rfl)) (fun _ h9 => h9) rfl dX5_digest_229 ?_
                        refine lv_icmp_ge (tgt := 255) hx hb dX5_digest_232 (by decide) (fun c_11 => ?_) (fun c_11 => ?_)
                        · skip
                          have c_11 : wc ≤ j := (nI_leI (a := wc) (b := j) (by omega) (by omega)).mp c_11
                          obtain rfl : wc = j := by omega
                          refine lv_lload_n hx hb dX5_digest_255 rfl (lv_at hl 1 rfl) ?_
                          refine lv_ldc2 hx hb hown (hts (.constantLong RX5 175 (31)) (List.mem_of_getElem? (i := 4) rfl)) dX5_digest_256 ?_
                          refine lv_lmul hx hb dX5_digest_259 ?_
                          refine lv_aload_n hx hb dX5_digest_260 rfl (lv_at hl 2 rfl) ?_
                          refine va_get (ci := 5) (v := .int (nI tr)) (C := RX5) (T := TX5) (N := 20) hx hb hts hinX5 hown hK hP 0 rfl rfl 13 (by decide) (hts (.fieldLink RX5 110 "TypingTutorModel" "at" "I") (List.mem_of_getElem? (i := 11) rfl)) (fun _ h9 => h9) rfl dX5_digest_261 ?_
                          refine lv_i2l (v := ((nI tr)).toInt64) hx hb dX5_digest_264 rfl ?_
                          refine lv_ladd hx hb dX5_digest_265 ?_
                          refine lv_lstore_n (lv' := [(1, .long (((zdN nu (zmx (zmx (zd4 mc (zdP pt pm pl (zdK kt km kl (zdW L (zmx 191 (nI n).toInt64) n) 26) 676)) 1) (nI wc).toInt64) wc) * 31) + (((nI tr)).toInt64))), (3, .int (nI wc)), (0, .ref (h 0))]) hx hb dX5_digest_266 rfl hl (by decide) rfl (fun ls hl => ?_)
                          refine lv_lload_n hx hb dX5_digest_267 rfl (lv_at hl 0 rfl) ?_
                          refine lv_ldc2 hx hb hown (hts (.constantLong RX5 175 (31)) (List.mem_of_getElem? (i := 4) rfl)) dX5_digest_268 ?_
                          refine lv_lmul hx hb dX5_digest_271 ?_
                          refine lv_aload_n hx hb dX5_digest_272 rfl (lv_at hl 2 rfl) ?_
                          refine va_get (ci := 5) (v := .int (nI co)) (C := RX5) (T := TX5) (N := 20) hx hb hts hinX5 hown hK hP 0 rfl rfl 17 (by decide) (hts (.fieldLink RX5 145 "TypingTutorModel" "finished" "I") (List.mem_of_getElem? (i := 12) rfl)) (fun _ h9 => h9) rfl dX5_digest_273 ?_
                          refine lv_i2l (v := ((nI co)).toInt64) hx hb dX5_digest_276 rfl ?_
                          refine lv_ladd hx hb dX5_digest_277 ?_
                          refine lv_lstore_n (lv' := [(1, .long (((((zdN nu (zmx (zmx (zd4 mc (zdP pt pm pl (zdK kt km kl (zdW L (zmx 191 (nI n).toInt64) n) 26) 676)) 1) (nI wc).toInt64) wc) * 31) + (((nI tr)).toInt64)) * 31) + (((nI co)).toInt64))), (3, .int (nI wc)), (0, .ref (h 0))]) hx hb dX5_digest_278 rfl hl (by decide) rfl (fun ls hl => ?_)
                          refine lv_iconst (v := 0) hx hb dX5_digest_279 (by decide) ?_
                          refine lv_istore_n (lv' := [(3, .int 0), (1, .long (((((zdN nu (zmx (zmx (zd4 mc (zdP pt pm pl (zdK kt km kl (zdW L (zmx 191 (nI n).toInt64) n) 26) 676)) 1) (nI wc).toInt64) wc) * 31) + (((nI tr)).toInt64)) * 31) + (((nI co)).toInt64))), (0, .ref (h 0))]) hx hb dX5_digest_280 rfl hl (by decide) rfl (fun ls hl => ?_)
                          refine zloop (σ := (Nat) × (Int64)) (nL := 5) (fun x9 => (zWM cI cJ cZ h 0 (n, L) ((zcb kt pt), (zcb km pm), (zcb kl pl)) mc (true, wc, nu, lc, le, af, tr, ms, cl, tm) (co, yn, yh, pa) ++ R)) (fun x9 => [(3, .int (nI x9.1)), (1, .long x9.2), (0, .ref (h 0))]) (fun x9 => []) (fun x9 => (x9.1 ≤ co) ∧ x9.2 = zdH yl yc yt (zmx (zdL true nu wc tr (zd4 mc (zdP pt pm pl (zdK kt km kl (zdW L (zmx 191 (nI n).toInt64) n) 26) 676))) (nI co).toInt64) x9.1) (fun x9 => co - x9.1) ?_ (0, (zmx (zdL true nu wc tr (zd4 mc (zdP pt pm pl (zdK kt km kl (zdW L (zmx 191 (nI n).toInt64) n) 26) 676))) (nI co).toInt64)) (⟨by omega, rfl⟩) _ _ _ hP hD hS (lv_sub hl [0, 1, 2] rfl)
                          rintro ⟨j, z⟩ hI ih H locs ls hP hD hS hl
                          try dsimp only at hI ih hP hD hS hl ⊢
                          obtain ⟨hI, rfl⟩ := hI
                          refine lv_iload_n hx hb dX5_digest_281 rfl (lv_at hl 0 rfl) ?_
                          refine lv_aload_n hx hb dX5_digest_282 rfl (lv_at hl 2 rfl) ?_
                          refine va_get (ci := 5) (v := .int (nI co)) (C := RX5) (T := TX5) (N := 20) hx hb hts hinX5 hown hK hP 0 rfl rfl 17 (by decide) (hts (.fieldLink RX5 145 "TypingTutorModel" "finished" "I") (List.mem_of_getElem? (i := 12) rfl)) (fun _ h9 => h9) rfl dX5_digest_283 ?_
                          refine lv_icmp_ge (tgt := 325) hx hb dX5_digest_286 (by decide) (fun c_12 => ?_) (fun c_12 => ?_)
                          · skip
                            have c_12 : co ≤ j := (nI_leI (a := co) (b := j) (by omega) (by omega)).mp c_12
                            obtain rfl : co = j := by omega
                            refine lv_lload_n hx hb dX5_digest_325 rfl (lv_at hl 1 rfl) ?_
                            refine lv_ldc2 hx hb hown (hts (.constantLong RX5 175 (31)) (List.mem_of_getElem? (i := 4) rfl)) dX5_digest_326 ?_
                            refine lv_lmul hx hb dX5_digest_329 ?_
                            refine lv_aload_n hx hb dX5_digest_330 rfl (lv_at hl 2 rfl) ?_
                            refine va_get (ci := 5) (v := .int pa) (C := RX5) (T := TX5) (N := 20) hx hb hts hinX5 hown hK hP 0 rfl rfl 19 (by decide) (hts (.fieldLink RX5 39 "TypingTutorModel" "pace" "I") (List.mem_of_getElem? (i := 13) rfl)) (fun _ h9 => h9) rfl dX5_digest_331 ?_
                            refine lv_i2l (v := (pa).toInt64) hx hb dX5_digest_334 rfl ?_
                            refine lv_ladd hx hb dX5_digest_335 ?_
                            exact W.lret (v := (((zdH yl yc yt (zmx (zdL true nu wc tr (zd4 mc (zdP pt pm pl (zdK kt km kl (zdW L (zmx 191 (nI n).toInt64) n) 26) 676))) (nI co).toInt64) co) * 31) + ((pa).toInt64))) hx hb hr (fun t ht hW => ⟨⟨_, (), rfl, rfl, by rw [ht]; exact hP, hD⟩, hS.F ht⟩) hS.2.2 dX5_digest_336
                          · skip
                            have c_12 : ¬ co ≤ j := fun hh => c_12 ((nI_leI (a := co) (b := j) (by omega) (by omega)).mpr hh)
                            refine lv_iconst (v := 0) hx hb dX5_digest_289 (by decide) ?_
                            refine lv_istore (lv' := [(4, .int 0), (3, .int (nI j)), (1, .long (zdH yl yc yt (zmx (zdL true nu wc tr (zd4 mc (zdP pt pm pl (zdK kt km kl (zdW L (zmx 191 (nI n).toInt64) n) 26) 676))) (nI co).toInt64) j)), (0, .ref (h 0))]) hx hb dX5_digest_290 hl (by decide) rfl (fun ls hl => ?_)
                            refine lv_iload hx hb dX5_digest_292 (lv_at hl 0 rfl) ?_
                            refine lv_iconst (v := 4) hx hb dX5_digest_294 (by decide) ?_
                            refine lv_icmp_ge (tgt := 319) hx hb dX5_digest_295 (by decide) (fun c_13 => ?_) (fun c_13 => ?_)
                            · skip
                              exfalso; first | omega | (revert c_13; decide) | (exact absurd rfl c_13) | simp_all
                            · skip
                              refine lv_lload_n hx hb dX5_digest_298 rfl (lv_at hl 2 rfl) ?_
                              refine lv_ldc2 hx hb hown (hts (.constantLong RX5 175 (31)) (List.mem_of_getElem? (i := 4) rfl)) dX5_digest_299 ?_
                              refine lv_lmul hx hb dX5_digest_302 ?_
                              refine lv_aload_n hx hb dX5_digest_303 rfl (lv_at hl 3 rfl) ?_
                              refine lv_iload_n hx hb dX5_digest_304 rfl (lv_at hl 1 rfl) ?_
                              refine lv_iload hx hb dX5_digest_305 (lv_at hl 0 rfl) ?_
                              refine zci (zrV (As := [.int (nI j), .int 0]) (rest := [.long ((zdH yl yc yt (zmx (zdL true nu wc tr (zd4 mc (zdP pt pm pl (zdK kt km kl (zdW L (zmx 191 (nI n).toInt64) n) 26) 676))) (nI co).toInt64) j) * 31)]) ⟨hx, hb, hml, hown, hts⟩ (zV 0 hP hD hK hE hB hS rfl rfl) (c_X5_told_0 (k := j) (yl := yl) (yc := yc) (yt := yt) (hH) (by omega) (hhn) (hh3)) (cwV 2 hts gX5_digest_X5_told rfl rfl rfl hdv_X5_told ⟨Nat.le_of_ble_eq_true rfl, Nat.le_of_ble_eq_true rfl⟩) rfl rfl hl.1 rfl (lv_room (Nat.le_of_ble_eq_true rfl)) dX5_digest_307 ⟨Nat.le_of_ble_eq_true rfl, Nat.le_of_ble_eq_true rfl⟩) hS (fun H locs hP hD hS => ?_)
                              have hP : va_P D vwCl (zWM cI cJ cZ h 0 (n, L) ((zcb kt pt), (zcb km pm), (zcb kl pl)) mc (true, wc, nu, lc, le, af, tr, ms, cl, tm) (co, yn, yh, pa) ++ R) _ := hP
                              have hD : va_D (zAb B) (zWM cI cJ cZ h 0 (n, L) ((zcb kt pt), (zcb km pm), (zcb kl pl)) mc (true, wc, nu, lc, le, af, tr, ms, cl, tm) (co, yn, yh, pa) ++ R) := hD
                              refine lv_i2l (v := ((yl j)).toInt64) hx hb dX5_digest_310 rfl ?_
                              refine lv_ladd hx hb dX5_digest_311 ?_
                              refine lv_lstore_n (lv' := [(1, .long (((zdH yl yc yt (zmx (zdL true nu wc tr (zd4 mc (zdP pt pm pl (zdK kt km kl (zdW L (zmx 191 (nI n).toInt64) n) 26) 676))) (nI co).toInt64) j) * 31) + (((yl j)).toInt64))), (4, .int 0), (3, .int (nI j)), (0, .ref (h 0))]) hx hb dX5_digest_312 rfl hl (by decide) rfl (fun ls hl => ?_)
                              refine lv_iinc (v := 1) (lv' := [(4, .int 1), (1, .long (((zdH yl yc yt (zmx (zdL true nu wc tr (zd4 mc (zdP pt pm pl (zdK kt km kl (zdW L (zmx 191 (nI n).toInt64) n) 26) 676))) (nI co).toInt64) j) * 31) + (((yl j)).toInt64))), (3, .int (nI j)), (0, .ref (h 0))]) hx hb dX5_digest_313 hl (k := 1) rfl (by decide) (by decide) rfl (fun ls hl => ?_)
                              refine lv_goto (tgt := 292) hx hb dX5_digest_316 (by decide) ?_
                              refine lv_iload hx hb dX5_digest_292 (lv_at hl 0 rfl) ?_
                              refine lv_iconst (v := 4) hx hb dX5_digest_294 (by decide) ?_
                              refine lv_icmp_ge (tgt := 319) hx hb dX5_digest_295 (by decide) (fun c_14 => ?_) (fun c_14 => ?_)
                              · skip
                                exfalso; first | omega | (revert c_14; decide) | (exact absurd rfl c_14) | simp_all
                              · skip
                                refine lv_lload_n hx hb dX5_digest_298 rfl (lv_at hl 1 rfl) ?_
                                refine lv_ldc2 hx hb hown (hts (.constantLong RX5 175 (31)) (List.mem_of_getElem? (i := 4) rfl)) dX5_digest_299 ?_
                                refine lv_lmul hx hb dX5_digest_302 ?_
                                refine lv_aload_n hx hb dX5_digest_303 rfl (lv_at hl 3 rfl) ?_
                                refine lv_iload_n hx hb dX5_digest_304 rfl (lv_at hl 2 rfl) ?_
                                refine lv_iload hx hb dX5_digest_305 (lv_at hl 0 rfl) ?_
                                refine zci (zrV (As := [.int (nI j), .int 1]) (rest := [.long ((((zdH yl yc yt (zmx (zdL true nu wc tr (zd4 mc (zdP pt pm pl (zdK kt km kl (zdW L (zmx 191 (nI n).toInt64) n) 26) 676))) (nI co).toInt64) j) * 31) + (((yl j)).toInt64)) * 31)]) ⟨hx, hb, hml, hown, hts⟩ (zV 0 hP hD hK hE hB hS rfl rfl) (c_X5_told_1 (k := j) (yl := yl) (yc := yc) (yt := yt) (hH) (by omega) (hhn) (hh3)) (cwV 2 hts gX5_digest_X5_told rfl rfl rfl hdv_X5_told ⟨Nat.le_of_ble_eq_true rfl, Nat.le_of_ble_eq_true rfl⟩) rfl rfl hl.1 rfl (lv_room (Nat.le_of_ble_eq_true rfl)) dX5_digest_307 ⟨Nat.le_of_ble_eq_true rfl, Nat.le_of_ble_eq_true rfl⟩) hS (fun H locs hP hD hS => ?_)
                                have hP : va_P D vwCl (zWM cI cJ cZ h 0 (n, L) ((zcb kt pt), (zcb km pm), (zcb kl pl)) mc (true, wc, nu, lc, le, af, tr, ms, cl, tm) (co, yn, yh, pa) ++ R) _ := hP
                                have hD : va_D (zAb B) (zWM cI cJ cZ h 0 (n, L) ((zcb kt pt), (zcb km pm), (zcb kl pl)) mc (true, wc, nu, lc, le, af, tr, ms, cl, tm) (co, yn, yh, pa) ++ R) := hD
                                refine lv_i2l (v := ((yc j)).toInt64) hx hb dX5_digest_310 rfl ?_
                                refine lv_ladd hx hb dX5_digest_311 ?_
                                refine lv_lstore_n (lv' := [(1, .long (((((zdH yl yc yt (zmx (zdL true nu wc tr (zd4 mc (zdP pt pm pl (zdK kt km kl (zdW L (zmx 191 (nI n).toInt64) n) 26) 676))) (nI co).toInt64) j) * 31) + (((yl j)).toInt64)) * 31) + (((yc j)).toInt64))), (4, .int 1), (3, .int (nI j)), (0, .ref (h 0))]) hx hb dX5_digest_312 rfl hl (by decide) rfl (fun ls hl => ?_)
                                refine lv_iinc (v := 2) (lv' := [(4, .int 2), (1, .long (((((zdH yl yc yt (zmx (zdL true nu wc tr (zd4 mc (zdP pt pm pl (zdK kt km kl (zdW L (zmx 191 (nI n).toInt64) n) 26) 676))) (nI co).toInt64) j) * 31) + (((yl j)).toInt64)) * 31) + (((yc j)).toInt64))), (3, .int (nI j)), (0, .ref (h 0))]) hx hb dX5_digest_313 hl (k := 1) rfl (by decide) (by decide) rfl (fun ls hl => ?_)
                                refine lv_goto (tgt := 292) hx hb dX5_digest_316 (by decide) ?_
                                refine lv_iload hx hb dX5_digest_292 (lv_at hl 0 rfl) ?_
                                refine lv_iconst (v := 4) hx hb dX5_digest_294 (by decide) ?_
                                refine lv_icmp_ge (tgt := 319) hx hb dX5_digest_295 (by decide) (fun c_15 => ?_) (fun c_15 => ?_)
                                · skip
                                  exfalso; first | omega | (revert c_15; decide) | (exact absurd rfl c_15) | simp_all
                                · skip
                                  refine lv_lload_n hx hb dX5_digest_298 rfl (lv_at hl 1 rfl) ?_
                                  refine lv_ldc2 hx hb hown (hts (.constantLong RX5 175 (31)) (List.mem_of_getElem? (i := 4) rfl)) dX5_digest_299 ?_
                                  refine lv_lmul hx hb dX5_digest_302 ?_
                                  refine lv_aload_n hx hb dX5_digest_303 rfl (lv_at hl 3 rfl) ?_
                                  refine lv_iload_n hx hb dX5_digest_304 rfl (lv_at hl 2 rfl) ?_
                                  refine lv_iload hx hb dX5_digest_305 (lv_at hl 0 rfl) ?_
                                  refine zci (zrV (As := [.int (nI j), .int 2]) (rest := [.long ((((((zdH yl yc yt (zmx (zdL true nu wc tr (zd4 mc (zdP pt pm pl (zdK kt km kl (zdW L (zmx 191 (nI n).toInt64) n) 26) 676))) (nI co).toInt64) j) * 31) + (((yl j)).toInt64)) * 31) + (((yc j)).toInt64)) * 31)]) ⟨hx, hb, hml, hown, hts⟩ (zV 0 hP hD hK hE hB hS rfl rfl) (c_X5_told_2 (k := j) (yl := yl) (yc := yc) (yt := yt) (hH) (by omega) (hhn) (hh3)) (cwV 2 hts gX5_digest_X5_told rfl rfl rfl hdv_X5_told ⟨Nat.le_of_ble_eq_true rfl, Nat.le_of_ble_eq_true rfl⟩) rfl rfl hl.1 rfl (lv_room (Nat.le_of_ble_eq_true rfl)) dX5_digest_307 ⟨Nat.le_of_ble_eq_true rfl, Nat.le_of_ble_eq_true rfl⟩) hS (fun H locs hP hD hS => ?_)
                                  have hP : va_P D vwCl (zWM cI cJ cZ h 0 (n, L) ((zcb kt pt), (zcb km pm), (zcb kl pl)) mc (true, wc, nu, lc, le, af, tr, ms, cl, tm) (co, yn, yh, pa) ++ R) _ := hP
                                  have hD : va_D (zAb B) (zWM cI cJ cZ h 0 (n, L) ((zcb kt pt), (zcb km pm), (zcb kl pl)) mc (true, wc, nu, lc, le, af, tr, ms, cl, tm) (co, yn, yh, pa) ++ R) := hD
                                  refine lv_i2l (v := ((yt j)).toInt64) hx hb dX5_digest_310 rfl ?_
                                  refine lv_ladd hx hb dX5_digest_311 ?_
                                  refine lv_lstore_n (lv' := [(1, .long (((((((zdH yl yc yt (zmx (zdL true nu wc tr (zd4 mc (zdP pt pm pl (zdK kt km kl (zdW L (zmx 191 (nI n).toInt64) n) 26) 676))) (nI co).toInt64) j) * 31) + (((yl j)).toInt64)) * 31) + (((yc j)).toInt64)) * 31) + (((yt j)).toInt64))), (4, .int 2), (3, .int (nI j)), (0, .ref (h 0))]) hx hb dX5_digest_312 rfl hl (by decide) rfl (fun ls hl => ?_)
                                  refine lv_iinc (v := 3) (lv' := [(4, .int 3), (1, .long (((((((zdH yl yc yt (zmx (zdL true nu wc tr (zd4 mc (zdP pt pm pl (zdK kt km kl (zdW L (zmx 191 (nI n).toInt64) n) 26) 676))) (nI co).toInt64) j) * 31) + (((yl j)).toInt64)) * 31) + (((yc j)).toInt64)) * 31) + (((yt j)).toInt64))), (3, .int (nI j)), (0, .ref (h 0))]) hx hb dX5_digest_313 hl (k := 1) rfl (by decide) (by decide) rfl (fun ls hl => ?_)
                                  refine lv_goto (tgt := 292) hx hb dX5_digest_316 (by decide) ?_
                                  refine lv_iload hx hb dX5_digest_292 (lv_at hl 0 rfl) ?_
                                  refine lv_iconst (v := 4) hx hb dX5_digest_294 (by decide) ?_
                                  refine lv_icmp_ge (tgt := 319) hx hb dX5_digest_295 (by decide) (fun c_16 => ?_) (fun c_16 => ?_)
                                  · skip
                                    exfalso; first | omega | (revert c_16; decide) | (exact absurd rfl c_16) | simp_all
                                  · skip
                                    refine lv_lload_n hx hb dX5_digest_298 rfl (lv_at hl 1 rfl) ?_
                                    refine lv_ldc2 hx hb hown (hts (.constantLong RX5 175 (31)) (List.mem_of_getElem? (i := 4) rfl)) dX5_digest_299 ?_
                                    refine lv_lmul hx hb dX5_digest_302 ?_
                                    refine lv_aload_n hx hb dX5_digest_303 rfl (lv_at hl 3 rfl) ?_
                                    refine lv_iload_n hx hb dX5_digest_304 rfl (lv_at hl 2 rfl) ?_
                                    refine lv_iload hx hb dX5_digest_305 (lv_at hl 0 rfl) ?_
                                    refine zci (zrV (As := [.int (nI j), .int 3]) (rest := [.long ((((((((zdH yl yc yt (zmx (zdL true nu wc tr (zd4 mc (zdP pt pm pl (zdK kt km kl (zdW L (zmx 191 (nI n).toInt64) n) 26) 676))) (nI co).toInt64) j) * 31) + (((yl j)).toInt64)) * 31) + (((yc j)).toInt64)) * 31) + (((yt j)).toInt64)) * 31)]) ⟨hx, hb, hml, hown, hts⟩ (zV 0 hP hD hK hE hB hS rfl rfl) (c_X5_told_3 (k := j) (yl := yl) (yc := yc) (yt := yt) (hH) (by omega) (hhn) (hh3)) (cwV 2 hts gX5_digest_X5_told rfl rfl rfl hdv_X5_told ⟨Nat.le_of_ble_eq_true rfl, Nat.le_of_ble_eq_true rfl⟩) rfl rfl hl.1 rfl (lv_room (Nat.le_of_ble_eq_true rfl)) dX5_digest_307 ⟨Nat.le_of_ble_eq_true rfl, Nat.le_of_ble_eq_true rfl⟩) hS (fun H locs hP hD hS => ?_)
                                    have hP : va_P D vwCl (zWM cI cJ cZ h 0 (n, L) ((zcb kt pt), (zcb km pm), (zcb kl pl)) mc (true, wc, nu, lc, le, af, tr, ms, cl, tm) (co, yn, yh, pa) ++ R) _ := hP
                                    have hD : va_D (zAb B) (zWM cI cJ cZ h 0 (n, L) ((zcb kt pt), (zcb km pm), (zcb kl pl)) mc (true, wc, nu, lc, le, af, tr, ms, cl, tm) (co, yn, yh, pa) ++ R) := hD
                                    refine lv_i2l (v := ((zsp yl yt j)).toInt64) hx hb dX5_digest_310 rfl ?_
                                    refine lv_ladd hx hb dX5_digest_311 ?_
                                    refine lv_lstore_n (lv' := [(1, .long (((((((((zdH yl yc yt (zmx (zdL true nu wc tr (zd4 mc (zdP pt pm pl (zdK kt km kl (zdW L (zmx 191 (nI n).toInt64) n) 26) 676))) (nI co).toInt64) j) * 31) + (((yl j)).toInt64)) * 31) + (((yc j)).toInt64)) * 31) + (((yt j)).toInt64)) * 31) + (((zsp yl yt j)).toInt64))), (4, .int 3), (3, .int (nI j)), (0, .ref (h 0))]) hx hb dX5_digest_312 rfl hl (by decide) rfl (fun ls hl => ?_)
                                    refine lv_iinc (v := 4) (lv' := [(4, .int 4), (1, .long (((((((((zdH yl yc yt (zmx (zdL true nu wc tr (zd4 mc (zdP pt pm pl (zdK kt km kl (zdW L (zmx 191 (nI n).toInt64) n) 26) 676))) (nI co).toInt64) j) * 31) + (((yl j)).toInt64)) * 31) + (((yc j)).toInt64)) * 31) + (((yt j)).toInt64)) * 31) + (((zsp yl yt j)).toInt64))), (3, .int (nI j)), (0, .ref (h 0))]) hx hb dX5_digest_313 hl (k := 1) rfl (by decide) (by decide) rfl (fun ls hl => ?_)
                                    refine lv_goto (tgt := 292) hx hb dX5_digest_316 (by decide) ?_
                                    refine lv_iload hx hb dX5_digest_292 (lv_at hl 0 rfl) ?_
                                    refine lv_iconst (v := 4) hx hb dX5_digest_294 (by decide) ?_
                                    refine lv_icmp_ge (tgt := 319) hx hb dX5_digest_295 (by decide) (fun c_17 => ?_) (fun c_17 => ?_)
                                    · skip
                                      refine lv_iinc (v := (nI (j + 1))) (lv' := [(3, .int (nI (j + 1))), (4, .int 4), (1, .long (((((((((zdH yl yc yt (zmx (zdL true nu wc tr (zd4 mc (zdP pt pm pl (zdK kt km kl (zdW L (zmx 191 (nI n).toInt64) n) 26) 676))) (nI co).toInt64) j) * 31) + (((yl j)).toInt64)) * 31) + (((yc j)).toInt64)) * 31) + (((yt j)).toInt64)) * 31) + (((zsp yl yt j)).toInt64))), (0, .ref (h 0))]) hx hb dX5_digest_319 hl (k := 2) rfl (nI_add j 1) (by decide) rfl (fun ls hl => ?_)
                                      refine lv_goto (tgt := 281) hx hb dX5_digest_322 (by decide) ?_
                                      exact ih (j + 1, (((((((((zdH yl yc yt (zmx (zdL true nu wc tr (zd4 mc (zdP pt pm pl (zdK kt km kl (zdW L (zmx 191 (nI n).toInt64) n) 26) 676))) (nI co).toInt64) j) * 31) + (((yl j)).toInt64)) * 31) + (((yc j)).toInt64)) * 31) + (((yt j)).toInt64)) * 31) + (((zsp yl yt j)).toInt64))) (⟨by omega, rfl⟩) (by omega) _ _ _ hP hD hS (lv_sub hl [0, 2, 3] rfl)
                                    · skip
                                      exfalso; first | omega | (revert c_17; decide) | (exact absurd rfl c_17) | simp_all
                        · skip
                          have c_11 : ¬ wc ≤ j := fun hh => c_11 ((nI_leI (a := wc) (b := j) (by omega) (by omega)).mpr hh)
                          refine lv_lload_n hx hb dX5_digest_235 rfl (lv_at hl 1 rfl) ?_
                          refine lv_ldc2 hx hb hown (hts (.constantLong RX5 175 (31)) (List.mem_of_getElem? (i := 4) rfl)) dX5_digest_236 ?_
                          refine lv_lmul hx hb dX5_digest_239 ?_
                          refine lv_aload_n hx hb dX5_digest_240 rfl (lv_at hl 2 rfl) ?_
                          refine va_get (ci := 5) (v := .ref (h 6)) (C := RX5) (T := TX5) (N := 20) hx hb hts hinX5 hown hK hP 0 rfl rfl 9 (by decide) (hts (.fieldLink RX5 26 "TypingTutorModel" "chosen" "[I") (List.mem_of_getElem? (i := 10) rfl)) (fun _ h9 => h9) rfl dX5_digest_241 ?_
                          refine lv_iload_n hx hb dX5_digest_244 rfl (lv_at hl 0 rfl) ?_
                          refine va_iald hx hb hK hP 6 0 rfl rfl (vp_in_nI (n := j) (N := 6) (by omega) (by omega)) dX5_digest_245 ?_
                          rw [pk_cl (x := (nI j)) j (rfl) (by omega)]
                          refine lv_i2l (v := ((nu j)).toInt64) hx hb dX5_digest_246 rfl ?_
                          refine lv_ladd hx hb dX5_digest_247 ?_
                          refine lv_lstore_n (lv' := [(1, .long (((zdN nu (zmx (zmx (zd4 mc (zdP pt pm pl (zdK kt km kl (zdW L (zmx 191 (nI n).toInt64) n) 26) 676)) 1) (nI wc).toInt64) j) * 31) + (((nu j)).toInt64))), (3, .int (nI j)), (0, .ref (h 0))]) hx hb dX5_digest_248 rfl hl (by decide) rfl (fun ls hl => ?_)
                          refine lv_iinc (v := (nI (j + 1))) (lv' := [(3, .int (nI (j + 1))), (1, .long (((zdN nu (zmx (zmx (zd4 mc (zdP pt pm pl (zdK kt km kl (zdW L (zmx 191 (nI n).toInt64) n) 26) 676)) 1) (nI wc).toInt64) j) * 31) + (((nu j)).toInt64))), (0, .ref (h 0))]) hx hb dX5_digest_249 hl (k := 1) rfl (nI_add j 1) (by decide) rfl (fun ls hl => ?_)
                          refine lv_goto (tgt := 227) hx hb dX5_digest_252 (by decide) ?_
                          exact ih (j + 1, (((zdN nu (zmx (zmx (zd4 mc (zdP pt pm pl (zdK kt km kl (zdW L (zmx 191 (nI n).toInt64) n) 26) 676)) 1) (nI wc).toInt64) j) * 31) + (((nu j)).toInt64))) (⟨by omega, rfl⟩) (by omega) _ _ _ hP hD hS (lv_sub hl [0, 1, 2] rfl)
                  · skip
                    exfalso; first | omega | (revert c_8; decide) | (exact absurd rfl c_8) | simp_all
        · skip
          have c_3 : ¬ 676 ≤ j := fun hh => c_3 ((nI_leI (a := 676) (b := j) (by omega) (by omega)).mpr hh)
          refine lv_aload_n hx hb dX5_digest_97 rfl (lv_at hl 2 rfl) ?_
          refine va_get (ci := 5) (v := .ref (h 2)) (C := RX5) (T := TX5) (N := 20) hx hb hts hinX5 hown hK hP 0 rfl rfl 3 (by decide) (hts (.fieldLink RX5 13 "TypingTutorModel" "tries" "[I") (List.mem_of_getElem? (i := 6) rfl)) (fun _ h9 => h9) rfl dX5_digest_98 ?_
          refine lv_bipush (v := 26) hx hb dX5_digest_101 (by decide) ?_
          refine lv_iload_n hx hb dX5_digest_103 rfl (lv_at hl 0 rfl) ?_
          refine lv_iadd hx hb dX5_digest_104 ?_
          refine lv_topi (fun v_18 ev_18 => ?_)
          obtain rfl : v_18 = (nI (26 + j)) := ev_18.trans (nI_add 26 j)
          refine va_iald hx hb hK hP 2 0 rfl rfl (vp_in_nI (n := (26 + j)) (N := 702) (by omega) (by omega)) dX5_digest_105 ?_
          rw [pk_cl (x := (nI (26 + j))) (26 + j) (rfl) (by omega)]
          rw [show ((zcb kt pt), (zcb km pm), (zcb kl pl)).1 (26 + j) = pt j from zcb_p]
          refine lv_if_ne (tgt := 112) hx hb dX5_digest_106 (by decide) (fun c_19 => ?_) (fun c_19 => ?_)
          · skip
            refine lv_lload_n hx hb dX5_digest_112 rfl (lv_at hl 1 rfl) ?_
            refine lv_ldc2 hx hb hown (hts (.constantLong RX5 175 (31)) (List.mem_of_getElem? (i := 4) rfl)) dX5_digest_113 ?_
            refine lv_lmul hx hb dX5_digest_116 ?_
            refine lv_iload_n hx hb dX5_digest_117 rfl (lv_at hl 0 rfl) ?_
            refine lv_i2l (v := ((nI j)).toInt64) hx hb dX5_digest_118 rfl ?_
            refine lv_ladd hx hb dX5_digest_119 ?_
            refine lv_lstore_n (lv' := [(1, .long (((zdP pt pm pl (zdK kt km kl (zdW L (zmx 191 (nI n).toInt64) n) 26) j) * 31) + (((nI j)).toInt64))), (3, .int (nI j)), (0, .ref (h 0))]) hx hb dX5_digest_120 rfl hl (by decide) rfl (fun ls hl => ?_)
            refine lv_iconst (v := 0) hx hb dX5_digest_121 (by decide) ?_
            refine lv_istore (lv' := [(4, .int 0), (1, .long (((zdP pt pm pl (zdK kt km kl (zdW L (zmx 191 (nI n).toInt64) n) 26) j) * 31) + (((nI j)).toInt64))), (3, .int (nI j)), (0, .ref (h 0))]) hx hb dX5_digest_122 hl (by decide) rfl (fun ls hl => ?_)
            refine lv_iload hx hb dX5_digest_124 (lv_at hl 0 rfl) ?_
            refine lv_iconst (v := 3) hx hb dX5_digest_126 (by decide) ?_
            refine lv_icmp_ge (tgt := 154) hx hb dX5_digest_127 (by decide) (fun c_20 => ?_) (fun c_20 => ?_)
            · skip
              exfalso; first | omega | (revert c_20; decide) | (exact absurd rfl c_20) | simp_all
            · skip
              refine lv_lload_n hx hb dX5_digest_130 rfl (lv_at hl 1 rfl) ?_
              refine lv_ldc2 hx hb hown (hts (.constantLong RX5 175 (31)) (List.mem_of_getElem? (i := 4) rfl)) dX5_digest_131 ?_
              refine lv_lmul hx hb dX5_digest_134 ?_
              refine lv_aload_n hx hb dX5_digest_135 rfl (lv_at hl 3 rfl) ?_
              refine lv_bipush (v := 26) hx hb dX5_digest_136 (by decide) ?_
              refine lv_iload_n hx hb dX5_digest_138 rfl (lv_at hl 2 rfl) ?_
              refine lv_iadd hx hb dX5_digest_139 ?_
              refine lv_topi (fun v_21 ev_21 => ?_)
              obtain rfl : v_21 = (nI (26 + j)) := ev_21.trans (nI_add 26 j)
              refine lv_iload hx hb dX5_digest_140 (lv_at hl 0 rfl) ?_
              refine zci (zrV (As := [.int (nI (26 + j)), .int 0]) (rest := [.long ((((zdP pt pm pl (zdK kt km kl (zdW L (zmx 191 (nI n).toInt64) n) 26) j) * 31) + (((nI j)).toInt64)) * 31)]) ⟨hx, hb, hml, hown, hts⟩ (zV 0 hP hD hK hE hB hS rfl rfl) (c_X5_known_p0 (k := j) (by omega)) (cwV 2 hts gX5_digest_X5_known rfl rfl rfl hdv_X5_known ⟨Nat.le_of_ble_eq_true rfl, Nat.le_of_ble_eq_true rfl⟩) rfl rfl hl.1 rfl (lv_room (Nat.le_of_ble_eq_true rfl)) dX5_digest_142 ⟨Nat.le_of_ble_eq_true rfl, Nat.le_of_ble_eq_true rfl⟩) hS (fun H locs hP hD hS => ?_)
              have hP : va_P D vwCl (zWM cI cJ cZ h 0 (n, L) ((zcb kt pt), (zcb km pm), (zcb kl pl)) mc (true, wc, nu, lc, le, af, tr, ms, cl, tm) (co, yn, yh, pa) ++ R) _ := hP
              have hD : va_D (zAb B) (zWM cI cJ cZ h 0 (n, L) ((zcb kt pt), (zcb km pm), (zcb kl pl)) mc (true, wc, nu, lc, le, af, tr, ms, cl, tm) (co, yn, yh, pa) ++ R) := hD
              refine lv_i2l (v := ((pt j)).toInt64) hx hb dX5_digest_145 rfl ?_
              refine lv_ladd hx hb dX5_digest_146 ?_
              refine lv_lstore_n (lv' := [(1, .long (((((zdP pt pm pl (zdK kt km kl (zdW L (zmx 191 (nI n).toInt64) n) 26) j) * 31) + (((nI j)).toInt64)) * 31) + (((pt j)).toInt64))), (4, .int 0), (3, .int (nI j)), (0, .ref (h 0))]) hx hb dX5_digest_147 rfl hl (by decide) rfl (fun ls hl => ?_)
              refine lv_iinc (v := 1) (lv' := [(4, .int 1), (1, .long (((((zdP pt pm pl (zdK kt km kl (zdW L (zmx 191 (nI n).toInt64) n) 26) j) * 31) + (((nI j)).toInt64)) * 31) + (((pt j)).toInt64))), (3, .int (nI j)), (0, .ref (h 0))]) hx hb dX5_digest_148 hl (k := 1) rfl (by decide) (by decide) rfl (fun ls hl => ?_)
              refine lv_goto (tgt := 124) hx hb dX5_digest_151 (by decide) ?_
              refine lv_iload hx hb dX5_digest_124 (lv_at hl 0 rfl) ?_
              refine lv_iconst (v := 3) hx hb dX5_digest_126 (by decide) ?_
              refine lv_icmp_ge (tgt := 154) hx hb dX5_digest_127 (by decide) (fun c_22 => ?_) (fun c_22 => ?_)
              · skip
                exfalso; first | omega | (revert c_22; decide) | (exact absurd rfl c_22) | simp_all
              · skip
                refine lv_lload_n hx hb dX5_digest_130 rfl (lv_at hl 1 rfl) ?_
                refine lv_ldc2 hx hb hown (hts (.constantLong RX5 175 (31)) (List.mem_of_getElem? (i := 4) rfl)) dX5_digest_131 ?_
                refine lv_lmul hx hb dX5_digest_134 ?_
                refine lv_aload_n hx hb dX5_digest_135 rfl (lv_at hl 3 rfl) ?_
                refine lv_bipush (v := 26) hx hb dX5_digest_136 (by decide) ?_
                refine lv_iload_n hx hb dX5_digest_138 rfl (lv_at hl 2 rfl) ?_
                refine lv_iadd hx hb dX5_digest_139 ?_
                refine lv_topi (fun v_23 ev_23 => ?_)
                obtain rfl : v_23 = (nI (26 + j)) := ev_23.trans (nI_add 26 j)
                refine lv_iload hx hb dX5_digest_140 (lv_at hl 0 rfl) ?_
                refine zci (zrV (As := [.int (nI (26 + j)), .int 1]) (rest := [.long ((((((zdP pt pm pl (zdK kt km kl (zdW L (zmx 191 (nI n).toInt64) n) 26) j) * 31) + (((nI j)).toInt64)) * 31) + (((pt j)).toInt64)) * 31)]) ⟨hx, hb, hml, hown, hts⟩ (zV 0 hP hD hK hE hB hS rfl rfl) (c_X5_known_p1 (k := j) (by omega)) (cwV 2 hts gX5_digest_X5_known rfl rfl rfl hdv_X5_known ⟨Nat.le_of_ble_eq_true rfl, Nat.le_of_ble_eq_true rfl⟩) rfl rfl hl.1 rfl (lv_room (Nat.le_of_ble_eq_true rfl)) dX5_digest_142 ⟨Nat.le_of_ble_eq_true rfl, Nat.le_of_ble_eq_true rfl⟩) hS (fun H locs hP hD hS => ?_)
                have hP : va_P D vwCl (zWM cI cJ cZ h 0 (n, L) ((zcb kt pt), (zcb km pm), (zcb kl pl)) mc (true, wc, nu, lc, le, af, tr, ms, cl, tm) (co, yn, yh, pa) ++ R) _ := hP
                have hD : va_D (zAb B) (zWM cI cJ cZ h 0 (n, L) ((zcb kt pt), (zcb km pm), (zcb kl pl)) mc (true, wc, nu, lc, le, af, tr, ms, cl, tm) (co, yn, yh, pa) ++ R) := hD
                refine lv_i2l (v := ((pm j)).toInt64) hx hb dX5_digest_145 rfl ?_
                refine lv_ladd hx hb dX5_digest_146 ?_
                refine lv_lstore_n (lv' := [(1, .long (((((((zdP pt pm pl (zdK kt km kl (zdW L (zmx 191 (nI n).toInt64) n) 26) j) * 31) + (((nI j)).toInt64)) * 31) + (((pt j)).toInt64)) * 31) + (((pm j)).toInt64))), (4, .int 1), (3, .int (nI j)), (0, .ref (h 0))]) hx hb dX5_digest_147 rfl hl (by decide) rfl (fun ls hl => ?_)
                refine lv_iinc (v := 2) (lv' := [(4, .int 2), (1, .long (((((((zdP pt pm pl (zdK kt km kl (zdW L (zmx 191 (nI n).toInt64) n) 26) j) * 31) + (((nI j)).toInt64)) * 31) + (((pt j)).toInt64)) * 31) + (((pm j)).toInt64))), (3, .int (nI j)), (0, .ref (h 0))]) hx hb dX5_digest_148 hl (k := 1) rfl (by decide) (by decide) rfl (fun ls hl => ?_)
                refine lv_goto (tgt := 124) hx hb dX5_digest_151 (by decide) ?_
                refine lv_iload hx hb dX5_digest_124 (lv_at hl 0 rfl) ?_
                refine lv_iconst (v := 3) hx hb dX5_digest_126 (by decide) ?_
                refine lv_icmp_ge (tgt := 154) hx hb dX5_digest_127 (by decide) (fun c_24 => ?_) (fun c_24 => ?_)
                · skip
                  exfalso; first | omega | (revert c_24; decide) | (exact absurd rfl c_24) | simp_all
                · skip
                  refine lv_lload_n hx hb dX5_digest_130 rfl (lv_at hl 1 rfl) ?_
                  refine lv_ldc2 hx hb hown (hts (.constantLong RX5 175 (31)) (List.mem_of_getElem? (i := 4) rfl)) dX5_digest_131 ?_
                  refine lv_lmul hx hb dX5_digest_134 ?_
                  refine lv_aload_n hx hb dX5_digest_135 rfl (lv_at hl 3 rfl) ?_
                  refine lv_bipush (v := 26) hx hb dX5_digest_136 (by decide) ?_
                  refine lv_iload_n hx hb dX5_digest_138 rfl (lv_at hl 2 rfl) ?_
                  refine lv_iadd hx hb dX5_digest_139 ?_
                  refine lv_topi (fun v_25 ev_25 => ?_)
                  obtain rfl : v_25 = (nI (26 + j)) := ev_25.trans (nI_add 26 j)
                  refine lv_iload hx hb dX5_digest_140 (lv_at hl 0 rfl) ?_
                  refine zci (zrV (As := [.int (nI (26 + j)), .int 2]) (rest := [.long ((((((((zdP pt pm pl (zdK kt km kl (zdW L (zmx 191 (nI n).toInt64) n) 26) j) * 31) + (((nI j)).toInt64)) * 31) + (((pt j)).toInt64)) * 31) + (((pm j)).toInt64)) * 31)]) ⟨hx, hb, hml, hown, hts⟩ (zV 0 hP hD hK hE hB hS rfl rfl) (c_X5_known_p2 (k := j) (by omega)) (cwV 2 hts gX5_digest_X5_known rfl rfl rfl hdv_X5_known ⟨Nat.le_of_ble_eq_true rfl, Nat.le_of_ble_eq_true rfl⟩) rfl rfl hl.1 rfl (lv_room (Nat.le_of_ble_eq_true rfl)) dX5_digest_142 ⟨Nat.le_of_ble_eq_true rfl, Nat.le_of_ble_eq_true rfl⟩) hS (fun H locs hP hD hS => ?_)
                  have hP : va_P D vwCl (zWM cI cJ cZ h 0 (n, L) ((zcb kt pt), (zcb km pm), (zcb kl pl)) mc (true, wc, nu, lc, le, af, tr, ms, cl, tm) (co, yn, yh, pa) ++ R) _ := hP
                  have hD : va_D (zAb B) (zWM cI cJ cZ h 0 (n, L) ((zcb kt pt), (zcb km pm), (zcb kl pl)) mc (true, wc, nu, lc, le, af, tr, ms, cl, tm) (co, yn, yh, pa) ++ R) := hD
                  refine lv_i2l (v := ((pl j)).toInt64) hx hb dX5_digest_145 rfl ?_
                  refine lv_ladd hx hb dX5_digest_146 ?_
                  refine lv_lstore_n (lv' := [(1, .long (((((((((zdP pt pm pl (zdK kt km kl (zdW L (zmx 191 (nI n).toInt64) n) 26) j) * 31) + (((nI j)).toInt64)) * 31) + (((pt j)).toInt64)) * 31) + (((pm j)).toInt64)) * 31) + (((pl j)).toInt64))), (4, .int 2), (3, .int (nI j)), (0, .ref (h 0))]) hx hb dX5_digest_147 rfl hl (by decide) rfl (fun ls hl => ?_)
                  refine lv_iinc (v := 3) (lv' := [(4, .int 3), (1, .long (((((((((zdP pt pm pl (zdK kt km kl (zdW L (zmx 191 (nI n).toInt64) n) 26) j) * 31) + (((nI j)).toInt64)) * 31) + (((pt j)).toInt64)) * 31) + (((pm j)).toInt64)) * 31) + (((pl j)).toInt64))), (3, .int (nI j)), (0, .ref (h 0))]) hx hb dX5_digest_148 hl (k := 1) rfl (by decide) (by decide) rfl (fun ls hl => ?_)
                  refine lv_goto (tgt := 124) hx hb dX5_digest_151 (by decide) ?_
                  refine lv_iload hx hb dX5_digest_124 (lv_at hl 0 rfl) ?_
                  refine lv_iconst (v := 3) hx hb dX5_digest_126 (by decide) ?_
                  refine lv_icmp_ge (tgt := 154) hx hb dX5_digest_127 (by decide) (fun c_26 => ?_) (fun c_26 => ?_)
                  · skip
                    refine lv_iinc (v := (nI (j + 1))) (lv' := [(3, .int (nI (j + 1))), (4, .int 3), (1, .long (((((((((zdP pt pm pl (zdK kt km kl (zdW L (zmx 191 (nI n).toInt64) n) 26) j) * 31) + (((nI j)).toInt64)) * 31) + (((pt j)).toInt64)) * 31) + (((pm j)).toInt64)) * 31) + (((pl j)).toInt64))), (0, .ref (h 0))]) hx hb dX5_digest_154 hl (k := 2) rfl (nI_add j 1) (by decide) rfl (fun ls hl => ?_)
                    refine lv_goto (tgt := 90) hx hb dX5_digest_157 (by decide) ?_
                    exact ih (j + 1, (((((((((zdP pt pm pl (zdK kt km kl (zdW L (zmx 191 (nI n).toInt64) n) 26) j) * 31) + (((nI j)).toInt64)) * 31) + (((pt j)).toInt64)) * 31) + (((pm j)).toInt64)) * 31) + (((pl j)).toInt64))) (⟨by omega, (if_neg c_19).symm⟩) (by omega) _ _ _ hP hD hS (lv_sub hl [0, 2, 3] rfl)
                  · skip
                    exfalso; first | omega | (revert c_26; decide) | (exact absurd rfl c_26) | simp_all
          · skip
            refine lv_goto (tgt := 154) hx hb dX5_digest_109 (by decide) ?_
            refine lv_iinc (v := (nI (j + 1))) (lv' := [(3, .int (nI (j + 1))), (1, .long (zdP pt pm pl (zdK kt km kl (zdW L (zmx 191 (nI n).toInt64) n) 26) j)), (0, .ref (h 0))]) hx hb dX5_digest_154 hl (k := 0) rfl (nI_add j 1) (by decide) rfl (fun ls hl => ?_)
            refine lv_goto (tgt := 90) hx hb dX5_digest_157 (by decide) ?_
            exact ih (j + 1, (zdP pt pm pl (zdK kt km kl (zdW L (zmx 191 (nI n).toInt64) n) 26) j)) (⟨by omega, (if_pos c_19).symm⟩) (by omega) _ _ _ hP hD hS (lv_sub hl [0, 1, 2] rfl)
      · skip
        have c_2 : ¬ 26 ≤ j := fun hh => c_2 ((nI_leI (a := 26) (b := j) (by omega) (by omega)).mpr hh)
        refine lv_iconst (v := 0) hx hb dX5_digest_52 (by decide) ?_
        refine lv_istore (lv' := [(4, .int 0), (3, .int (nI j)), (1, .long (zdK kt km kl (zdW L (zmx 191 (nI n).toInt64) n) j)), (0, .ref (h 0))]) hx hb dX5_digest_53 hl (by decide) rfl (fun ls hl => ?_)
        refine lv_iload hx hb dX5_digest_55 (lv_at hl 0 rfl) ?_
        refine lv_iconst (v := 3) hx hb dX5_digest_57 (by decide) ?_
        refine lv_icmp_ge (tgt := 82) hx hb dX5_digest_58 (by decide) (fun c_27 => ?_) (fun c_27 => ?_)
        · skip
          exfalso; first | omega | (revert c_27; decide) | (exact absurd rfl c_27) | simp_all
        · skip
          refine lv_lload_n hx hb dX5_digest_61 rfl (lv_at hl 2 rfl) ?_
          refine lv_ldc2 hx hb hown (hts (.constantLong RX5 175 (31)) (List.mem_of_getElem? (i := 4) rfl)) dX5_digest_62 ?_
          refine lv_lmul hx hb dX5_digest_65 ?_
          refine lv_aload_n hx hb dX5_digest_66 rfl (lv_at hl 3 rfl) ?_
          refine lv_iload_n hx hb dX5_digest_67 rfl (lv_at hl 1 rfl) ?_
          refine lv_iload hx hb dX5_digest_68 (lv_at hl 0 rfl) ?_
          refine zci (zrV (As := [.int (nI j), .int 0]) (rest := [.long ((zdK kt km kl (zdW L (zmx 191 (nI n).toInt64) n) j) * 31)]) ⟨hx, hb, hml, hown, hts⟩ (zV 0 hP hD hK hE hB hS rfl rfl) (c_X5_known_k0 (k := j) (by omega)) (cwV 2 hts gX5_digest_X5_known rfl rfl rfl hdv_X5_known ⟨Nat.le_of_ble_eq_true rfl, Nat.le_of_ble_eq_true rfl⟩) rfl rfl hl.1 rfl (lv_room (Nat.le_of_ble_eq_true rfl)) dX5_digest_70 ⟨Nat.le_of_ble_eq_true rfl, Nat.le_of_ble_eq_true rfl⟩) hS (fun H locs hP hD hS => ?_)
          have hP : va_P D vwCl (zWM cI cJ cZ h 0 (n, L) ((zcb kt pt), (zcb km pm), (zcb kl pl)) mc (true, wc, nu, lc, le, af, tr, ms, cl, tm) (co, yn, yh, pa) ++ R) _ := hP
          have hD : va_D (zAb B) (zWM cI cJ cZ h 0 (n, L) ((zcb kt pt), (zcb km pm), (zcb kl pl)) mc (true, wc, nu, lc, le, af, tr, ms, cl, tm) (co, yn, yh, pa) ++ R) := hD
          refine lv_i2l (v := ((kt j)).toInt64) hx hb dX5_digest_73 rfl ?_
          refine lv_ladd hx hb dX5_digest_74 ?_
          refine lv_lstore_n (lv' := [(1, .long (((zdK kt km kl (zdW L (zmx 191 (nI n).toInt64) n) j) * 31) + (((kt j)).toInt64))), (4, .int 0), (3, .int (nI j)), (0, .ref (h 0))]) hx hb dX5_digest_75 rfl hl (by decide) rfl (fun ls hl => ?_)
          refine lv_iinc (v := 1) (lv' := [(4, .int 1), (1, .long (((zdK kt km kl (zdW L (zmx 191 (nI n).toInt64) n) j) * 31) + (((kt j)).toInt64))), (3, .int (nI j)), (0, .ref (h 0))]) hx hb dX5_digest_76 hl (k := 1) rfl (by decide) (by decide) rfl (fun ls hl => ?_)
          refine lv_goto (tgt := 55) hx hb dX5_digest_79 (by decide) ?_
          refine lv_iload hx hb dX5_digest_55 (lv_at hl 0 rfl) ?_
          refine lv_iconst (v := 3) hx hb dX5_digest_57 (by decide) ?_
          refine lv_icmp_ge (tgt := 82) hx hb dX5_digest_58 (by decide) (fun c_28 => ?_) (fun c_28 => ?_)
          · skip
            exfalso; first | omega | (revert c_28; decide) | (exact absurd rfl c_28) | simp_all
          · skip
            refine lv_lload_n hx hb dX5_digest_61 rfl (lv_at hl 1 rfl) ?_
            refine lv_ldc2 hx hb hown (hts (.constantLong RX5 175 (31)) (List.mem_of_getElem? (i := 4) rfl)) dX5_digest_62 ?_
            refine lv_lmul hx hb dX5_digest_65 ?_
            refine lv_aload_n hx hb dX5_digest_66 rfl (lv_at hl 3 rfl) ?_
            refine lv_iload_n hx hb dX5_digest_67 rfl (lv_at hl 2 rfl) ?_
            refine lv_iload hx hb dX5_digest_68 (lv_at hl 0 rfl) ?_
            refine zci (zrV (As := [.int (nI j), .int 1]) (rest := [.long ((((zdK kt km kl (zdW L (zmx 191 (nI n).toInt64) n) j) * 31) + (((kt j)).toInt64)) * 31)]) ⟨hx, hb, hml, hown, hts⟩ (zV 0 hP hD hK hE hB hS rfl rfl) (c_X5_known_k1 (k := j) (by omega)) (cwV 2 hts gX5_digest_X5_known rfl rfl rfl hdv_X5_known ⟨Nat.le_of_ble_eq_true rfl, Nat.le_of_ble_eq_true rfl⟩) rfl rfl hl.1 rfl (lv_room (Nat.le_of_ble_eq_true rfl)) dX5_digest_70 ⟨Nat.le_of_ble_eq_true rfl, Nat.le_of_ble_eq_true rfl⟩) hS (fun H locs hP hD hS => ?_)
            have hP : va_P D vwCl (zWM cI cJ cZ h 0 (n, L) ((zcb kt pt), (zcb km pm), (zcb kl pl)) mc (true, wc, nu, lc, le, af, tr, ms, cl, tm) (co, yn, yh, pa) ++ R) _ := hP
            have hD : va_D (zAb B) (zWM cI cJ cZ h 0 (n, L) ((zcb kt pt), (zcb km pm), (zcb kl pl)) mc (true, wc, nu, lc, le, af, tr, ms, cl, tm) (co, yn, yh, pa) ++ R) := hD
            refine lv_i2l (v := ((km j)).toInt64) hx hb dX5_digest_73 rfl ?_
            refine lv_ladd hx hb dX5_digest_74 ?_
            refine lv_lstore_n (lv' := [(1, .long (((((zdK kt km kl (zdW L (zmx 191 (nI n).toInt64) n) j) * 31) + (((kt j)).toInt64)) * 31) + (((km j)).toInt64))), (4, .int 1), (3, .int (nI j)), (0, .ref (h 0))]) hx hb dX5_digest_75 rfl hl (by decide) rfl (fun ls hl => ?_)
            refine lv_iinc (v := 2) (lv' := [(4, .int 2), (1, .long (((((zdK kt km kl (zdW L (zmx 191 (nI n).toInt64) n) j) * 31) + (((kt j)).toInt64)) * 31) + (((km j)).toInt64))), (3, .int (nI j)), (0, .ref (h 0))]) hx hb dX5_digest_76 hl (k := 1) rfl (by decide) (by decide) rfl (fun ls hl => ?_)
            refine lv_goto (tgt := 55) hx hb dX5_digest_79 (by decide) ?_
            refine lv_iload hx hb dX5_digest_55 (lv_at hl 0 rfl) ?_
            refine lv_iconst (v := 3) hx hb dX5_digest_57 (by decide) ?_
            refine lv_icmp_ge (tgt := 82) hx hb dX5_digest_58 (by decide) (fun c_29 => ?_) (fun c_29 => ?_)
            · skip
              exfalso; first | omega | (revert c_29; decide) | (exact absurd rfl c_29) | simp_all
            · skip
              refine lv_lload_n hx hb dX5_digest_61 rfl (lv_at hl 1 rfl) ?_
              refine lv_ldc2 hx hb hown (hts (.constantLong RX5 175 (31)) (List.mem_of_getElem? (i := 4) rfl)) dX5_digest_62 ?_
              refine lv_lmul hx hb dX5_digest_65 ?_
              refine lv_aload_n hx hb dX5_digest_66 rfl (lv_at hl 3 rfl) ?_
              refine lv_iload_n hx hb dX5_digest_67 rfl (lv_at hl 2 rfl) ?_
              refine lv_iload hx hb dX5_digest_68 (lv_at hl 0 rfl) ?_
              refine zci (zrV (As := [.int (nI j), .int 2]) (rest := [.long ((((((zdK kt km kl (zdW L (zmx 191 (nI n).toInt64) n) j) * 31) + (((kt j)).toInt64)) * 31) + (((km j)).toInt64)) * 31)]) ⟨hx, hb, hml, hown, hts⟩ (zV 0 hP hD hK hE hB hS rfl rfl) (c_X5_known_k2 (k := j) (by omega)) (cwV 2 hts gX5_digest_X5_known rfl rfl rfl hdv_X5_known ⟨Nat.le_of_ble_eq_true rfl, Nat.le_of_ble_eq_true rfl⟩) rfl rfl hl.1 rfl (lv_room (Nat.le_of_ble_eq_true rfl)) dX5_digest_70 ⟨Nat.le_of_ble_eq_true rfl, Nat.le_of_ble_eq_true rfl⟩) hS (fun H locs hP hD hS => ?_)
              have hP : va_P D vwCl (zWM cI cJ cZ h 0 (n, L) ((zcb kt pt), (zcb km pm), (zcb kl pl)) mc (true, wc, nu, lc, le, af, tr, ms, cl, tm) (co, yn, yh, pa) ++ R) _ := hP
              have hD : va_D (zAb B) (zWM cI cJ cZ h 0 (n, L) ((zcb kt pt), (zcb km pm), (zcb kl pl)) mc (true, wc, nu, lc, le, af, tr, ms, cl, tm) (co, yn, yh, pa) ++ R) := hD
              refine lv_i2l (v := ((kl j)).toInt64) hx hb dX5_digest_73 rfl ?_
              refine lv_ladd hx hb dX5_digest_74 ?_
              refine lv_lstore_n (lv' := [(1, .long (((((((zdK kt km kl (zdW L (zmx 191 (nI n).toInt64) n) j) * 31) + (((kt j)).toInt64)) * 31) + (((km j)).toInt64)) * 31) + (((kl j)).toInt64))), (4, .int 2), (3, .int (nI j)), (0, .ref (h 0))]) hx hb dX5_digest_75 rfl hl (by decide) rfl (fun ls hl => ?_)
              refine lv_iinc (v := 3) (lv' := [(4, .int 3), (1, .long (((((((zdK kt km kl (zdW L (zmx 191 (nI n).toInt64) n) j) * 31) + (((kt j)).toInt64)) * 31) + (((km j)).toInt64)) * 31) + (((kl j)).toInt64))), (3, .int (nI j)), (0, .ref (h 0))]) hx hb dX5_digest_76 hl (k := 1) rfl (by decide) (by decide) rfl (fun ls hl => ?_)
              refine lv_goto (tgt := 55) hx hb dX5_digest_79 (by decide) ?_
              refine lv_iload hx hb dX5_digest_55 (lv_at hl 0 rfl) ?_
              refine lv_iconst (v := 3) hx hb dX5_digest_57 (by decide) ?_
              refine lv_icmp_ge (tgt := 82) hx hb dX5_digest_58 (by decide) (fun c_30 => ?_) (fun c_30 => ?_)
              · skip
                refine lv_iinc (v := (nI (j + 1))) (lv' := [(3, .int (nI (j + 1))), (4, .int 3), (1, .long (((((((zdK kt km kl (zdW L (zmx 191 (nI n).toInt64) n) j) * 31) + (((kt j)).toInt64)) * 31) + (((km j)).toInt64)) * 31) + (((kl j)).toInt64))), (0, .ref (h 0))]) hx hb dX5_digest_82 hl (k := 2) rfl (nI_add j 1) (by decide) rfl (fun ls hl => ?_)
                refine lv_goto (tgt := 46) hx hb dX5_digest_85 (by decide) ?_
                exact ih (j + 1, (((((((zdK kt km kl (zdW L (zmx 191 (nI n).toInt64) n) j) * 31) + (((kt j)).toInt64)) * 31) + (((km j)).toInt64)) * 31) + (((kl j)).toInt64))) (⟨by omega, rfl⟩) (by omega) _ _ _ hP hD hS (lv_sub hl [0, 2, 3] rfl)
              · skip
                exfalso; first | omega | (revert c_30; decide) | (exact absurd rfl c_30) | simp_all
    · skip
      have c_1 : ¬ n ≤ j := fun hh => c_1 ((nI_leI (a := n) (b := j) (by omega) (by omega)).mpr hh)
      refine lv_lload_n hx hb dX5_digest_25 rfl (lv_at hl 1 rfl) ?_
      refine lv_ldc2 hx hb hown (hts (.constantLong RX5 175 (31)) (List.mem_of_getElem? (i := 4) rfl)) dX5_digest_26 ?_
      refine lv_lmul hx hb dX5_digest_29 ?_
      refine lv_aload_n hx hb dX5_digest_30 rfl (lv_at hl 2 rfl) ?_
      refine va_get (ci := 5) (v := .ref (h 1)) (C := RX5) (T := TX5) (N := 20) hx hb hts hinX5 hown hK hP 0 rfl rfl 2 (by decide) (hts (.fieldLink RX5 9 "TypingTutorModel" "list" "[J") (List.mem_of_getElem? (i := 5) rfl)) (fun _ h9 => h9) rfl dX5_digest_31 ?_
      refine lv_iload_n hx hb dX5_digest_34 rfl (lv_at hl 0 rfl) ?_
      refine va_lald hx hb hK hP 1 1 rfl rfl (vp_in_nI (n := j) (N := 40) (by omega) (by omega)) dX5_digest_35 ?_
      rw [pk_cl (x := (nI j)) j (rfl) (by omega)]
      refine lv_ladd hx hb dX5_digest_36 ?_
      refine lv_lstore_n (lv' := [(1, .long (((zdW L (zmx 191 (nI n).toInt64) j) * 31) + (L j))), (3, .int (nI j)), (0, .ref (h 0))]) hx hb dX5_digest_37 rfl hl (by decide) rfl (fun ls hl => ?_)
      refine lv_iinc (v := (nI (j + 1))) (lv' := [(3, .int (nI (j + 1))), (1, .long (((zdW L (zmx 191 (nI n).toInt64) j) * 31) + (L j))), (0, .ref (h 0))]) hx hb dX5_digest_38 hl (k := 1) rfl (nI_add j 1) (by decide) rfl (fun ls hl => ?_)
      refine lv_goto (tgt := 17) hx hb dX5_digest_41 (by decide) ?_
      exact ih (j + 1, (((zdW L (zmx 191 (nI n).toInt64) j) * 31) + (L j))) (⟨by omega, rfl⟩) (by omega) _ _ _ hP hD hS (lv_sub hl [0, 1, 2] rfl)
  | false =>
    refine Met.ofW (cc := cX5_digest) (maxL := 5) (ret := (some .long)) (by decide) rfl ?_
    intro p e s m args below meth c s₁ B0 hml hv
    obtain ⟨rfl, hP, hD, hK, hE, hB⟩ := hv
    have hx := B0.exec
    have hb := B0.bytes
    have hr := B0.returns
    have hts := atoms_spec (ws := wsX5_digest) B0.pre
    have hown : s.vm.findClass RX5 = some m.cls := findClass_of_methodNamed B0.named
    have hlocks := B0.notSynchronized
    have hA : ∀ q : Nat, s.heap.size ≤ q → zAb B q := fun q hq => Nat.le_trans hB hq
    have hS : va_S (zAb B) s.heap s.heap [] := va_S.rf
    have hgr : s.heap.size ≤ s.heap.size := Nat.le_refl _
    have hl := lv_entry ([.ref (h 0)]) (n := 5) (Nat.le_of_ble_eq_true rfl)
    rw [lg_entry_eq]
    generalize (lg_sl ([.ref (h 0)]) ++ List.replicate (5 - (lg_sl ([.ref (h 0)])).length) Slot.unset).toArray = ls at hl ⊢
    have hl : lv_has ls 5 [(0, .ref (h 0))] := hl
    have hinX5 : ∀ w ∈ wsX50, w ∈ wsX5_digest := fun _ h => List.mem_cons_of_mem _ (List.mem_append_right _ h)
    have hP : va_P D vwCl (zWM cI cJ cZ h th (n, L) ((zcb kt pt), (zcb km pm), (zcb kl pl)) mc (false, wc, nu, lc, le, af, tr, ms, cl, tm) (co, yn, yh, pa) ++ R) s.heap := hP
    have hD : va_D (zAb B) (zWM cI cJ cZ h th (n, L) ((zcb kt pt), (zcb km pm), (zcb kl pl)) mc (false, wc, nu, lc, le, af, tr, ms, cl, tm) (co, yn, yh, pa) ++ R) := hD
    refine lv_aload_n hx hb dX5_digest_0 rfl (lv_at hl 0 rfl) ?_
    refine lv_iconst (v := 0) hx hb dX5_digest_1 (by decide) ?_
    refine va_put (ci := 5) (v := .int 0) (ty := .int) (C := RX5) (T := TX5) (N := 20) hx hb hts hinX5 tyX5 tyX5_ok nmX5 hown hK hP hD hS 0 rfl rfl 0 (by decide) (hts (.fieldLink RX5 43 "TypingTutorModel" "thrown" "I") (List.mem_of_getElem? (i := 1) rfl)) (fun _ h9 => h9) rfl (by decide +kernel) rfl rfl (Nat.le_of_ble_eq_true rfl) dX5_digest_2 (fun H locs hP hD hS => ?_)
    have hP : va_P D vwCl (zWM cI cJ cZ h 0 (n, L) ((zcb kt pt), (zcb km pm), (zcb kl pl)) mc (false, wc, nu, lc, le, af, tr, ms, cl, tm) (co, yn, yh, pa) ++ R) _ := hP
    have hD : va_D (zAb B) (zWM cI cJ cZ h 0 (n, L) ((zcb kt pt), (zcb km pm), (zcb kl pl)) mc (false, wc, nu, lc, le, af, tr, ms, cl, tm) (co, yn, yh, pa) ++ R) := hD
    refine lv_ldc2 hx hb hown (hts (.constantLong RX5 173 (5921)) (List.mem_of_getElem? (i := 2) rfl)) dX5_digest_5 ?_
    refine lv_aload_n hx hb dX5_digest_8 rfl (lv_at hl 0 rfl) ?_
    refine va_get (ci := 5) (v := .int (nI n)) (C := RX5) (T := TX5) (N := 20) hx hb hts hinX5 hown hK hP 0 rfl rfl 1 (by decide) (hts (.fieldLink RX5 46 "TypingTutorModel" "words" "I") (List.mem_of_getElem? (i := 3) rfl)) (fun _ h9 => h9) rfl dX5_digest_9 ?_
    refine lv_i2l (v := ((nI n)).toInt64) hx hb dX5_digest_12 rfl ?_
    refine lv_ladd hx hb dX5_digest_13 ?_
    refine lv_lstore_n (lv' := [(1, .long (5921 + (((nI n)).toInt64))), (0, .ref (h 0))]) hx hb dX5_digest_14 rfl hl (by decide) rfl (fun ls hl => ?_)
    refine lv_iconst (v := 0) hx hb dX5_digest_15 (by decide) ?_
    refine lv_istore_n (lv' := [(3, .int 0), (1, .long (5921 + (((nI n)).toInt64))), (0, .ref (h 0))]) hx hb dX5_digest_16 rfl hl (by decide) rfl (fun ls hl => ?_)
    refine zloop (σ := (Nat) × (Int64)) (nL := 5) (fun x9 => (zWM cI cJ cZ h 0 (n, L) ((zcb kt pt), (zcb km pm), (zcb kl pl)) mc (false, wc, nu, lc, le, af, tr, ms, cl, tm) (co, yn, yh, pa) ++ R)) (fun x9 => [(3, .int (nI x9.1)), (1, .long x9.2), (0, .ref (h 0))]) (fun x9 => []) (fun x9 => (x9.1 ≤ n) ∧ x9.2 = zdW L (zmx 191 (nI n).toInt64) x9.1) (fun x9 => n - x9.1) ?_ (0, 5921 + (nI n).toInt64) (⟨by omega, zmx_191 _⟩) _ _ _ hP hD hS (lv_sub hl [0, 1, 2] rfl)
    rintro ⟨j, z⟩ hI ih H locs ls hP hD hS hl
    try dsimp only at hI ih hP hD hS hl ⊢
    obtain ⟨hI, rfl⟩ := hI
    refine lv_iload_n hx hb dX5_digest_17 rfl (lv_at hl 0 rfl) ?_
    refine lv_aload_n hx hb dX5_digest_18 rfl (lv_at hl 2 rfl) ?_
    refine va_get (ci := 5) (v := .int (nI n)) (C := RX5) (T := TX5) (N := 20) hx hb hts hinX5 hown hK hP 0 rfl rfl 1 (by decide) (hts (.fieldLink RX5 46 "TypingTutorModel" "words" "I") (List.mem_of_getElem? (i := 3) rfl)) (fun _ h9 => h9) rfl dX5_digest_19 ?_
    refine lv_icmp_ge (tgt := 44) hx hb dX5_digest_22 (by decide) (fun c_31 => ?_) (fun c_31 => ?_)
    · skip
      have c_31 : n ≤ j := (nI_leI (a := n) (b := j) (by omega) (by omega)).mp c_31
      obtain rfl : n = j := by omega
      refine lv_iconst (v := 0) hx hb dX5_digest_44 (by decide) ?_
      refine lv_istore_n (lv' := [(3, .int 0), (1, .long (zdW L (zmx 191 (nI n).toInt64) n)), (0, .ref (h 0))]) hx hb dX5_digest_45 rfl hl (by decide) rfl (fun ls hl => ?_)
      refine zloop (σ := (Nat) × (Int64)) (nL := 5) (fun x9 => (zWM cI cJ cZ h 0 (n, L) ((zcb kt pt), (zcb km pm), (zcb kl pl)) mc (false, wc, nu, lc, le, af, tr, ms, cl, tm) (co, yn, yh, pa) ++ R)) (fun x9 => [(3, .int (nI x9.1)), (1, .long x9.2), (0, .ref (h 0))]) (fun x9 => []) (fun x9 => (x9.1 ≤ 26) ∧ x9.2 = zdK kt km kl (zdW L (zmx 191 (nI n).toInt64) n) x9.1) (fun x9 => 26 - x9.1) ?_ (0, zdW L (zmx 191 (nI n).toInt64) n) (⟨by omega, rfl⟩) _ _ _ hP hD hS (lv_sub hl [0, 1, 2] rfl)
      rintro ⟨j, z⟩ hI ih H locs ls hP hD hS hl
      try dsimp only at hI ih hP hD hS hl ⊢
      obtain ⟨hI, rfl⟩ := hI
      refine lv_iload_n hx hb dX5_digest_46 rfl (lv_at hl 0 rfl) ?_
      refine lv_bipush (v := 26) hx hb dX5_digest_47 (by decide) ?_
      refine lv_icmp_ge (tgt := 88) hx hb dX5_digest_49 (by decide) (fun c_32 => ?_) (fun c_32 => ?_)
      · skip
        have c_32 : 26 ≤ j := (nI_leI (a := 26) (b := j) (by omega) (by omega)).mp c_32
        obtain rfl : 26 = j := by omega
        refine lv_iconst (v := 0) hx hb dX5_digest_88 (by decide) ?_
        refine lv_istore_n (lv' := [(3, .int 0), (1, .long (zdK kt km kl (zdW L (zmx 191 (nI n).toInt64) n) 26)), (0, .ref (h 0))]) hx hb dX5_digest_89 rfl hl (by decide) rfl (fun ls hl => ?_)
        refine zloop (σ := (Nat) × (Int64)) (nL := 5) (fun x9 => (zWM cI cJ cZ h 0 (n, L) ((zcb kt pt), (zcb km pm), (zcb kl pl)) mc (false, wc, nu, lc, le, af, tr, ms, cl, tm) (co, yn, yh, pa) ++ R)) (fun x9 => [(3, .int (nI x9.1)), (1, .long x9.2), (0, .ref (h 0))]) (fun x9 => []) (fun x9 => (x9.1 ≤ 676) ∧ x9.2 = zdP pt pm pl (zdK kt km kl (zdW L (zmx 191 (nI n).toInt64) n) 26) x9.1) (fun x9 => 676 - x9.1) ?_ (0, zdK kt km kl (zdW L (zmx 191 (nI n).toInt64) n) 26) (⟨by omega, rfl⟩) _ _ _ hP hD hS (lv_sub hl [0, 1, 2] rfl)
        rintro ⟨j, z⟩ hI ih H locs ls hP hD hS hl
        try dsimp only at hI ih hP hD hS hl ⊢
        obtain ⟨hI, rfl⟩ := hI
        refine lv_iload_n hx hb dX5_digest_90 rfl (lv_at hl 0 rfl) ?_
        refine lv_sipush (v := 676) hx hb dX5_digest_91 (by decide) ?_
        refine lv_icmp_ge (tgt := 160) hx hb dX5_digest_94 (by decide) (fun c_33 => ?_) (fun c_33 => ?_)
        · skip
          have c_33 : 676 ≤ j := (nI_leI (a := 676) (b := j) (by omega) (by omega)).mp c_33
          obtain rfl : 676 = j := by omega
          refine lv_iconst (v := 1) hx hb dX5_digest_160 (by decide) ?_
          refine lv_istore_n (lv' := [(3, .int 1), (1, .long (zdP pt pm pl (zdK kt km kl (zdW L (zmx 191 (nI n).toInt64) n) 26) 676)), (0, .ref (h 0))]) hx hb dX5_digest_161 rfl hl (by decide) rfl (fun ls hl => ?_)
          refine lv_iload_n hx hb dX5_digest_162 rfl (lv_at hl 0 rfl) ?_
          refine lv_iconst (v := 5) hx hb dX5_digest_163 (by decide) ?_
          refine lv_icmp_ge (tgt := 187) hx hb dX5_digest_164 (by decide) (fun c_34 => ?_) (fun c_34 => ?_)
          · skip
            exfalso; first | omega | (revert c_34; decide) | (exact absurd rfl c_34) | simp_all
          · skip
            refine lv_lload_n hx hb dX5_digest_167 rfl (lv_at hl 1 rfl) ?_
            refine lv_ldc2 hx hb hown (hts (.constantLong RX5 175 (31)) (List.mem_of_getElem? (i := 4) rfl)) dX5_digest_168 ?_
            refine lv_lmul hx hb dX5_digest_171 ?_
            refine lv_aload_n hx hb dX5_digest_172 rfl (lv_at hl 2 rfl) ?_
            refine va_get (ci := 5) (v := .ref (h 5)) (C := RX5) (T := TX5) (N := 20) hx hb hts hinX5 hown hK hP 0 rfl rfl 6 (by decide) (hts (.fieldLink RX5 23 "TypingTutorModel" "kindCounts" "[I") (List.mem_of_getElem? (i := 7) rfl)) (fun _ h9 => h9) rfl dX5_digest_173 ?_
            refine lv_iload_n hx hb dX5_digest_176 rfl (lv_at hl 0 rfl) ?_
            refine va_iald hx hb hK hP 5 0 rfl rfl (vp_in_nI (n := 1) (N := 5) (by omega) (by omega)) dX5_digest_177 ?_
            rw [pk_cl (x := (1 : Int32)) 1 (rfl) (by omega)]
            refine lv_i2l (v := ((mc 1)).toInt64) hx hb dX5_digest_178 rfl ?_
            refine lv_ladd hx hb dX5_digest_179 ?_
            refine lv_lstore_n (lv' := [(1, .long (((zdP pt pm pl (zdK kt km kl (zdW L (zmx 191 (nI n).toInt64) n) 26) 676) * 31) + (((mc 1)).toInt64))), (3, .int 1), (0, .ref (h 0))]) hx hb dX5_digest_180 rfl hl (by decide) rfl (fun ls hl => ?_)
            refine lv_iinc (v := 2) (lv' := [(3, .int 2), (1, .long (((zdP pt pm pl (zdK kt km kl (zdW L (zmx 191 (nI n).toInt64) n) 26) 676) * 31) + (((mc 1)).toInt64))), (0, .ref (h 0))]) hx hb dX5_digest_181 hl (k := 1) rfl (by decide) (by decide) rfl (fun ls hl => ?_)
            refine lv_goto (tgt := 162) hx hb dX5_digest_184 (by decide) ?_
            refine lv_iload_n hx hb dX5_digest_162 rfl (lv_at hl 0 rfl) ?_
            refine lv_iconst (v := 5) hx hb dX5_digest_163 (by decide) ?_
            refine lv_icmp_ge (tgt := 187) hx hb dX5_digest_164 (by decide) (fun c_35 => ?_) (fun c_35 => ?_)
            · skip
              exfalso; first | omega | (revert c_35; decide) | (exact absurd rfl c_35) | simp_all
            · skip
              refine lv_lload_n hx hb dX5_digest_167 rfl (lv_at hl 1 rfl) ?_
              refine lv_ldc2 hx hb hown (hts (.constantLong RX5 175 (31)) (List.mem_of_getElem? (i := 4) rfl)) dX5_digest_168 ?_
              refine lv_lmul hx hb dX5_digest_171 ?_
              refine lv_aload_n hx hb dX5_digest_172 rfl (lv_at hl 2 rfl) ?_
              refine va_get (ci := 5) (v := .ref (h 5)) (C := RX5) (T := TX5) (N := 20) hx hb hts hinX5 hown hK hP 0 rfl rfl 6 (by decide) (hts (.fieldLink RX5 23 "TypingTutorModel" "kindCounts" "[I") (List.mem_of_getElem? (i := 7) rfl)) (fun _ h9 => h9) rfl dX5_digest_173 ?_
              refine lv_iload_n hx hb dX5_digest_176 rfl (lv_at hl 0 rfl) ?_
              refine va_iald hx hb hK hP 5 0 rfl rfl (vp_in_nI (n := 2) (N := 5) (by omega) (by omega)) dX5_digest_177 ?_
              rw [pk_cl (x := (2 : Int32)) 2 (rfl) (by omega)]
              refine lv_i2l (v := ((mc 2)).toInt64) hx hb dX5_digest_178 rfl ?_
              refine lv_ladd hx hb dX5_digest_179 ?_
              refine lv_lstore_n (lv' := [(1, .long (((((zdP pt pm pl (zdK kt km kl (zdW L (zmx 191 (nI n).toInt64) n) 26) 676) * 31) + (((mc 1)).toInt64)) * 31) + (((mc 2)).toInt64))), (3, .int 2), (0, .ref (h 0))]) hx hb dX5_digest_180 rfl hl (by decide) rfl (fun ls hl => ?_)
              refine lv_iinc (v := 3) (lv' := [(3, .int 3), (1, .long (((((zdP pt pm pl (zdK kt km kl (zdW L (zmx 191 (nI n).toInt64) n) 26) 676) * 31) + (((mc 1)).toInt64)) * 31) + (((mc 2)).toInt64))), (0, .ref (h 0))]) hx hb dX5_digest_181 hl (k := 1) rfl (by decide) (by decide) rfl (fun ls hl => ?_)
              refine lv_goto (tgt := 162) hx hb dX5_digest_184 (by decide) ?_
              refine lv_iload_n hx hb dX5_digest_162 rfl (lv_at hl 0 rfl) ?_
              refine lv_iconst (v := 5) hx hb dX5_digest_163 (by decide) ?_
              refine lv_icmp_ge (tgt := 187) hx hb dX5_digest_164 (by decide) (fun c_36 => ?_) (fun c_36 => ?_)
              · skip
                exfalso; first | omega | (revert c_36; decide) | (exact absurd rfl c_36) | simp_all
              · skip
                refine lv_lload_n hx hb dX5_digest_167 rfl (lv_at hl 1 rfl) ?_
                refine lv_ldc2 hx hb hown (hts (.constantLong RX5 175 (31)) (List.mem_of_getElem? (i := 4) rfl)) dX5_digest_168 ?_
                refine lv_lmul hx hb dX5_digest_171 ?_
                refine lv_aload_n hx hb dX5_digest_172 rfl (lv_at hl 2 rfl) ?_
                refine va_get (ci := 5) (v := .ref (h 5)) (C := RX5) (T := TX5) (N := 20) hx hb hts hinX5 hown hK hP 0 rfl rfl 6 (by decide) (hts (.fieldLink RX5 23 "TypingTutorModel" "kindCounts" "[I") (List.mem_of_getElem? (i := 7) rfl)) (fun _ h9 => h9) rfl dX5_digest_173 ?_
                refine lv_iload_n hx hb dX5_digest_176 rfl (lv_at hl 0 rfl) ?_
                refine va_iald hx hb hK hP 5 0 rfl rfl (vp_in_nI (n := 3) (N := 5) (by omega) (by omega)) dX5_digest_177 ?_
                rw [pk_cl (x := (3 : Int32)) 3 (rfl) (by omega)]
                refine lv_i2l (v := ((mc 3)).toInt64) hx hb dX5_digest_178 rfl ?_
                refine lv_ladd hx hb dX5_digest_179 ?_
                refine lv_lstore_n (lv' := [(1, .long (((((((zdP pt pm pl (zdK kt km kl (zdW L (zmx 191 (nI n).toInt64) n) 26) 676) * 31) + (((mc 1)).toInt64)) * 31) + (((mc 2)).toInt64)) * 31) + (((mc 3)).toInt64))), (3, .int 3), (0, .ref (h 0))]) hx hb dX5_digest_180 rfl hl (by decide) rfl (fun ls hl => ?_)
                refine lv_iinc (v := 4) (lv' := [(3, .int 4), (1, .long (((((((zdP pt pm pl (zdK kt km kl (zdW L (zmx 191 (nI n).toInt64) n) 26) 676) * 31) + (((mc 1)).toInt64)) * 31) + (((mc 2)).toInt64)) * 31) + (((mc 3)).toInt64))), (0, .ref (h 0))]) hx hb dX5_digest_181 hl (k := 1) rfl (by decide) (by decide) rfl (fun ls hl => ?_)
                refine lv_goto (tgt := 162) hx hb dX5_digest_184 (by decide) ?_
                refine lv_iload_n hx hb dX5_digest_162 rfl (lv_at hl 0 rfl) ?_
                refine lv_iconst (v := 5) hx hb dX5_digest_163 (by decide) ?_
                refine lv_icmp_ge (tgt := 187) hx hb dX5_digest_164 (by decide) (fun c_37 => ?_) (fun c_37 => ?_)
                · skip
                  exfalso; first | omega | (revert c_37; decide) | (exact absurd rfl c_37) | simp_all
                · skip
                  refine lv_lload_n hx hb dX5_digest_167 rfl (lv_at hl 1 rfl) ?_
                  refine lv_ldc2 hx hb hown (hts (.constantLong RX5 175 (31)) (List.mem_of_getElem? (i := 4) rfl)) dX5_digest_168 ?_
                  refine lv_lmul hx hb dX5_digest_171 ?_
                  refine lv_aload_n hx hb dX5_digest_172 rfl (lv_at hl 2 rfl) ?_
                  refine va_get (ci := 5) (v := .ref (h 5)) (C := RX5) (T := TX5) (N := 20) hx hb hts hinX5 hown hK hP 0 rfl rfl 6 (by decide) (hts (.fieldLink RX5 23 "TypingTutorModel" "kindCounts" "[I") (List.mem_of_getElem? (i := 7) rfl)) (fun _ h9 => h9) rfl dX5_digest_173 ?_
                  refine lv_iload_n hx hb dX5_digest_176 rfl (lv_at hl 0 rfl) ?_
                  refine va_iald hx hb hK hP 5 0 rfl rfl (vp_in_nI (n := 4) (N := 5) (by omega) (by omega)) dX5_digest_177 ?_
                  rw [pk_cl (x := (4 : Int32)) 4 (rfl) (by omega)]
                  refine lv_i2l (v := ((mc 4)).toInt64) hx hb dX5_digest_178 rfl ?_
                  refine lv_ladd hx hb dX5_digest_179 ?_
                  refine lv_lstore_n (lv' := [(1, .long (((((((((zdP pt pm pl (zdK kt km kl (zdW L (zmx 191 (nI n).toInt64) n) 26) 676) * 31) + (((mc 1)).toInt64)) * 31) + (((mc 2)).toInt64)) * 31) + (((mc 3)).toInt64)) * 31) + (((mc 4)).toInt64))), (3, .int 4), (0, .ref (h 0))]) hx hb dX5_digest_180 rfl hl (by decide) rfl (fun ls hl => ?_)
                  refine lv_iinc (v := 5) (lv' := [(3, .int 5), (1, .long (((((((((zdP pt pm pl (zdK kt km kl (zdW L (zmx 191 (nI n).toInt64) n) 26) 676) * 31) + (((mc 1)).toInt64)) * 31) + (((mc 2)).toInt64)) * 31) + (((mc 3)).toInt64)) * 31) + (((mc 4)).toInt64))), (0, .ref (h 0))]) hx hb dX5_digest_181 hl (k := 1) rfl (by decide) (by decide) rfl (fun ls hl => ?_)
                  refine lv_goto (tgt := 162) hx hb dX5_digest_184 (by decide) ?_
                  refine lv_iload_n hx hb dX5_digest_162 rfl (lv_at hl 0 rfl) ?_
                  refine lv_iconst (v := 5) hx hb dX5_digest_163 (by decide) ?_
                  refine lv_icmp_ge (tgt := 187) hx hb dX5_digest_164 (by decide) (fun c_38 => ?_) (fun c_38 => ?_)
                  · skip
                    refine lv_lload_n hx hb dX5_digest_187 rfl (lv_at hl 1 rfl) ?_
                    refine lv_ldc2 hx hb hown (hts (.constantLong RX5 175 (31)) (List.mem_of_getElem? (i := 4) rfl)) dX5_digest_188 ?_
                    refine lv_lmul hx hb dX5_digest_191 ?_
                    refine lv_aload_n hx hb dX5_digest_192 rfl (lv_at hl 2 rfl) ?_
                    refine va_get (ci := 5) (v := .int 0) (C := RX5) (T := TX5) (N := 20) hx hb hts hinX5 hown hK hP 0 rfl rfl 7 (by decide) (hts (.fieldLink RX5 106 "TypingTutorModel" "isOpen" "Z") (List.mem_of_getElem? (i := 8) rfl)) (fun _ h9 => h9) rfl dX5_digest_193 ?_
                    refine lv_if_eq (tgt := 203) hx hb dX5_digest_196 (by decide) (fun c_39 => ?_) (fun c_39 => ?_)
                    · skip
                      refine lv_lconst (v := 0) hx hb dX5_digest_203 (by decide) ?_
                      refine lv_ladd hx hb dX5_digest_204 ?_
                      refine lv_lstore_n (lv' := [(1, .long (((((((((((zdP pt pm pl (zdK kt km kl (zdW L (zmx 191 (nI n).toInt64) n) 26) 676) * 31) + (((mc 1)).toInt64)) * 31) + (((mc 2)).toInt64)) * 31) + (((mc 3)).toInt64)) * 31) + (((mc 4)).toInt64)) * 31) + 0)), (3, .int 5), (0, .ref (h 0))]) hx hb dX5_digest_205 rfl hl (by decide) rfl (fun ls hl => ?_)
                      refine lv_aload_n hx hb dX5_digest_206 rfl (lv_at hl 2 rfl) ?_
                      refine va_get (ci := 5) (v := .int 0) (C := RX5) (T := TX5) (N := 20) hx hb hts hinX5 hown hK hP 0 rfl rfl 7 (by decide) (hts (.fieldLink RX5 106 "TypingTutorModel" "isOpen" "Z") (List.mem_of_getElem? (i := 8) rfl)) (fun _ h9 => h9) rfl dX5_digest_207 ?_
                      refine lv_if_eq (tgt := 267) hx hb dX5_digest_210 (by decide) (fun c_40 => ?_) (fun c_40 => ?_)
                      · skip
                        refine lv_lload_n hx hb dX5_digest_267 rfl (lv_at hl 0 rfl) ?_
                        refine lv_ldc2 hx hb hown (hts (.constantLong RX5 175 (31)) (List.mem_of_getElem? (i := 4) rfl)) dX5_digest_268 ?_
                        refine lv_lmul hx hb dX5_digest_271 ?_
                        refine lv_aload_n hx hb dX5_digest_272 rfl (lv_at hl 2 rfl) ?_
                        refine va_get (ci := 5) (v := .int (nI co)) (C := RX5) (T := TX5) (N := 20) hx hb hts hinX5 hown hK hP 0 rfl rfl 17 (by decide) (hts (.fieldLink RX5 145 "TypingTutorModel" "finished" "I") (List.mem_of_getElem? (i := 12) rfl)) (fun _ h9 => h9) rfl dX5_digest_273 ?_
                        refine lv_i2l (v := ((nI co)).toInt64) hx hb dX5_digest_276 rfl ?_
                        refine lv_ladd hx hb dX5_digest_277 ?_
                        refine lv_lstore_n (lv' := [(1, .long (((((((((((((zdP pt pm pl (zdK kt km kl (zdW L (zmx 191 (nI n).toInt64) n) 26) 676) * 31) + (((mc 1)).toInt64)) * 31) + (((mc 2)).toInt64)) * 31) + (((mc 3)).toInt64)) * 31) + (((mc 4)).toInt64)) * 31) + 0) * 31) + (((nI co)).toInt64))), (3, .int 5), (0, .ref (h 0))]) hx hb dX5_digest_278 rfl hl (by decide) rfl (fun ls hl => ?_)
                        refine lv_iconst (v := 0) hx hb dX5_digest_279 (by decide) ?_
                        refine lv_istore_n (lv' := [(3, .int 0), (1, .long (((((((((((((zdP pt pm pl (zdK kt km kl (zdW L (zmx 191 (nI n).toInt64) n) 26) 676) * 31) + (((mc 1)).toInt64)) * 31) + (((mc 2)).toInt64)) * 31) + (((mc 3)).toInt64)) * 31) + (((mc 4)).toInt64)) * 31) + 0) * 31) + (((nI co)).toInt64))), (0, .ref (h 0))]) hx hb dX5_digest_280 rfl hl (by decide) rfl (fun ls hl => ?_)
                        refine zloop (σ := (Nat) × (Int64)) (nL := 5) (fun x9 => (zWM cI cJ cZ h 0 (n, L) ((zcb kt pt), (zcb km pm), (zcb kl pl)) mc (false, wc, nu, lc, le, af, tr, ms, cl, tm) (co, yn, yh, pa) ++ R)) (fun x9 => [(3, .int (nI x9.1)), (1, .long x9.2), (0, .ref (h 0))]) (fun x9 => []) (fun x9 => (x9.1 ≤ co) ∧ x9.2 = zdH yl yc yt (zmx (zdL false nu wc tr (zd4 mc (zdP pt pm pl (zdK kt km kl (zdW L (zmx 191 (nI n).toInt64) n) 26) 676))) (nI co).toInt64) x9.1) (fun x9 => co - x9.1) ?_ (0, (zmx (zdL false nu wc tr (zd4 mc (zdP pt pm pl (zdK kt km kl (zdW L (zmx 191 (nI n).toInt64) n) 26) 676))) (nI co).toInt64)) (⟨by omega, rfl⟩) _ _ _ hP hD hS (lv_sub hl [0, 1, 2] rfl)
                        rintro ⟨j, z⟩ hI ih H locs ls hP hD hS hl
                        try dsimp only at hI ih hP hD hS hl ⊢
                        obtain ⟨hI, rfl⟩ := hI
                        refine lv_iload_n hx hb dX5_digest_281 rfl (lv_at hl 0 rfl) ?_
                        refine lv_aload_n hx hb dX5_digest_282 rfl (lv_at hl 2 rfl) ?_
                        refine va_get (ci := 5) (v := .int (nI co)) (C := RX5) (T := TX5) (N := 20) hx hb hts hinX5 hown hK hP 0 rfl rfl 17 (by decide) (hts (.fieldLink RX5 145 "TypingTutorModel" "finished" "I") (List.mem_of_getElem? (i := 12) rfl)) (fun _ h9 => h9) rfl dX5_digest_283 ?_
                        refine lv_icmp_ge (tgt := 325) hx hb dX5_digest_286 (by decide) (fun c_41 => ?_) (fun c_41 => ?_)
                        · skip
                          have c_41 : co ≤ j := (nI_leI (a := co) (b := j) (by omega) (by omega)).mp c_41
                          obtain rfl : co = j := by omega
                          refine lv_lload_n hx hb dX5_digest_325 rfl (lv_at hl 1 rfl) ?_
                          refine lv_ldc2 hx hb hown (hts (.constantLong RX5 175 (31)) (List.mem_of_getElem? (i := 4) rfl)) dX5_digest_326 ?_
                          refine lv_lmul hx hb dX5_digest_329 ?_
                          refine lv_aload_n hx hb dX5_digest_330 rfl (lv_at hl 2 rfl) ?_
                          refine va_get (ci := 5) (v := .int pa) (C := RX5) (T := TX5) (N := 20) hx hb hts hinX5 hown hK hP 0 rfl rfl 19 (by decide) (hts (.fieldLink RX5 39 "TypingTutorModel" "pace" "I") (List.mem_of_getElem? (i := 13) rfl)) (fun _ h9 => h9) rfl dX5_digest_331 ?_
                          refine lv_i2l (v := (pa).toInt64) hx hb dX5_digest_334 rfl ?_
                          refine lv_ladd hx hb dX5_digest_335 ?_
                          exact W.lret (v := (((zdH yl yc yt (zmx (zdL false nu wc tr (zd4 mc (zdP pt pm pl (zdK kt km kl (zdW L (zmx 191 (nI n).toInt64) n) 26) 676))) (nI co).toInt64) co) * 31) + ((pa).toInt64))) hx hb hr (fun t ht hW => ⟨⟨_, (), rfl, rfl, by rw [ht]; exact hP, hD⟩, hS.F ht⟩) hS.2.2 dX5_digest_336
                        · skip
                          have c_41 : ¬ co ≤ j := fun hh => c_41 ((nI_leI (a := co) (b := j) (by omega) (by omega)).mpr hh)
                          refine lv_iconst (v := 0) hx hb dX5_digest_289 (by decide) ?_
                          refine lv_istore (lv' := [(4, .int 0), (3, .int (nI j)), (1, .long (zdH yl yc yt (zmx (zdL false nu wc tr (zd4 mc (zdP pt pm pl (zdK kt km kl (zdW L (zmx 191 (nI n).toInt64) n) 26) 676))) (nI co).toInt64) j)), (0, .ref (h 0))]) hx hb dX5_digest_290 hl (by decide) rfl (fun ls hl => ?_)
                          refine lv_iload hx hb dX5_digest_292 (lv_at hl 0 rfl) ?_
                          refine lv_iconst (v := 4) hx hb dX5_digest_294 (by decide) ?_
                          refine lv_icmp_ge (tgt := 319) hx hb dX5_digest_295 (by decide) (fun c_42 => ?_) (fun c_42 => ?_)
                          · skip
                            exfalso; first | omega | (revert c_42; decide) | (exact absurd rfl c_42) | simp_all
                          · skip
                            refine lv_lload_n hx hb dX5_digest_298 rfl (lv_at hl 2 rfl) ?_
                            refine lv_ldc2 hx hb hown (hts (.constantLong RX5 175 (31)) (List.mem_of_getElem? (i := 4) rfl)) dX5_digest_299 ?_
                            refine lv_lmul hx hb dX5_digest_302 ?_
                            refine lv_aload_n hx hb dX5_digest_303 rfl (lv_at hl 3 rfl) ?_
                            refine lv_iload_n hx hb dX5_digest_304 rfl (lv_at hl 1 rfl) ?_
                            refine lv_iload hx hb dX5_digest_305 (lv_at hl 0 rfl) ?_
                            refine zci (zrV (As := [.int (nI j), .int 0]) (rest := [.long ((zdH yl yc yt (zmx (zdL false nu wc tr (zd4 mc (zdP pt pm pl (zdK kt km kl (zdW L (zmx 191 (nI n).toInt64) n) 26) 676))) (nI co).toInt64) j) * 31)]) ⟨hx, hb, hml, hown, hts⟩ (zV 0 hP hD hK hE hB hS rfl rfl) (c_X5_told_0 (k := j) (yl := yl) (yc := yc) (yt := yt) (hH) (by omega) (hhn) (hh3)) (cwV 2 hts gX5_digest_X5_told rfl rfl rfl hdv_X5_told ⟨Nat.le_of_ble_eq_true rfl, Nat.le_of_ble_eq_true rfl⟩) rfl rfl hl.1 rfl (lv_room (Nat.le_of_ble_eq_true rfl)) dX5_digest_307 ⟨Nat.le_of_ble_eq_true rfl, Nat.le_of_ble_eq_true rfl⟩) hS (fun H locs hP hD hS => ?_)
                            have hP : va_P D vwCl (zWM cI cJ cZ h 0 (n, L) ((zcb kt pt), (zcb km pm), (zcb kl pl)) mc (false, wc, nu, lc, le, af, tr, ms, cl, tm) (co, yn, yh, pa) ++ R) _ := hP
                            have hD : va_D (zAb B) (zWM cI cJ cZ h 0 (n, L) ((zcb kt pt), (zcb km pm), (zcb kl pl)) mc (false, wc, nu, lc, le, af, tr, ms, cl, tm) (co, yn, yh, pa) ++ R) := hD
                            refine lv_i2l (v := ((yl j)).toInt64) hx hb dX5_digest_310 rfl ?_
                            refine lv_ladd hx hb dX5_digest_311 ?_
                            refine lv_lstore_n (lv' := [(1, .long (((zdH yl yc yt (zmx (zdL false nu wc tr (zd4 mc (zdP pt pm pl (zdK kt km kl (zdW L (zmx 191 (nI n).toInt64) n) 26) 676))) (nI co).toInt64) j) * 31) + (((yl j)).toInt64))), (4, .int 0), (3, .int (nI j)), (0, .ref (h 0))]) hx hb dX5_digest_312 rfl hl (by decide) rfl (fun ls hl => ?_)
                            refine lv_iinc (v := 1) (lv' := [(4, .int 1), (1, .long (((zdH yl yc yt (zmx (zdL false nu wc tr (zd4 mc (zdP pt pm pl (zdK kt km kl (zdW L (zmx 191 (nI n).toInt64) n) 26) 676))) (nI co).toInt64) j) * 31) + (((yl j)).toInt64))), (3, .int (nI j)), (0, .ref (h 0))]) hx hb dX5_digest_313 hl (k := 1) rfl (by decide) (by decide) rfl (fun ls hl => ?_)
                            refine lv_goto (tgt := 292) hx hb dX5_digest_316 (by decide) ?_
                            refine lv_iload hx hb dX5_digest_292 (lv_at hl 0 rfl) ?_
                            refine lv_iconst (v := 4) hx hb dX5_digest_294 (by decide) ?_
                            refine lv_icmp_ge (tgt := 319) hx hb dX5_digest_295 (by decide) (fun c_43 => ?_) (fun c_43 => ?_)
                            · skip
                              exfalso; first | omega | (revert c_43; decide) | (exact absurd rfl c_43) | simp_all
                            · skip
                              refine lv_lload_n hx hb dX5_digest_298 rfl (lv_at hl 1 rfl) ?_
                              refine lv_ldc2 hx hb hown (hts (.constantLong RX5 175 (31)) (List.mem_of_getElem? (i := 4) rfl)) dX5_digest_299 ?_
                              refine lv_lmul hx hb dX5_digest_302 ?_
                              refine lv_aload_n hx hb dX5_digest_303 rfl (lv_at hl 3 rfl) ?_
                              refine lv_iload_n hx hb dX5_digest_304 rfl (lv_at hl 2 rfl) ?_
                              refine lv_iload hx hb dX5_digest_305 (lv_at hl 0 rfl) ?_
                              refine zci (zrV (As := [.int (nI j), .int 1]) (rest := [.long ((((zdH yl yc yt (zmx (zdL false nu wc tr (zd4 mc (zdP pt pm pl (zdK kt km kl (zdW L (zmx 191 (nI n).toInt64) n) 26) 676))) (nI co).toInt64) j) * 31) + (((yl j)).toInt64)) * 31)]) ⟨hx, hb, hml, hown, hts⟩ (zV 0 hP hD hK hE hB hS rfl rfl) (c_X5_told_1 (k := j) (yl := yl) (yc := yc) (yt := yt) (hH) (by omega) (hhn) (hh3)) (cwV 2 hts gX5_digest_X5_told rfl rfl rfl hdv_X5_told ⟨Nat.le_of_ble_eq_true rfl, Nat.le_of_ble_eq_true rfl⟩) rfl rfl hl.1 rfl (lv_room (Nat.le_of_ble_eq_true rfl)) dX5_digest_307 ⟨Nat.le_of_ble_eq_true rfl, Nat.le_of_ble_eq_true rfl⟩) hS (fun H locs hP hD hS => ?_)
                              have hP : va_P D vwCl (zWM cI cJ cZ h 0 (n, L) ((zcb kt pt), (zcb km pm), (zcb kl pl)) mc (false, wc, nu, lc, le, af, tr, ms, cl, tm) (co, yn, yh, pa) ++ R) _ := hP
                              have hD : va_D (zAb B) (zWM cI cJ cZ h 0 (n, L) ((zcb kt pt), (zcb km pm), (zcb kl pl)) mc (false, wc, nu, lc, le, af, tr, ms, cl, tm) (co, yn, yh, pa) ++ R) := hD
                              refine lv_i2l (v := ((yc j)).toInt64) hx hb dX5_digest_310 rfl ?_
                              refine lv_ladd hx hb dX5_digest_311 ?_
                              refine lv_lstore_n (lv' := [(1, .long (((((zdH yl yc yt (zmx (zdL false nu wc tr (zd4 mc (zdP pt pm pl (zdK kt km kl (zdW L (zmx 191 (nI n).toInt64) n) 26) 676))) (nI co).toInt64) j) * 31) + (((yl j)).toInt64)) * 31) + (((yc j)).toInt64))), (4, .int 1), (3, .int (nI j)), (0, .ref (h 0))]) hx hb dX5_digest_312 rfl hl (by decide) rfl (fun ls hl => ?_)
                              refine lv_iinc (v := 2) (lv' := [(4, .int 2), (1, .long (((((zdH yl yc yt (zmx (zdL false nu wc tr (zd4 mc (zdP pt pm pl (zdK kt km kl (zdW L (zmx 191 (nI n).toInt64) n) 26) 676))) (nI co).toInt64) j) * 31) + (((yl j)).toInt64)) * 31) + (((yc j)).toInt64))), (3, .int (nI j)), (0, .ref (h 0))]) hx hb dX5_digest_313 hl (k := 1) rfl (by decide) (by decide) rfl (fun ls hl => ?_)
                              refine lv_goto (tgt := 292) hx hb dX5_digest_316 (by decide) ?_
                              refine lv_iload hx hb dX5_digest_292 (lv_at hl 0 rfl) ?_
                              refine lv_iconst (v := 4) hx hb dX5_digest_294 (by decide) ?_
                              refine lv_icmp_ge (tgt := 319) hx hb dX5_digest_295 (by decide) (fun c_44 => ?_) (fun c_44 => ?_)
                              · skip
                                exfalso; first | omega | (revert c_44; decide) | (exact absurd rfl c_44) | simp_all
                              · skip
                                refine lv_lload_n hx hb dX5_digest_298 rfl (lv_at hl 1 rfl) ?_
                                refine lv_ldc2 hx hb hown (hts (.constantLong RX5 175 (31)) (List.mem_of_getElem? (i := 4) rfl)) dX5_digest_299 ?_
                                refine lv_lmul hx hb dX5_digest_302 ?_
                                refine lv_aload_n hx hb dX5_digest_303 rfl (lv_at hl 3 rfl) ?_
                                refine lv_iload_n hx hb dX5_digest_304 rfl (lv_at hl 2 rfl) ?_
                                refine lv_iload hx hb dX5_digest_305 (lv_at hl 0 rfl) ?_
                                refine zci (zrV (As := [.int (nI j), .int 2]) (rest := [.long ((((((zdH yl yc yt (zmx (zdL false nu wc tr (zd4 mc (zdP pt pm pl (zdK kt km kl (zdW L (zmx 191 (nI n).toInt64) n) 26) 676))) (nI co).toInt64) j) * 31) + (((yl j)).toInt64)) * 31) + (((yc j)).toInt64)) * 31)]) ⟨hx, hb, hml, hown, hts⟩ (zV 0 hP hD hK hE hB hS rfl rfl) (c_X5_told_2 (k := j) (yl := yl) (yc := yc) (yt := yt) (hH) (by omega) (hhn) (hh3)) (cwV 2 hts gX5_digest_X5_told rfl rfl rfl hdv_X5_told ⟨Nat.le_of_ble_eq_true rfl, Nat.le_of_ble_eq_true rfl⟩) rfl rfl hl.1 rfl (lv_room (Nat.le_of_ble_eq_true rfl)) dX5_digest_307 ⟨Nat.le_of_ble_eq_true rfl, Nat.le_of_ble_eq_true rfl⟩) hS (fun H locs hP hD hS => ?_)
                                have hP : va_P D vwCl (zWM cI cJ cZ h 0 (n, L) ((zcb kt pt), (zcb km pm), (zcb kl pl)) mc (false, wc, nu, lc, le, af, tr, ms, cl, tm) (co, yn, yh, pa) ++ R) _ := hP
                                have hD : va_D (zAb B) (zWM cI cJ cZ h 0 (n, L) ((zcb kt pt), (zcb km pm), (zcb kl pl)) mc (false, wc, nu, lc, le, af, tr, ms, cl, tm) (co, yn, yh, pa) ++ R) := hD
                                refine lv_i2l (v := ((yt j)).toInt64) hx hb dX5_digest_310 rfl ?_
                                refine lv_ladd hx hb dX5_digest_311 ?_
                                refine lv_lstore_n (lv' := [(1, .long (((((((zdH yl yc yt (zmx (zdL false nu wc tr (zd4 mc (zdP pt pm pl (zdK kt km kl (zdW L (zmx 191 (nI n).toInt64) n) 26) 676))) (nI co).toInt64) j) * 31) + (((yl j)).toInt64)) * 31) + (((yc j)).toInt64)) * 31) + (((yt j)).toInt64))), (4, .int 2), (3, .int (nI j)), (0, .ref (h 0))]) hx hb dX5_digest_312 rfl hl (by decide) rfl (fun ls hl => ?_)
                                refine lv_iinc (v := 3) (lv' := [(4, .int 3), (1, .long (((((((zdH yl yc yt (zmx (zdL false nu wc tr (zd4 mc (zdP pt pm pl (zdK kt km kl (zdW L (zmx 191 (nI n).toInt64) n) 26) 676))) (nI co).toInt64) j) * 31) + (((yl j)).toInt64)) * 31) + (((yc j)).toInt64)) * 31) + (((yt j)).toInt64))), (3, .int (nI j)), (0, .ref (h 0))]) hx hb dX5_digest_313 hl (k := 1) rfl (by decide) (by decide) rfl (fun ls hl => ?_)
                                refine lv_goto (tgt := 292) hx hb dX5_digest_316 (by decide) ?_
                                refine lv_iload hx hb dX5_digest_292 (lv_at hl 0 rfl) ?_
                                refine lv_iconst (v := 4) hx hb dX5_digest_294 (by decide) ?_
                                refine lv_icmp_ge (tgt := 319) hx hb dX5_digest_295 (by decide) (fun c_45 => ?_) (fun c_45 => ?_)
                                · skip
                                  exfalso; first | omega | (revert c_45; decide) | (exact absurd rfl c_45) | simp_all
                                · skip
                                  refine lv_lload_n hx hb dX5_digest_298 rfl (lv_at hl 1 rfl) ?_
                                  refine lv_ldc2 hx hb hown (hts (.constantLong RX5 175 (31)) (List.mem_of_getElem? (i := 4) rfl)) dX5_digest_299 ?_
                                  refine lv_lmul hx hb dX5_digest_302 ?_
                                  refine lv_aload_n hx hb dX5_digest_303 rfl (lv_at hl 3 rfl) ?_
                                  refine lv_iload_n hx hb dX5_digest_304 rfl (lv_at hl 2 rfl) ?_
                                  refine lv_iload hx hb dX5_digest_305 (lv_at hl 0 rfl) ?_
                                  refine zci (zrV (As := [.int (nI j), .int 3]) (rest := [.long ((((((((zdH yl yc yt (zmx (zdL false nu wc tr (zd4 mc (zdP pt pm pl (zdK kt km kl (zdW L (zmx 191 (nI n).toInt64) n) 26) 676))) (nI co).toInt64) j) * 31) + (((yl j)).toInt64)) * 31) + (((yc j)).toInt64)) * 31) + (((yt j)).toInt64)) * 31)]) ⟨hx, hb, hml, hown, hts⟩ (zV 0 hP hD hK hE hB hS rfl rfl) (c_X5_told_3 (k := j) (yl := yl) (yc := yc) (yt := yt) (hH) (by omega) (hhn) (hh3)) (cwV 2 hts gX5_digest_X5_told rfl rfl rfl hdv_X5_told ⟨Nat.le_of_ble_eq_true rfl, Nat.le_of_ble_eq_true rfl⟩) rfl rfl hl.1 rfl (lv_room (Nat.le_of_ble_eq_true rfl)) dX5_digest_307 ⟨Nat.le_of_ble_eq_true rfl, Nat.le_of_ble_eq_true rfl⟩) hS (fun H locs hP hD hS => ?_)
                                  have hP : va_P D vwCl (zWM cI cJ cZ h 0 (n, L) ((zcb kt pt), (zcb km pm), (zcb kl pl)) mc (false, wc, nu, lc, le, af, tr, ms, cl, tm) (co, yn, yh, pa) ++ R) _ := hP
                                  have hD : va_D (zAb B) (zWM cI cJ cZ h 0 (n, L) ((zcb kt pt), (zcb km pm), (zcb kl pl)) mc (false, wc, nu, lc, le, af, tr, ms, cl, tm) (co, yn, yh, pa) ++ R) := hD
                                  refine lv_i2l (v := ((zsp yl yt j)).toInt64) hx hb dX5_digest_310 rfl ?_
                                  refine lv_ladd hx hb dX5_digest_311 ?_
                                  refine lv_lstore_n (lv' := [(1, .long (((((((((zdH yl yc yt (zmx (zdL false nu wc tr (zd4 mc (zdP pt pm pl (zdK kt km kl (zdW L (zmx 191 (nI n).toInt64) n) 26) 676))) (nI co).toInt64) j) * 31) + (((yl j)).toInt64)) * 31) + (((yc j)).toInt64)) * 31) + (((yt j)).toInt64)) * 31) + (((zsp yl yt j)).toInt64))), (4, .int 3), (3, .int (nI j)), (0, .ref (h 0))]) hx hb dX5_digest_312 rfl hl (by decide) rfl (fun ls hl => ?_)
                                  refine lv_iinc (v := 4) (lv' := [(4, .int 4), (1, .long (((((((((zdH yl yc yt (zmx (zdL false nu wc tr (zd4 mc (zdP pt pm pl (zdK kt km kl (zdW L (zmx 191 (nI n).toInt64) n) 26) 676))) (nI co).toInt64) j) * 31) + (((yl j)).toInt64)) * 31) + (((yc j)).toInt64)) * 31) + (((yt j)).toInt64)) * 31) + (((zsp yl yt j)).toInt64))), (3, .int (nI j)), (0, .ref (h 0))]) hx hb dX5_digest_313 hl (k := 1) rfl (by decide) (by decide) rfl (fun ls hl => ?_)
                                  refine lv_goto (tgt := 292) hx hb dX5_digest_316 (by decide) ?_
                                  refine lv_iload hx hb dX5_digest_292 (lv_at hl 0 rfl) ?_
                                  refine lv_iconst (v := 4) hx hb dX5_digest_294 (by decide) ?_
                                  refine lv_icmp_ge (tgt := 319) hx hb dX5_digest_295 (by decide) (fun c_46 => ?_) (fun c_46 => ?_)
                                  · skip
                                    refine lv_iinc (v := (nI (j + 1))) (lv' := [(3, .int (nI (j + 1))), (4, .int 4), (1, .long (((((((((zdH yl yc yt (zmx (zdL false nu wc tr (zd4 mc (zdP pt pm pl (zdK kt km kl (zdW L (zmx 191 (nI n).toInt64) n) 26) 676))) (nI co).toInt64) j) * 31) + (((yl j)).toInt64)) * 31) + (((yc j)).toInt64)) * 31) + (((yt j)).toInt64)) * 31) + (((zsp yl yt j)).toInt64))), (0, .ref (h 0))]) hx hb dX5_digest_319 hl (k := 2) rfl (nI_add j 1) (by decide) rfl (fun ls hl => ?_)
                                    refine lv_goto (tgt := 281) hx hb dX5_digest_322 (by decide) ?_
                                    exact ih (j + 1, (((((((((zdH yl yc yt (zmx (zdL false nu wc tr (zd4 mc (zdP pt pm pl (zdK kt km kl (zdW L (zmx 191 (nI n).toInt64) n) 26) 676))) (nI co).toInt64) j) * 31) + (((yl j)).toInt64)) * 31) + (((yc j)).toInt64)) * 31) + (((yt j)).toInt64)) * 31) + (((zsp yl yt j)).toInt64))) (⟨by omega, rfl⟩) (by omega) _ _ _ hP hD hS (lv_sub hl [0, 2, 3] rfl)
                                  · skip
                                    exfalso; first | omega | (revert c_46; decide) | (exact absurd rfl c_46) | simp_all
                      · skip
                        exfalso; first | omega | (revert c_40; decide) | (exact absurd rfl c_40) | simp_all
                    · skip
                      exfalso; first | omega | (revert c_39; decide) | (exact absurd rfl c_39) | simp_all
                  · skip
                    exfalso; first | omega | (revert c_38; decide) | (exact absurd rfl c_38) | simp_all
        · skip
          have c_33 : ¬ 676 ≤ j := fun hh => c_33 ((nI_leI (a := 676) (b := j) (by omega) (by omega)).mpr hh)
          refine lv_aload_n hx hb dX5_digest_97 rfl (lv_at hl 2 rfl) ?_
          refine va_get (ci := 5) (v := .ref (h 2)) (C := RX5) (T := TX5) (N := 20) hx hb hts hinX5 hown hK hP 0 rfl rfl 3 (by decide) (hts (.fieldLink RX5 13 "TypingTutorModel" "tries" "[I") (List.mem_of_getElem? (i := 6) rfl)) (fun _ h9 => h9) rfl dX5_digest_98 ?_
          refine lv_bipush (v := 26) hx hb dX5_digest_101 (by decide) ?_
          refine lv_iload_n hx hb dX5_digest_103 rfl (lv_at hl 0 rfl) ?_
          refine lv_iadd hx hb dX5_digest_104 ?_
          refine lv_topi (fun v_47 ev_47 => ?_)
          obtain rfl : v_47 = (nI (26 + j)) := ev_47.trans (nI_add 26 j)
          refine va_iald hx hb hK hP 2 0 rfl rfl (vp_in_nI (n := (26 + j)) (N := 702) (by omega) (by omega)) dX5_digest_105 ?_
          rw [pk_cl (x := (nI (26 + j))) (26 + j) (rfl) (by omega)]
          rw [show ((zcb kt pt), (zcb km pm), (zcb kl pl)).1 (26 + j) = pt j from zcb_p]
          refine lv_if_ne (tgt := 112) hx hb dX5_digest_106 (by decide) (fun c_48 => ?_) (fun c_48 => ?_)
          · skip
            refine lv_lload_n hx hb dX5_digest_112 rfl (lv_at hl 1 rfl) ?_
            refine lv_ldc2 hx hb hown (hts (.constantLong RX5 175 (31)) (List.mem_of_getElem? (i := 4) rfl)) dX5_digest_113 ?_
            refine lv_lmul hx hb dX5_digest_116 ?_
            refine lv_iload_n hx hb dX5_digest_117 rfl (lv_at hl 0 rfl) ?_
            refine lv_i2l (v := ((nI j)).toInt64) hx hb dX5_digest_118 rfl ?_
            refine lv_ladd hx hb dX5_digest_119 ?_
            refine lv_lstore_n (lv' := [(1, .long (((zdP pt pm pl (zdK kt km kl (zdW L (zmx 191 (nI n).toInt64) n) 26) j) * 31) + (((nI j)).toInt64))), (3, .int (nI j)), (0, .ref (h 0))]) hx hb dX5_digest_120 rfl hl (by decide) rfl (fun ls hl => ?_)
            refine lv_iconst (v := 0) hx hb dX5_digest_121 (by decide) ?_
            refine lv_istore (lv' := [(4, .int 0), (1, .long (((zdP pt pm pl (zdK kt km kl (zdW L (zmx 191 (nI n).toInt64) n) 26) j) * 31) + (((nI j)).toInt64))), (3, .int (nI j)), (0, .ref (h 0))]) hx hb dX5_digest_122 hl (by decide) rfl (fun ls hl => ?_)
            refine lv_iload hx hb dX5_digest_124 (lv_at hl 0 rfl) ?_
            refine lv_iconst (v := 3) hx hb dX5_digest_126 (by decide) ?_
            refine lv_icmp_ge (tgt := 154) hx hb dX5_digest_127 (by decide) (fun c_49 => ?_) (fun c_49 => ?_)
            · skip
              exfalso; first | omega | (revert c_49; decide) | (exact absurd rfl c_49) | simp_all
            · skip
              refine lv_lload_n hx hb dX5_digest_130 rfl (lv_at hl 1 rfl) ?_
              refine lv_ldc2 hx hb hown (hts (.constantLong RX5 175 (31)) (List.mem_of_getElem? (i := 4) rfl)) dX5_digest_131 ?_
              refine lv_lmul hx hb dX5_digest_134 ?_
              refine lv_aload_n hx hb dX5_digest_135 rfl (lv_at hl 3 rfl) ?_
              refine lv_bipush (v := 26) hx hb dX5_digest_136 (by decide) ?_
              refine lv_iload_n hx hb dX5_digest_138 rfl (lv_at hl 2 rfl) ?_
              refine lv_iadd hx hb dX5_digest_139 ?_
              refine lv_topi (fun v_50 ev_50 => ?_)
              obtain rfl : v_50 = (nI (26 + j)) := ev_50.trans (nI_add 26 j)
              refine lv_iload hx hb dX5_digest_140 (lv_at hl 0 rfl) ?_
              refine zci (zrV (As := [.int (nI (26 + j)), .int 0]) (rest := [.long ((((zdP pt pm pl (zdK kt km kl (zdW L (zmx 191 (nI n).toInt64) n) 26) j) * 31) + (((nI j)).toInt64)) * 31)]) ⟨hx, hb, hml, hown, hts⟩ (zV 0 hP hD hK hE hB hS rfl rfl) (c_X5_known_p0 (k := j) (by omega)) (cwV 2 hts gX5_digest_X5_known rfl rfl rfl hdv_X5_known ⟨Nat.le_of_ble_eq_true rfl, Nat.le_of_ble_eq_true rfl⟩) rfl rfl hl.1 rfl (lv_room (Nat.le_of_ble_eq_true rfl)) dX5_digest_142 ⟨Nat.le_of_ble_eq_true rfl, Nat.le_of_ble_eq_true rfl⟩) hS (fun H locs hP hD hS => ?_)
              have hP : va_P D vwCl (zWM cI cJ cZ h 0 (n, L) ((zcb kt pt), (zcb km pm), (zcb kl pl)) mc (false, wc, nu, lc, le, af, tr, ms, cl, tm) (co, yn, yh, pa) ++ R) _ := hP
              have hD : va_D (zAb B) (zWM cI cJ cZ h 0 (n, L) ((zcb kt pt), (zcb km pm), (zcb kl pl)) mc (false, wc, nu, lc, le, af, tr, ms, cl, tm) (co, yn, yh, pa) ++ R) := hD
              refine lv_i2l (v := ((pt j)).toInt64) hx hb dX5_digest_145 rfl ?_
              refine lv_ladd hx hb dX5_digest_146 ?_
              refine lv_lstore_n (lv' := [(1, .long (((((zdP pt pm pl (zdK kt km kl (zdW L (zmx 191 (nI n).toInt64) n) 26) j) * 31) + (((nI j)).toInt64)) * 31) + (((pt j)).toInt64))), (4, .int 0), (3, .int (nI j)), (0, .ref (h 0))]) hx hb dX5_digest_147 rfl hl (by decide) rfl (fun ls hl => ?_)
              refine lv_iinc (v := 1) (lv' := [(4, .int 1), (1, .long (((((zdP pt pm pl (zdK kt km kl (zdW L (zmx 191 (nI n).toInt64) n) 26) j) * 31) + (((nI j)).toInt64)) * 31) + (((pt j)).toInt64))), (3, .int (nI j)), (0, .ref (h 0))]) hx hb dX5_digest_148 hl (k := 1) rfl (by decide) (by decide) rfl (fun ls hl => ?_)
              refine lv_goto (tgt := 124) hx hb dX5_digest_151 (by decide) ?_
              refine lv_iload hx hb dX5_digest_124 (lv_at hl 0 rfl) ?_
              refine lv_iconst (v := 3) hx hb dX5_digest_126 (by decide) ?_
              refine lv_icmp_ge (tgt := 154) hx hb dX5_digest_127 (by decide) (fun c_51 => ?_) (fun c_51 => ?_)
              · skip
                exfalso; first | omega | (revert c_51; decide) | (exact absurd rfl c_51) | simp_all
              · skip
                refine lv_lload_n hx hb dX5_digest_130 rfl (lv_at hl 1 rfl) ?_
                refine lv_ldc2 hx hb hown (hts (.constantLong RX5 175 (31)) (List.mem_of_getElem? (i := 4) rfl)) dX5_digest_131 ?_
                refine lv_lmul hx hb dX5_digest_134 ?_
                refine lv_aload_n hx hb dX5_digest_135 rfl (lv_at hl 3 rfl) ?_
                refine lv_bipush (v := 26) hx hb dX5_digest_136 (by decide) ?_
                refine lv_iload_n hx hb dX5_digest_138 rfl (lv_at hl 2 rfl) ?_
                refine lv_iadd hx hb dX5_digest_139 ?_
                refine lv_topi (fun v_52 ev_52 => ?_)
                obtain rfl : v_52 = (nI (26 + j)) := ev_52.trans (nI_add 26 j)
                refine lv_iload hx hb dX5_digest_140 (lv_at hl 0 rfl) ?_
                refine zci (zrV (As := [.int (nI (26 + j)), .int 1]) (rest := [.long ((((((zdP pt pm pl (zdK kt km kl (zdW L (zmx 191 (nI n).toInt64) n) 26) j) * 31) + (((nI j)).toInt64)) * 31) + (((pt j)).toInt64)) * 31)]) ⟨hx, hb, hml, hown, hts⟩ (zV 0 hP hD hK hE hB hS rfl rfl) (c_X5_known_p1 (k := j) (by omega)) (cwV 2 hts gX5_digest_X5_known rfl rfl rfl hdv_X5_known ⟨Nat.le_of_ble_eq_true rfl, Nat.le_of_ble_eq_true rfl⟩) rfl rfl hl.1 rfl (lv_room (Nat.le_of_ble_eq_true rfl)) dX5_digest_142 ⟨Nat.le_of_ble_eq_true rfl, Nat.le_of_ble_eq_true rfl⟩) hS (fun H locs hP hD hS => ?_)
                have hP : va_P D vwCl (zWM cI cJ cZ h 0 (n, L) ((zcb kt pt), (zcb km pm), (zcb kl pl)) mc (false, wc, nu, lc, le, af, tr, ms, cl, tm) (co, yn, yh, pa) ++ R) _ := hP
                have hD : va_D (zAb B) (zWM cI cJ cZ h 0 (n, L) ((zcb kt pt), (zcb km pm), (zcb kl pl)) mc (false, wc, nu, lc, le, af, tr, ms, cl, tm) (co, yn, yh, pa) ++ R) := hD
                refine lv_i2l (v := ((pm j)).toInt64) hx hb dX5_digest_145 rfl ?_
                refine lv_ladd hx hb dX5_digest_146 ?_
                refine lv_lstore_n (lv' := [(1, .long (((((((zdP pt pm pl (zdK kt km kl (zdW L (zmx 191 (nI n).toInt64) n) 26) j) * 31) + (((nI j)).toInt64)) * 31) + (((pt j)).toInt64)) * 31) + (((pm j)).toInt64))), (4, .int 1), (3, .int (nI j)), (0, .ref (h 0))]) hx hb dX5_digest_147 rfl hl (by decide) rfl (fun ls hl => ?_)
                refine lv_iinc (v := 2) (lv' := [(4, .int 2), (1, .long (((((((zdP pt pm pl (zdK kt km kl (zdW L (zmx 191 (nI n).toInt64) n) 26) j) * 31) + (((nI j)).toInt64)) * 31) + (((pt j)).toInt64)) * 31) + (((pm j)).toInt64))), (3, .int (nI j)), (0, .ref (h 0))]) hx hb dX5_digest_148 hl (k := 1) rfl (by decide) (by decide) rfl (fun ls hl => ?_)
                refine lv_goto (tgt := 124) hx hb dX5_digest_151 (by decide) ?_
                refine lv_iload hx hb dX5_digest_124 (lv_at hl 0 rfl) ?_
                refine lv_iconst (v := 3) hx hb dX5_digest_126 (by decide) ?_
                refine lv_icmp_ge (tgt := 154) hx hb dX5_digest_127 (by decide) (fun c_53 => ?_) (fun c_53 => ?_)
                · skip
                  exfalso; first | omega | (revert c_53; decide) | (exact absurd rfl c_53) | simp_all
                · skip
                  refine lv_lload_n hx hb dX5_digest_130 rfl (lv_at hl 1 rfl) ?_
                  refine lv_ldc2 hx hb hown (hts (.constantLong RX5 175 (31)) (List.mem_of_getElem? (i := 4) rfl)) dX5_digest_131 ?_
                  refine lv_lmul hx hb dX5_digest_134 ?_
                  refine lv_aload_n hx hb dX5_digest_135 rfl (lv_at hl 3 rfl) ?_
                  refine lv_bipush (v := 26) hx hb dX5_digest_136 (by decide) ?_
                  refine lv_iload_n hx hb dX5_digest_138 rfl (lv_at hl 2 rfl) ?_
                  refine lv_iadd hx hb dX5_digest_139 ?_
                  refine lv_topi (fun v_54 ev_54 => ?_)
                  obtain rfl : v_54 = (nI (26 + j)) := ev_54.trans (nI_add 26 j)
                  refine lv_iload hx hb dX5_digest_140 (lv_at hl 0 rfl) ?_
                  refine zci (zrV (As := [.int (nI (26 + j)), .int 2]) (rest := [.long ((((((((zdP pt pm pl (zdK kt km kl (zdW L (zmx 191 (nI n).toInt64) n) 26) j) * 31) + (((nI j)).toInt64)) * 31) + (((pt j)).toInt64)) * 31) + (((pm j)).toInt64)) * 31)]) ⟨hx, hb, hml, hown, hts⟩ (zV 0 hP hD hK hE hB hS rfl rfl) (c_X5_known_p2 (k := j) (by omega)) (cwV 2 hts gX5_digest_X5_known rfl rfl rfl hdv_X5_known ⟨Nat.le_of_ble_eq_true rfl, Nat.le_of_ble_eq_true rfl⟩) rfl rfl hl.1 rfl (lv_room (Nat.le_of_ble_eq_true rfl)) dX5_digest_142 ⟨Nat.le_of_ble_eq_true rfl, Nat.le_of_ble_eq_true rfl⟩) hS (fun H locs hP hD hS => ?_)
                  have hP : va_P D vwCl (zWM cI cJ cZ h 0 (n, L) ((zcb kt pt), (zcb km pm), (zcb kl pl)) mc (false, wc, nu, lc, le, af, tr, ms, cl, tm) (co, yn, yh, pa) ++ R) _ := hP
                  have hD : va_D (zAb B) (zWM cI cJ cZ h 0 (n, L) ((zcb kt pt), (zcb km pm), (zcb kl pl)) mc (false, wc, nu, lc, le, af, tr, ms, cl, tm) (co, yn, yh, pa) ++ R) := hD
                  refine lv_i2l (v := ((pl j)).toInt64) hx hb dX5_digest_145 rfl ?_
                  refine lv_ladd hx hb dX5_digest_146 ?_
                  refine lv_lstore_n (lv' := [(1, .long (((((((((zdP pt pm pl (zdK kt km kl (zdW L (zmx 191 (nI n).toInt64) n) 26) j) * 31) + (((nI j)).toInt64)) * 31) + (((pt j)).toInt64)) * 31) + (((pm j)).toInt64)) * 31) + (((pl j)).toInt64))), (4, .int 2), (3, .int (nI j)), (0, .ref (h 0))]) hx hb dX5_digest_147 rfl hl (by decide) rfl (fun ls hl => ?_)
                  refine lv_iinc (v := 3) (lv' := [(4, .int 3), (1, .long (((((((((zdP pt pm pl (zdK kt km kl (zdW L (zmx 191 (nI n).toInt64) n) 26) j) * 31) + (((nI j)).toInt64)) * 31) + (((pt j)).toInt64)) * 31) + (((pm j)).toInt64)) * 31) + (((pl j)).toInt64))), (3, .int (nI j)), (0, .ref (h 0))]) hx hb dX5_digest_148 hl (k := 1) rfl (by decide) (by decide) rfl (fun ls hl => ?_)
                  refine lv_goto (tgt := 124) hx hb dX5_digest_151 (by decide) ?_
                  refine lv_iload hx hb dX5_digest_124 (lv_at hl 0 rfl) ?_
                  refine lv_iconst (v := 3) hx hb dX5_digest_126 (by decide) ?_
                  refine lv_icmp_ge (tgt := 154) hx hb dX5_digest_127 (by decide) (fun c_55 => ?_) (fun c_55 => ?_)
                  · skip
                    refine lv_iinc (v := (nI (j + 1))) (lv' := [(3, .int (nI (j + 1))), (4, .int 3), (1, .long (((((((((zdP pt pm pl (zdK kt km kl (zdW L (zmx 191 (nI n).toInt64) n) 26) j) * 31) + (((nI j)).toInt64)) * 31) + (((pt j)).toInt64)) * 31) + (((pm j)).toInt64)) * 31) + (((pl j)).toInt64))), (0, .ref (h 0))]) hx hb dX5_digest_154 hl (k := 2) rfl (nI_add j 1) (by decide) rfl (fun ls hl => ?_)
                    refine lv_goto (tgt := 90) hx hb dX5_digest_157 (by decide) ?_
                    exact ih (j + 1, (((((((((zdP pt pm pl (zdK kt km kl (zdW L (zmx 191 (nI n).toInt64) n) 26) j) * 31) + (((nI j)).toInt64)) * 31) + (((pt j)).toInt64)) * 31) + (((pm j)).toInt64)) * 31) + (((pl j)).toInt64))) (⟨by omega, (if_neg c_48).symm⟩) (by omega) _ _ _ hP hD hS (lv_sub hl [0, 2, 3] rfl)
                  · skip
                    exfalso; first | omega | (revert c_55; decide) | (exact absurd rfl c_55) | simp_all
          · skip
            refine lv_goto (tgt := 154) hx hb dX5_digest_109 (by decide) ?_
            refine lv_iinc (v := (nI (j + 1))) (lv' := [(3, .int (nI (j + 1))), (1, .long (zdP pt pm pl (zdK kt km kl (zdW L (zmx 191 (nI n).toInt64) n) 26) j)), (0, .ref (h 0))]) hx hb dX5_digest_154 hl (k := 0) rfl (nI_add j 1) (by decide) rfl (fun ls hl => ?_)
            refine lv_goto (tgt := 90) hx hb dX5_digest_157 (by decide) ?_
            exact ih (j + 1, (zdP pt pm pl (zdK kt km kl (zdW L (zmx 191 (nI n).toInt64) n) 26) j)) (⟨by omega, (if_pos c_48).symm⟩) (by omega) _ _ _ hP hD hS (lv_sub hl [0, 1, 2] rfl)
      · skip
        have c_32 : ¬ 26 ≤ j := fun hh => c_32 ((nI_leI (a := 26) (b := j) (by omega) (by omega)).mpr hh)
        refine lv_iconst (v := 0) hx hb dX5_digest_52 (by decide) ?_
        refine lv_istore (lv' := [(4, .int 0), (3, .int (nI j)), (1, .long (zdK kt km kl (zdW L (zmx 191 (nI n).toInt64) n) j)), (0, .ref (h 0))]) hx hb dX5_digest_53 hl (by decide) rfl (fun ls hl => ?_)
        refine lv_iload hx hb dX5_digest_55 (lv_at hl 0 rfl) ?_
        refine lv_iconst (v := 3) hx hb dX5_digest_57 (by decide) ?_
        refine lv_icmp_ge (tgt := 82) hx hb dX5_digest_58 (by decide) (fun c_56 => ?_) (fun c_56 => ?_)
        · skip
          exfalso; first | omega | (revert c_56; decide) | (exact absurd rfl c_56) | simp_all
        · skip
          refine lv_lload_n hx hb dX5_digest_61 rfl (lv_at hl 2 rfl) ?_
          refine lv_ldc2 hx hb hown (hts (.constantLong RX5 175 (31)) (List.mem_of_getElem? (i := 4) rfl)) dX5_digest_62 ?_
          refine lv_lmul hx hb dX5_digest_65 ?_
          refine lv_aload_n hx hb dX5_digest_66 rfl (lv_at hl 3 rfl) ?_
          refine lv_iload_n hx hb dX5_digest_67 rfl (lv_at hl 1 rfl) ?_
          refine lv_iload hx hb dX5_digest_68 (lv_at hl 0 rfl) ?_
          refine zci (zrV (As := [.int (nI j), .int 0]) (rest := [.long ((zdK kt km kl (zdW L (zmx 191 (nI n).toInt64) n) j) * 31)]) ⟨hx, hb, hml, hown, hts⟩ (zV 0 hP hD hK hE hB hS rfl rfl) (c_X5_known_k0 (k := j) (by omega)) (cwV 2 hts gX5_digest_X5_known rfl rfl rfl hdv_X5_known ⟨Nat.le_of_ble_eq_true rfl, Nat.le_of_ble_eq_true rfl⟩) rfl rfl hl.1 rfl (lv_room (Nat.le_of_ble_eq_true rfl)) dX5_digest_70 ⟨Nat.le_of_ble_eq_true rfl, Nat.le_of_ble_eq_true rfl⟩) hS (fun H locs hP hD hS => ?_)
          have hP : va_P D vwCl (zWM cI cJ cZ h 0 (n, L) ((zcb kt pt), (zcb km pm), (zcb kl pl)) mc (false, wc, nu, lc, le, af, tr, ms, cl, tm) (co, yn, yh, pa) ++ R) _ := hP
          have hD : va_D (zAb B) (zWM cI cJ cZ h 0 (n, L) ((zcb kt pt), (zcb km pm), (zcb kl pl)) mc (false, wc, nu, lc, le, af, tr, ms, cl, tm) (co, yn, yh, pa) ++ R) := hD
          refine lv_i2l (v := ((kt j)).toInt64) hx hb dX5_digest_73 rfl ?_
          refine lv_ladd hx hb dX5_digest_74 ?_
          refine lv_lstore_n (lv' := [(1, .long (((zdK kt km kl (zdW L (zmx 191 (nI n).toInt64) n) j) * 31) + (((kt j)).toInt64))), (4, .int 0), (3, .int (nI j)), (0, .ref (h 0))]) hx hb dX5_digest_75 rfl hl (by decide) rfl (fun ls hl => ?_)
          refine lv_iinc (v := 1) (lv' := [(4, .int 1), (1, .long (((zdK kt km kl (zdW L (zmx 191 (nI n).toInt64) n) j) * 31) + (((kt j)).toInt64))), (3, .int (nI j)), (0, .ref (h 0))]) hx hb dX5_digest_76 hl (k := 1) rfl (by decide) (by decide) rfl (fun ls hl => ?_)
          refine lv_goto (tgt := 55) hx hb dX5_digest_79 (by decide) ?_
          refine lv_iload hx hb dX5_digest_55 (lv_at hl 0 rfl) ?_
          refine lv_iconst (v := 3) hx hb dX5_digest_57 (by decide) ?_
          refine lv_icmp_ge (tgt := 82) hx hb dX5_digest_58 (by decide) (fun c_57 => ?_) (fun c_57 => ?_)
          · skip
            exfalso; first | omega | (revert c_57; decide) | (exact absurd rfl c_57) | simp_all
          · skip
            refine lv_lload_n hx hb dX5_digest_61 rfl (lv_at hl 1 rfl) ?_
            refine lv_ldc2 hx hb hown (hts (.constantLong RX5 175 (31)) (List.mem_of_getElem? (i := 4) rfl)) dX5_digest_62 ?_
            refine lv_lmul hx hb dX5_digest_65 ?_
            refine lv_aload_n hx hb dX5_digest_66 rfl (lv_at hl 3 rfl) ?_
            refine lv_iload_n hx hb dX5_digest_67 rfl (lv_at hl 2 rfl) ?_
            refine lv_iload hx hb dX5_digest_68 (lv_at hl 0 rfl) ?_
            refine zci (zrV (As := [.int (nI j), .int 1]) (rest := [.long ((((zdK kt km kl (zdW L (zmx 191 (nI n).toInt64) n) j) * 31) + (((kt j)).toInt64)) * 31)]) ⟨hx, hb, hml, hown, hts⟩ (zV 0 hP hD hK hE hB hS rfl rfl) (c_X5_known_k1 (k := j) (by omega)) (cwV 2 hts gX5_digest_X5_known rfl rfl rfl hdv_X5_known ⟨Nat.le_of_ble_eq_true rfl, Nat.le_of_ble_eq_true rfl⟩) rfl rfl hl.1 rfl (lv_room (Nat.le_of_ble_eq_true rfl)) dX5_digest_70 ⟨Nat.le_of_ble_eq_true rfl, Nat.le_of_ble_eq_true rfl⟩) hS (fun H locs hP hD hS => ?_)
            have hP : va_P D vwCl (zWM cI cJ cZ h 0 (n, L) ((zcb kt pt), (zcb km pm), (zcb kl pl)) mc (false, wc, nu, lc, le, af, tr, ms, cl, tm) (co, yn, yh, pa) ++ R) _ := hP
            have hD : va_D (zAb B) (zWM cI cJ cZ h 0 (n, L) ((zcb kt pt), (zcb km pm), (zcb kl pl)) mc (false, wc, nu, lc, le, af, tr, ms, cl, tm) (co, yn, yh, pa) ++ R) := hD
            refine lv_i2l (v := ((km j)).toInt64) hx hb dX5_digest_73 rfl ?_
            refine lv_ladd hx hb dX5_digest_74 ?_
            refine lv_lstore_n (lv' := [(1, .long (((((zdK kt km kl (zdW L (zmx 191 (nI n).toInt64) n) j) * 31) + (((kt j)).toInt64)) * 31) + (((km j)).toInt64))), (4, .int 1), (3, .int (nI j)), (0, .ref (h 0))]) hx hb dX5_digest_75 rfl hl (by decide) rfl (fun ls hl => ?_)
            refine lv_iinc (v := 2) (lv' := [(4, .int 2), (1, .long (((((zdK kt km kl (zdW L (zmx 191 (nI n).toInt64) n) j) * 31) + (((kt j)).toInt64)) * 31) + (((km j)).toInt64))), (3, .int (nI j)), (0, .ref (h 0))]) hx hb dX5_digest_76 hl (k := 1) rfl (by decide) (by decide) rfl (fun ls hl => ?_)
            refine lv_goto (tgt := 55) hx hb dX5_digest_79 (by decide) ?_
            refine lv_iload hx hb dX5_digest_55 (lv_at hl 0 rfl) ?_
            refine lv_iconst (v := 3) hx hb dX5_digest_57 (by decide) ?_
            refine lv_icmp_ge (tgt := 82) hx hb dX5_digest_58 (by decide) (fun c_58 => ?_) (fun c_58 => ?_)
            · skip
              exfalso; first | omega | (revert c_58; decide) | (exact absurd rfl c_58) | simp_all
            · skip
              refine lv_lload_n hx hb dX5_digest_61 rfl (lv_at hl 1 rfl) ?_
              refine lv_ldc2 hx hb hown (hts (.constantLong RX5 175 (31)) (List.mem_of_getElem? (i := 4) rfl)) dX5_digest_62 ?_
              refine lv_lmul hx hb dX5_digest_65 ?_
              refine lv_aload_n hx hb dX5_digest_66 rfl (lv_at hl 3 rfl) ?_
              refine lv_iload_n hx hb dX5_digest_67 rfl (lv_at hl 2 rfl) ?_
              refine lv_iload hx hb dX5_digest_68 (lv_at hl 0 rfl) ?_
              refine zci (zrV (As := [.int (nI j), .int 2]) (rest := [.long ((((((zdK kt km kl (zdW L (zmx 191 (nI n).toInt64) n) j) * 31) + (((kt j)).toInt64)) * 31) + (((km j)).toInt64)) * 31)]) ⟨hx, hb, hml, hown, hts⟩ (zV 0 hP hD hK hE hB hS rfl rfl) (c_X5_known_k2 (k := j) (by omega)) (cwV 2 hts gX5_digest_X5_known rfl rfl rfl hdv_X5_known ⟨Nat.le_of_ble_eq_true rfl, Nat.le_of_ble_eq_true rfl⟩) rfl rfl hl.1 rfl (lv_room (Nat.le_of_ble_eq_true rfl)) dX5_digest_70 ⟨Nat.le_of_ble_eq_true rfl, Nat.le_of_ble_eq_true rfl⟩) hS (fun H locs hP hD hS => ?_)
              have hP : va_P D vwCl (zWM cI cJ cZ h 0 (n, L) ((zcb kt pt), (zcb km pm), (zcb kl pl)) mc (false, wc, nu, lc, le, af, tr, ms, cl, tm) (co, yn, yh, pa) ++ R) _ := hP
              have hD : va_D (zAb B) (zWM cI cJ cZ h 0 (n, L) ((zcb kt pt), (zcb km pm), (zcb kl pl)) mc (false, wc, nu, lc, le, af, tr, ms, cl, tm) (co, yn, yh, pa) ++ R) := hD
              refine lv_i2l (v := ((kl j)).toInt64) hx hb dX5_digest_73 rfl ?_
              refine lv_ladd hx hb dX5_digest_74 ?_
              refine lv_lstore_n (lv' := [(1, .long (((((((zdK kt km kl (zdW L (zmx 191 (nI n).toInt64) n) j) * 31) + (((kt j)).toInt64)) * 31) + (((km j)).toInt64)) * 31) + (((kl j)).toInt64))), (4, .int 2), (3, .int (nI j)), (0, .ref (h 0))]) hx hb dX5_digest_75 rfl hl (by decide) rfl (fun ls hl => ?_)
              refine lv_iinc (v := 3) (lv' := [(4, .int 3), (1, .long (((((((zdK kt km kl (zdW L (zmx 191 (nI n).toInt64) n) j) * 31) + (((kt j)).toInt64)) * 31) + (((km j)).toInt64)) * 31) + (((kl j)).toInt64))), (3, .int (nI j)), (0, .ref (h 0))]) hx hb dX5_digest_76 hl (k := 1) rfl (by decide) (by decide) rfl (fun ls hl => ?_)
              refine lv_goto (tgt := 55) hx hb dX5_digest_79 (by decide) ?_
              refine lv_iload hx hb dX5_digest_55 (lv_at hl 0 rfl) ?_
              refine lv_iconst (v := 3) hx hb dX5_digest_57 (by decide) ?_
              refine lv_icmp_ge (tgt := 82) hx hb dX5_digest_58 (by decide) (fun c_59 => ?_) (fun c_59 => ?_)
              · skip
                refine lv_iinc (v := (nI (j + 1))) (lv' := [(3, .int (nI (j + 1))), (4, .int 3), (1, .long (((((((zdK kt km kl (zdW L (zmx 191 (nI n).toInt64) n) j) * 31) + (((kt j)).toInt64)) * 31) + (((km j)).toInt64)) * 31) + (((kl j)).toInt64))), (0, .ref (h 0))]) hx hb dX5_digest_82 hl (k := 2) rfl (nI_add j 1) (by decide) rfl (fun ls hl => ?_)
                refine lv_goto (tgt := 46) hx hb dX5_digest_85 (by decide) ?_
                exact ih (j + 1, (((((((zdK kt km kl (zdW L (zmx 191 (nI n).toInt64) n) j) * 31) + (((kt j)).toInt64)) * 31) + (((km j)).toInt64)) * 31) + (((kl j)).toInt64))) (⟨by omega, rfl⟩) (by omega) _ _ _ hP hD hS (lv_sub hl [0, 2, 3] rfl)
              · skip
                exfalso; first | omega | (revert c_59; decide) | (exact absurd rfl c_59) | simp_all
    · skip
      have c_31 : ¬ n ≤ j := fun hh => c_31 ((nI_leI (a := n) (b := j) (by omega) (by omega)).mpr hh)
      refine lv_lload_n hx hb dX5_digest_25 rfl (lv_at hl 1 rfl) ?_
      refine lv_ldc2 hx hb hown (hts (.constantLong RX5 175 (31)) (List.mem_of_getElem? (i := 4) rfl)) dX5_digest_26 ?_
      refine lv_lmul hx hb dX5_digest_29 ?_
      refine lv_aload_n hx hb dX5_digest_30 rfl (lv_at hl 2 rfl) ?_
      refine va_get (ci := 5) (v := .ref (h 1)) (C := RX5) (T := TX5) (N := 20) hx hb hts hinX5 hown hK hP 0 rfl rfl 2 (by decide) (hts (.fieldLink RX5 9 "TypingTutorModel" "list" "[J") (List.mem_of_getElem? (i := 5) rfl)) (fun _ h9 => h9) rfl dX5_digest_31 ?_
      refine lv_iload_n hx hb dX5_digest_34 rfl (lv_at hl 0 rfl) ?_
      refine va_lald hx hb hK hP 1 1 rfl rfl (vp_in_nI (n := j) (N := 40) (by omega) (by omega)) dX5_digest_35 ?_
      rw [pk_cl (x := (nI j)) j (rfl) (by omega)]
      refine lv_ladd hx hb dX5_digest_36 ?_
      refine lv_lstore_n (lv' := [(1, .long (((zdW L (zmx 191 (nI n).toInt64) j) * 31) + (L j))), (3, .int (nI j)), (0, .ref (h 0))]) hx hb dX5_digest_37 rfl hl (by decide) rfl (fun ls hl => ?_)
      refine lv_iinc (v := (nI (j + 1))) (lv' := [(3, .int (nI (j + 1))), (1, .long (((zdW L (zmx 191 (nI n).toInt64) j) * 31) + (L j))), (0, .ref (h 0))]) hx hb dX5_digest_38 hl (k := 1) rfl (nI_add j 1) (by decide) rfl (fun ls hl => ?_)
      refine lv_goto (tgt := 17) hx hb dX5_digest_41 (by decide) ?_
      exact ih (j + 1, (((zdW L (zmx 191 (nI n).toInt64) j) * 31) + (L j))) (⟨by omega, rfl⟩) (by omega) _ _ _ hP hD hS (lv_sub hl [0, 1, 2] rfl)

set_option maxHeartbeats 1000000 in
set_option maxRecDepth 100000 in
theorem c_X3_init {l : Launch} {B kr kp : Nat} {D : va_G} {cI cJ cZ : ClassId}    {a : Nat} {R : va_W}   : Met l yX3_init wsX3_init ({ frames := 1, cells := 1, slots := 40, locals := 24 }) (zPc B kr kp D (zTy cI cJ cZ) ([(a, .inr (3, [.null, .int 0]))] ++ R) [.ref a]) (zQvg B D (fun u => ([(a, .inr (3, [.ref (u 0), .int 0])), ((u 0), .inl (cJ, 40, .inr (.inl (fun _ => 0))))] ++ R))) 1 40 (zAb B) := by
  refine Met.ofW (cc := cX3_init) (maxL := 1) (ret := none) (by decide) rfl ?_
  intro p e s m args below meth c s₁ B0 hml hv
  obtain ⟨rfl, hP, hD, hK, hE, hB⟩ := hv
  have hx := B0.exec
  have hb := B0.bytes
  have hr := B0.returns
  have hts := atoms_spec (ws := wsX3_init) B0.pre
  have hown : s.vm.findClass RX3 = some m.cls := findClass_of_methodNamed B0.named
  have hlocks := B0.notSynchronized
  have hA : ∀ q : Nat, s.heap.size ≤ q → zAb B q := fun q hq => Nat.le_trans hB hq
  have hS : va_S (zAb B) s.heap s.heap [] := va_S.rf
  have hgr : s.heap.size ≤ s.heap.size := Nat.le_refl _
  have hl := lv_entry ([.ref a]) (n := 1) (Nat.le_of_ble_eq_true rfl)
  rw [lg_entry_eq]
  generalize (lg_sl ([.ref a]) ++ List.replicate (1 - (lg_sl ([.ref a])).length) Slot.unset).toArray = ls at hl ⊢
  have hl : lv_has ls 1 [(0, .ref a)] := hl
  have hinX3 : ∀ w ∈ wsX30, w ∈ wsX3_init := fun _ h => List.mem_cons_of_mem _ (List.mem_append_right _ h)
  have hP : va_P D vwCl ([(a, .inr (3, [.null, .int 0]))] ++ R) s.heap := hP
  have hD : va_D (zAb B) ([(a, .inr (3, [.null, .int 0]))] ++ R) := hD
  refine lv_aload_n hx hb dX3_init_0 rfl (lv_at hl 0 rfl) ?_
  have hin9 : meth.name = "<init>" := (name_of_methodNamed B0.named B0.method).1
  refine W.objInit hx hb hown (hts (.methodLink RX3 3 objectInit) (List.mem_of_getElem? (i := 1) rfl)) (hts (.instanceMethod objectInit) (List.mem_of_getElem? (i := 2) rfl)) (hts (.code objectInit ⟨#[0xb1]⟩ 1 none) (List.mem_of_getElem? (i := 3) rfl)) rfl (by rw [hml]; exact hl.1) rfl dX3_init_1 (Nat.le_of_ble_eq_true rfl) (Nat.le_of_ble_eq_true rfl) ?_
  refine lv_aload_n hx hb dX3_init_4 rfl (lv_at hl 0 rfl) ?_
  refine lv_bipush (v := 40) hx hb dX3_init_5 (by decide) ?_
  refine va_newa (atype := .long) (ty := .long) (N' := 40) (a0 := (40, .inr (.inl (fun _ => 0)))) hx hb (hts (.arrayClass .long) (List.mem_of_getElem? (i := 4) rfl)) rfl hK hP hD hS hA (fun _ => rfl) (by decide) (by decide) (Nat.le_of_ble_eq_true rfl) (Nat.le_of_ble_eq_true rfl) (Nat.le_of_ble_eq_true rfl) dX3_init_7 (fun q7 cA H hK9 hP hD hS => ?_)
  obtain rfl : cJ = cA := zcA_long hK hK9
  have hP : va_P D vwCl ([(a, .inr (3, [.null, .int 0])), (q7, .inl (cJ, 40, .inr (.inl (fun _ => 0))))] ++ R) H := hP.swap
  have hD : va_D (zAb B) ([(a, .inr (3, [.null, .int 0])), (q7, .inl (cJ, 40, .inr (.inl (fun _ => 0))))] ++ R) := hD.swap
  refine va_putF (ci := 3) (v := .ref q7) (ty := (.array .long)) (C := RX3) (T := TX3) (N := 2) hx hb hts hinX3 tyX3 tyX3_ok nmX3 hown hK hP hD hS 0 rfl rfl 0 (by decide) (hts (.fieldLink RX3 9 "TypingTutor$WordList" "words" "[J") (List.mem_of_getElem? (i := 5) rfl)) (fun _ h9 => h9) rfl hin9 rfl (by decide +kernel) rfl rfl (Nat.le_of_ble_eq_true rfl) dX3_init_9 (fun H locs hP hD hS => ?_)
  have hP : va_P D vwCl ([(a, .inr (3, [.ref q7, .int 0])), (q7, .inl (cJ, 40, .inr (.inl (fun _ => 0))))] ++ R) _ := hP
  have hD : va_D (zAb B) ([(a, .inr (3, [.ref q7, .int 0])), (q7, .inl (cJ, 40, .inr (.inl (fun _ => 0))))] ++ R) := hD
  refine lv_aload_n hx hb dX3_init_12 rfl (lv_at hl 0 rfl) ?_
  refine lv_iconst (v := 0) hx hb dX3_init_13 (by decide) ?_
  refine va_put (ci := 3) (v := .int 0) (ty := .int) (C := RX3) (T := TX3) (N := 2) hx hb hts hinX3 tyX3 tyX3_ok nmX3 hown hK hP hD hS 0 rfl rfl 1 (by decide) (hts (.fieldLink RX3 15 "TypingTutor$WordList" "count" "I") (List.mem_of_getElem? (i := 6) rfl)) (fun _ h9 => h9) rfl (by decide +kernel) rfl rfl (Nat.le_of_ble_eq_true rfl) dX3_init_14 (fun H locs hP hD hS => ?_)
  have hP : va_P D vwCl ([(a, .inr (3, [.ref q7, .int 0])), (q7, .inl (cJ, 40, .inr (.inl (fun _ => 0))))] ++ R) _ := hP
  have hD : va_D (zAb B) ([(a, .inr (3, [.ref q7, .int 0])), (q7, .inl (cJ, 40, .inr (.inl (fun _ => 0))))] ++ R) := hD
  exact W.vret hx hb hr (fun t ht hW => ⟨⟨(fun (k : Nat) => q7), rfl, trivial, by rw [ht]; exact hP, hD⟩, hS.F ht⟩) hS.2.2 dX3_init_17

set_option maxHeartbeats 1000000 in
set_option maxRecDepth 100000 in
theorem c_X1_init_k {l : Launch} {B kr kp : Nat} {D : va_G} {cI cJ cZ : ClassId}    {a : Nat} {R : va_W}   : Met l yX1_init wsX1_init ({ frames := 1, cells := 3, slots := 78, locals := 24 }) (zPc B kr kp D (zTy cI cJ cZ) ([(a, .inr (1, [.null, .null, .null]))] ++ R) [.ref a, .int 26]) (zQvg B D (fun u => ([(a, .inr (1, [.ref (u 0), .ref (u 1), .ref (u 2)])), ((u 0), .inl (cI, 26, .inl (fun _ => 0))), ((u 1), .inl (cI, 26, .inl (fun _ => 0))), ((u 2), .inl (cI, 26, .inl (zfil 26 500 (fun _ => 0))))] ++ R))) 3 78 (zAb B) := by
  refine Met.ofW (cc := cX1_init) (maxL := 3) (ret := none) (by decide) rfl ?_
  intro p e s m args below meth c s₁ B0 hml hv
  obtain ⟨rfl, hP, hD, hK, hE, hB⟩ := hv
  have hx := B0.exec
  have hb := B0.bytes
  have hr := B0.returns
  have hts := atoms_spec (ws := wsX1_init) B0.pre
  have hown : s.vm.findClass RX1 = some m.cls := findClass_of_methodNamed B0.named
  have hlocks := B0.notSynchronized
  have hA : ∀ q : Nat, s.heap.size ≤ q → zAb B q := fun q hq => Nat.le_trans hB hq
  have hS : va_S (zAb B) s.heap s.heap [] := va_S.rf
  have hgr : s.heap.size ≤ s.heap.size := Nat.le_refl _
  have hl := lv_entry ([.ref a, .int 26]) (n := 3) (Nat.le_of_ble_eq_true rfl)
  rw [lg_entry_eq]
  generalize (lg_sl ([.ref a, .int 26]) ++ List.replicate (3 - (lg_sl ([.ref a, .int 26])).length) Slot.unset).toArray = ls at hl ⊢
  have hl : lv_has ls 3 [(0, .ref a), (1, .int 26)] := hl
  have hinX1 : ∀ w ∈ wsX10, w ∈ wsX1_init := fun _ h => List.mem_cons_of_mem _ (List.mem_append_right _ h)
  have hP : va_P D vwCl ([(a, .inr (1, [.null, .null, .null]))] ++ R) s.heap := hP
  have hD : va_D (zAb B) ([(a, .inr (1, [.null, .null, .null]))] ++ R) := hD
  refine lv_aload_n hx hb dX1_init_0 rfl (lv_at hl 0 rfl) ?_
  have hin9 : meth.name = "<init>" := (name_of_methodNamed B0.named B0.method).1
  refine W.objInit hx hb hown (hts (.methodLink RX1 3 objectInit) (List.mem_of_getElem? (i := 1) rfl)) (hts (.instanceMethod objectInit) (List.mem_of_getElem? (i := 2) rfl)) (hts (.code objectInit ⟨#[0xb1]⟩ 1 none) (List.mem_of_getElem? (i := 3) rfl)) rfl (by rw [hml]; exact hl.1) rfl dX1_init_1 (Nat.le_of_ble_eq_true rfl) (Nat.le_of_ble_eq_true rfl) ?_
  refine lv_iconst (v := 0) hx hb dX1_init_4 (by decide) ?_
  refine lv_iload_n hx hb dX1_init_5 rfl (lv_at hl 1 rfl) ?_
  refine va_mmax hx hb (hml.trans hl.1.symm) hown (hts (.methodLink RX1 9 Lib.Math.max.name) (List.mem_of_getElem? (i := 4) rfl)) (hts (.static Lib.Math.max.name) (List.mem_of_getElem? (i := 5) rfl)) (hts (.initialized "java/lang/Math") (List.mem_of_getElem? (i := 6) rfl)) (hts (.code Lib.Math.max.name Lib.Math.max.code 2 (some .int)) (List.mem_of_getElem? (i := 7) rfl)) (Nat.le_of_ble_eq_true rfl) (Nat.le_of_ble_eq_true rfl) (Nat.le_of_ble_eq_true rfl) (Nat.le_of_ble_eq_true rfl) dX1_init_6 ?_
  refine lv_topi (fun v_1 ev_1 => ?_)
  obtain rfl : v_1 = 26 := ev_1.trans (by decide)
  refine lv_istore_n (lv' := [(2, .int 26), (0, .ref a), (1, .int 26)]) hx hb dX1_init_9 rfl hl (by decide) rfl (fun ls hl => ?_)
  refine lv_aload_n hx hb dX1_init_10 rfl (lv_at hl 1 rfl) ?_
  refine lv_iload_n hx hb dX1_init_11 rfl (lv_at hl 0 rfl) ?_
  refine va_newa (atype := .int) (ty := .int) (N' := 26) (a0 := (26, .inl (fun _ => 0))) hx hb (hts (.arrayClass .int) (List.mem_of_getElem? (i := 8) rfl)) rfl hK hP hD hS hA (fun _ => rfl) (by decide) (by decide) (Nat.le_of_ble_eq_true rfl) (Nat.le_of_ble_eq_true rfl) (Nat.le_of_ble_eq_true rfl) dX1_init_12 (fun q12 cA H hK9 hP hD hS => ?_)
  obtain rfl : cI = cA := zcA_int hK hK9
  have hP : va_P D vwCl ([(a, .inr (1, [.null, .null, .null])), (q12, .inl (cI, 26, .inl (fun _ => 0)))] ++ R) H := hP.swap
  have hD : va_D (zAb B) ([(a, .inr (1, [.null, .null, .null])), (q12, .inl (cI, 26, .inl (fun _ => 0)))] ++ R) := hD.swap
  refine va_putF (ci := 1) (v := .ref q12) (ty := (.array .int)) (C := RX1) (T := TX1) (N := 3) hx hb hts hinX1 tyX1 tyX1_ok nmX1 hown hK hP hD hS 0 rfl rfl 0 (by decide) (hts (.fieldLink RX1 15 "TypingTutor$Knowledge" "tries" "[I") (List.mem_of_getElem? (i := 9) rfl)) (fun _ h9 => h9) rfl hin9 rfl (by decide +kernel) rfl rfl (Nat.le_of_ble_eq_true rfl) dX1_init_14 (fun H locs hP hD hS => ?_)
  have hP : va_P D vwCl ([(a, .inr (1, [.ref q12, .null, .null])), (q12, .inl (cI, 26, .inl (fun _ => 0)))] ++ R) _ := hP
  have hD : va_D (zAb B) ([(a, .inr (1, [.ref q12, .null, .null])), (q12, .inl (cI, 26, .inl (fun _ => 0)))] ++ R) := hD
  refine lv_aload_n hx hb dX1_init_17 rfl (lv_at hl 1 rfl) ?_
  refine lv_iload_n hx hb dX1_init_18 rfl (lv_at hl 0 rfl) ?_
  refine va_newa (atype := .int) (ty := .int) (N' := 26) (a0 := (26, .inl (fun _ => 0))) hx hb (hts (.arrayClass .int) (List.mem_of_getElem? (i := 8) rfl)) rfl hK hP hD hS hA (fun _ => rfl) (by decide) (by decide) (Nat.le_of_ble_eq_true rfl) (Nat.le_of_ble_eq_true rfl) (Nat.le_of_ble_eq_true rfl) dX1_init_19 (fun q19 cA H hK9 hP hD hS => ?_)
  obtain rfl : cI = cA := zcA_int hK hK9
  have hP : va_P D vwCl ([(a, .inr (1, [.ref q12, .null, .null])), (q12, .inl (cI, 26, .inl (fun _ => 0))), (q19, .inl (cI, 26, .inl (fun _ => 0)))] ++ R) H := hP.swap
  have hD : va_D (zAb B) ([(a, .inr (1, [.ref q12, .null, .null])), (q12, .inl (cI, 26, .inl (fun _ => 0))), (q19, .inl (cI, 26, .inl (fun _ => 0)))] ++ R) := hD.swap
  refine va_putF (ci := 1) (v := .ref q19) (ty := (.array .int)) (C := RX1) (T := TX1) (N := 3) hx hb hts hinX1 tyX1 tyX1_ok nmX1 hown hK hP hD hS 0 rfl rfl 1 (by decide) (hts (.fieldLink RX1 21 "TypingTutor$Knowledge" "misses" "[I") (List.mem_of_getElem? (i := 10) rfl)) (fun _ h9 => h9) rfl hin9 rfl (by decide +kernel) rfl rfl (Nat.le_of_ble_eq_true rfl) dX1_init_21 (fun H locs hP hD hS => ?_)
  have hP : va_P D vwCl ([(a, .inr (1, [.ref q12, .ref q19, .null])), (q12, .inl (cI, 26, .inl (fun _ => 0))), (q19, .inl (cI, 26, .inl (fun _ => 0)))] ++ R) _ := hP
  have hD : va_D (zAb B) ([(a, .inr (1, [.ref q12, .ref q19, .null])), (q12, .inl (cI, 26, .inl (fun _ => 0))), (q19, .inl (cI, 26, .inl (fun _ => 0)))] ++ R) := hD
  refine lv_aload_n hx hb dX1_init_24 rfl (lv_at hl 1 rfl) ?_
  refine lv_iload_n hx hb dX1_init_25 rfl (lv_at hl 0 rfl) ?_
  refine va_newa (atype := .int) (ty := .int) (N' := 26) (a0 := (26, .inl (fun _ => 0))) hx hb (hts (.arrayClass .int) (List.mem_of_getElem? (i := 8) rfl)) rfl hK hP hD hS hA (fun _ => rfl) (by decide) (by decide) (Nat.le_of_ble_eq_true rfl) (Nat.le_of_ble_eq_true rfl) (Nat.le_of_ble_eq_true rfl) dX1_init_26 (fun q26 cA H hK9 hP hD hS => ?_)
  obtain rfl : cI = cA := zcA_int hK hK9
  have hP : va_P D vwCl ([(a, .inr (1, [.ref q12, .ref q19, .null])), (q12, .inl (cI, 26, .inl (fun _ => 0))), (q19, .inl (cI, 26, .inl (fun _ => 0))), (q26, .inl (cI, 26, .inl (fun _ => 0)))] ++ R) H := hP.swap
  have hD : va_D (zAb B) ([(a, .inr (1, [.ref q12, .ref q19, .null])), (q12, .inl (cI, 26, .inl (fun _ => 0))), (q19, .inl (cI, 26, .inl (fun _ => 0))), (q26, .inl (cI, 26, .inl (fun _ => 0)))] ++ R) := hD.swap
  refine va_putF (ci := 1) (v := .ref q26) (ty := (.array .int)) (C := RX1) (T := TX1) (N := 3) hx hb hts hinX1 tyX1 tyX1_ok nmX1 hown hK hP hD hS 0 rfl rfl 2 (by decide) (hts (.fieldLink RX1 24 "TypingTutor$Knowledge" "levels" "[I") (List.mem_of_getElem? (i := 11) rfl)) (fun _ h9 => h9) rfl hin9 rfl (by decide +kernel) rfl rfl (Nat.le_of_ble_eq_true rfl) dX1_init_28 (fun H locs hP hD hS => ?_)
  have hP : va_P D vwCl ([(a, .inr (1, [.ref q12, .ref q19, .ref q26])), (q12, .inl (cI, 26, .inl (fun _ => 0))), (q19, .inl (cI, 26, .inl (fun _ => 0))), (q26, .inl (cI, 26, .inl (fun _ => 0)))] ++ R) _ := hP
  have hD : va_D (zAb B) ([(a, .inr (1, [.ref q12, .ref q19, .ref q26])), (q12, .inl (cI, 26, .inl (fun _ => 0))), (q19, .inl (cI, 26, .inl (fun _ => 0))), (q26, .inl (cI, 26, .inl (fun _ => 0)))] ++ R) := hD
  refine lv_aload_n hx hb dX1_init_31 rfl (lv_at hl 1 rfl) ?_
  refine va_get (ci := 1) (v := .ref q26) (C := RX1) (T := TX1) (N := 3) hx hb hts hinX1 hown hK hP 0 rfl rfl 2 (by decide) (hts (.fieldLink RX1 24 "TypingTutor$Knowledge" "levels" "[I") (List.mem_of_getElem? (i := 11) rfl)) (fun _ h9 => h9) rfl dX1_init_32 ?_
  refine lv_sipush (v := 500) hx hb dX1_init_35 (by decide) ?_
  refine zcv (zrS (As := [.ref q26, .int 500]) (rest := []) ⟨hx, hb, hml, hown, hts⟩ (zS hP hD hK hE hB hS) (c_J7_fill_53178 (q0 := 3) rfl (by omega)) (va_cwS 2 hts gX1_init_J7_fill_53178 rfl rfl rfl hds_J7_fill_53178 ⟨Nat.le_of_ble_eq_true rfl, Nat.le_of_ble_eq_true rfl⟩) rfl rfl hl.1 rfl (lv_room (Nat.le_of_ble_eq_true rfl)) dX1_init_38 ⟨Nat.le_of_ble_eq_true rfl, Nat.le_of_ble_eq_true rfl⟩) hS (fun H locs hP hD hS => ?_)
  have hP : va_P D vwCl ([(a, .inr (1, [.ref q12, .ref q19, .ref q26])), (q12, .inl (cI, 26, .inl (fun _ => 0))), (q19, .inl (cI, 26, .inl (fun _ => 0))), (q26, .inl (cI, 26, .inl (zfil 26 500 (fun _ => 0))))] ++ R) _ := hP
  have hD : va_D (zAb B) ([(a, .inr (1, [.ref q12, .ref q19, .ref q26])), (q12, .inl (cI, 26, .inl (fun _ => 0))), (q19, .inl (cI, 26, .inl (fun _ => 0))), (q26, .inl (cI, 26, .inl (zfil 26 500 (fun _ => 0))))] ++ R) := hD
  exact W.vret hx hb hr (fun t ht hW => ⟨⟨(fun (k : Nat) => if k = 0 then q12 else if k = 1 then q19 else q26), rfl, trivial, by rw [ht]; exact hP, hD⟩, hS.F ht⟩) hS.2.2 dX1_init_41

set_option maxHeartbeats 1000000 in
set_option maxRecDepth 100000 in
theorem c_X1_init_p {l : Launch} {B kr kp : Nat} {D : va_G} {cI cJ cZ : ClassId}    {a : Nat} {R : va_W}   : Met l yX1_init wsX1_init ({ frames := 1, cells := 3, slots := 2028, locals := 24 }) (zPc B kr kp D (zTy cI cJ cZ) ([(a, .inr (1, [.null, .null, .null]))] ++ R) [.ref a, .int 676]) (zQvg B D (fun u => ([(a, .inr (1, [.ref (u 0), .ref (u 1), .ref (u 2)])), ((u 0), .inl (cI, 676, .inl (fun _ => 0))), ((u 1), .inl (cI, 676, .inl (fun _ => 0))), ((u 2), .inl (cI, 676, .inl (zfil 676 500 (fun _ => 0))))] ++ R))) 3 2028 (zAb B) := by
  refine Met.ofW (cc := cX1_init) (maxL := 3) (ret := none) (by decide) rfl ?_
  intro p e s m args below meth c s₁ B0 hml hv
  obtain ⟨rfl, hP, hD, hK, hE, hB⟩ := hv
  have hx := B0.exec
  have hb := B0.bytes
  have hr := B0.returns
  have hts := atoms_spec (ws := wsX1_init) B0.pre
  have hown : s.vm.findClass RX1 = some m.cls := findClass_of_methodNamed B0.named
  have hlocks := B0.notSynchronized
  have hA : ∀ q : Nat, s.heap.size ≤ q → zAb B q := fun q hq => Nat.le_trans hB hq
  have hS : va_S (zAb B) s.heap s.heap [] := va_S.rf
  have hgr : s.heap.size ≤ s.heap.size := Nat.le_refl _
  have hl := lv_entry ([.ref a, .int 676]) (n := 3) (Nat.le_of_ble_eq_true rfl)
  rw [lg_entry_eq]
  generalize (lg_sl ([.ref a, .int 676]) ++ List.replicate (3 - (lg_sl ([.ref a, .int 676])).length) Slot.unset).toArray = ls at hl ⊢
  have hl : lv_has ls 3 [(0, .ref a), (1, .int 676)] := hl
  have hinX1 : ∀ w ∈ wsX10, w ∈ wsX1_init := fun _ h => List.mem_cons_of_mem _ (List.mem_append_right _ h)
  have hP : va_P D vwCl ([(a, .inr (1, [.null, .null, .null]))] ++ R) s.heap := hP
  have hD : va_D (zAb B) ([(a, .inr (1, [.null, .null, .null]))] ++ R) := hD
  refine lv_aload_n hx hb dX1_init_0 rfl (lv_at hl 0 rfl) ?_
  have hin9 : meth.name = "<init>" := (name_of_methodNamed B0.named B0.method).1
  refine W.objInit hx hb hown (hts (.methodLink RX1 3 objectInit) (List.mem_of_getElem? (i := 1) rfl)) (hts (.instanceMethod objectInit) (List.mem_of_getElem? (i := 2) rfl)) (hts (.code objectInit ⟨#[0xb1]⟩ 1 none) (List.mem_of_getElem? (i := 3) rfl)) rfl (by rw [hml]; exact hl.1) rfl dX1_init_1 (Nat.le_of_ble_eq_true rfl) (Nat.le_of_ble_eq_true rfl) ?_
  refine lv_iconst (v := 0) hx hb dX1_init_4 (by decide) ?_
  refine lv_iload_n hx hb dX1_init_5 rfl (lv_at hl 1 rfl) ?_
  refine va_mmax hx hb (hml.trans hl.1.symm) hown (hts (.methodLink RX1 9 Lib.Math.max.name) (List.mem_of_getElem? (i := 4) rfl)) (hts (.static Lib.Math.max.name) (List.mem_of_getElem? (i := 5) rfl)) (hts (.initialized "java/lang/Math") (List.mem_of_getElem? (i := 6) rfl)) (hts (.code Lib.Math.max.name Lib.Math.max.code 2 (some .int)) (List.mem_of_getElem? (i := 7) rfl)) (Nat.le_of_ble_eq_true rfl) (Nat.le_of_ble_eq_true rfl) (Nat.le_of_ble_eq_true rfl) (Nat.le_of_ble_eq_true rfl) dX1_init_6 ?_
  refine lv_topi (fun v_1 ev_1 => ?_)
  obtain rfl : v_1 = 676 := ev_1.trans (by decide)
  refine lv_istore_n (lv' := [(2, .int 676), (0, .ref a), (1, .int 676)]) hx hb dX1_init_9 rfl hl (by decide) rfl (fun ls hl => ?_)
  refine lv_aload_n hx hb dX1_init_10 rfl (lv_at hl 1 rfl) ?_
  refine lv_iload_n hx hb dX1_init_11 rfl (lv_at hl 0 rfl) ?_
  refine va_newa (atype := .int) (ty := .int) (N' := 676) (a0 := (676, .inl (fun _ => 0))) hx hb (hts (.arrayClass .int) (List.mem_of_getElem? (i := 8) rfl)) rfl hK hP hD hS hA (fun _ => rfl) (by decide) (by decide) (Nat.le_of_ble_eq_true rfl) (Nat.le_of_ble_eq_true rfl) (Nat.le_of_ble_eq_true rfl) dX1_init_12 (fun q12 cA H hK9 hP hD hS => ?_)
  obtain rfl : cI = cA := zcA_int hK hK9
  have hP : va_P D vwCl ([(a, .inr (1, [.null, .null, .null])), (q12, .inl (cI, 676, .inl (fun _ => 0)))] ++ R) H := hP.swap
  have hD : va_D (zAb B) ([(a, .inr (1, [.null, .null, .null])), (q12, .inl (cI, 676, .inl (fun _ => 0)))] ++ R) := hD.swap
  refine va_putF (ci := 1) (v := .ref q12) (ty := (.array .int)) (C := RX1) (T := TX1) (N := 3) hx hb hts hinX1 tyX1 tyX1_ok nmX1 hown hK hP hD hS 0 rfl rfl 0 (by decide) (hts (.fieldLink RX1 15 "TypingTutor$Knowledge" "tries" "[I") (List.mem_of_getElem? (i := 9) rfl)) (fun _ h9 => h9) rfl hin9 rfl (by decide +kernel) rfl rfl (Nat.le_of_ble_eq_true rfl) dX1_init_14 (fun H locs hP hD hS => ?_)
  have hP : va_P D vwCl ([(a, .inr (1, [.ref q12, .null, .null])), (q12, .inl (cI, 676, .inl (fun _ => 0)))] ++ R) _ := hP
  have hD : va_D (zAb B) ([(a, .inr (1, [.ref q12, .null, .null])), (q12, .inl (cI, 676, .inl (fun _ => 0)))] ++ R) := hD
  refine lv_aload_n hx hb dX1_init_17 rfl (lv_at hl 1 rfl) ?_
  refine lv_iload_n hx hb dX1_init_18 rfl (lv_at hl 0 rfl) ?_
  refine va_newa (atype := .int) (ty := .int) (N' := 676) (a0 := (676, .inl (fun _ => 0))) hx hb (hts (.arrayClass .int) (List.mem_of_getElem? (i := 8) rfl)) rfl hK hP hD hS hA (fun _ => rfl) (by decide) (by decide) (Nat.le_of_ble_eq_true rfl) (Nat.le_of_ble_eq_true rfl) (Nat.le_of_ble_eq_true rfl) dX1_init_19 (fun q19 cA H hK9 hP hD hS => ?_)
  obtain rfl : cI = cA := zcA_int hK hK9
  have hP : va_P D vwCl ([(a, .inr (1, [.ref q12, .null, .null])), (q12, .inl (cI, 676, .inl (fun _ => 0))), (q19, .inl (cI, 676, .inl (fun _ => 0)))] ++ R) H := hP.swap
  have hD : va_D (zAb B) ([(a, .inr (1, [.ref q12, .null, .null])), (q12, .inl (cI, 676, .inl (fun _ => 0))), (q19, .inl (cI, 676, .inl (fun _ => 0)))] ++ R) := hD.swap
  refine va_putF (ci := 1) (v := .ref q19) (ty := (.array .int)) (C := RX1) (T := TX1) (N := 3) hx hb hts hinX1 tyX1 tyX1_ok nmX1 hown hK hP hD hS 0 rfl rfl 1 (by decide) (hts (.fieldLink RX1 21 "TypingTutor$Knowledge" "misses" "[I") (List.mem_of_getElem? (i := 10) rfl)) (fun _ h9 => h9) rfl hin9 rfl (by decide +kernel) rfl rfl (Nat.le_of_ble_eq_true rfl) dX1_init_21 (fun H locs hP hD hS => ?_)
  have hP : va_P D vwCl ([(a, .inr (1, [.ref q12, .ref q19, .null])), (q12, .inl (cI, 676, .inl (fun _ => 0))), (q19, .inl (cI, 676, .inl (fun _ => 0)))] ++ R) _ := hP
  have hD : va_D (zAb B) ([(a, .inr (1, [.ref q12, .ref q19, .null])), (q12, .inl (cI, 676, .inl (fun _ => 0))), (q19, .inl (cI, 676, .inl (fun _ => 0)))] ++ R) := hD
  refine lv_aload_n hx hb dX1_init_24 rfl (lv_at hl 1 rfl) ?_
  refine lv_iload_n hx hb dX1_init_25 rfl (lv_at hl 0 rfl) ?_
  refine va_newa (atype := .int) (ty := .int) (N' := 676) (a0 := (676, .inl (fun _ => 0))) hx hb (hts (.arrayClass .int) (List.mem_of_getElem? (i := 8) rfl)) rfl hK hP hD hS hA (fun _ => rfl) (by decide) (by decide) (Nat.le_of_ble_eq_true rfl) (Nat.le_of_ble_eq_true rfl) (Nat.le_of_ble_eq_true rfl) dX1_init_26 (fun q26 cA H hK9 hP hD hS => ?_)
  obtain rfl : cI = cA := zcA_int hK hK9
  have hP : va_P D vwCl ([(a, .inr (1, [.ref q12, .ref q19, .null])), (q12, .inl (cI, 676, .inl (fun _ => 0))), (q19, .inl (cI, 676, .inl (fun _ => 0))), (q26, .inl (cI, 676, .inl (fun _ => 0)))] ++ R) H := hP.swap
  have hD : va_D (zAb B) ([(a, .inr (1, [.ref q12, .ref q19, .null])), (q12, .inl (cI, 676, .inl (fun _ => 0))), (q19, .inl (cI, 676, .inl (fun _ => 0))), (q26, .inl (cI, 676, .inl (fun _ => 0)))] ++ R) := hD.swap
  refine va_putF (ci := 1) (v := .ref q26) (ty := (.array .int)) (C := RX1) (T := TX1) (N := 3) hx hb hts hinX1 tyX1 tyX1_ok nmX1 hown hK hP hD hS 0 rfl rfl 2 (by decide) (hts (.fieldLink RX1 24 "TypingTutor$Knowledge" "levels" "[I") (List.mem_of_getElem? (i := 11) rfl)) (fun _ h9 => h9) rfl hin9 rfl (by decide +kernel) rfl rfl (Nat.le_of_ble_eq_true rfl) dX1_init_28 (fun H locs hP hD hS => ?_)
  have hP : va_P D vwCl ([(a, .inr (1, [.ref q12, .ref q19, .ref q26])), (q12, .inl (cI, 676, .inl (fun _ => 0))), (q19, .inl (cI, 676, .inl (fun _ => 0))), (q26, .inl (cI, 676, .inl (fun _ => 0)))] ++ R) _ := hP
  have hD : va_D (zAb B) ([(a, .inr (1, [.ref q12, .ref q19, .ref q26])), (q12, .inl (cI, 676, .inl (fun _ => 0))), (q19, .inl (cI, 676, .inl (fun _ => 0))), (q26, .inl (cI, 676, .inl (fun _ => 0)))] ++ R) := hD
  refine lv_aload_n hx hb dX1_init_31 rfl (lv_at hl 1 rfl) ?_
  refine va_get (ci := 1) (v := .ref q26) (C := RX1) (T := TX1) (N := 3) hx hb hts hinX1 hown hK hP 0 rfl rfl 2 (by decide) (hts (.fieldLink RX1 24 "TypingTutor$Knowledge" "levels" "[I") (List.mem_of_getElem? (i := 11) rfl)) (fun _ h9 => h9) rfl dX1_init_32 ?_
  refine lv_sipush (v := 500) hx hb dX1_init_35 (by decide) ?_
  refine zcv (zrS (As := [.ref q26, .int 500]) (rest := []) ⟨hx, hb, hml, hown, hts⟩ (zS hP hD hK hE hB hS) (c_J7_fill_53178 (q0 := 3) rfl (by omega)) (va_cwS 2 hts gX1_init_J7_fill_53178 rfl rfl rfl hds_J7_fill_53178 ⟨Nat.le_of_ble_eq_true rfl, Nat.le_of_ble_eq_true rfl⟩) rfl rfl hl.1 rfl (lv_room (Nat.le_of_ble_eq_true rfl)) dX1_init_38 ⟨Nat.le_of_ble_eq_true rfl, Nat.le_of_ble_eq_true rfl⟩) hS (fun H locs hP hD hS => ?_)
  have hP : va_P D vwCl ([(a, .inr (1, [.ref q12, .ref q19, .ref q26])), (q12, .inl (cI, 676, .inl (fun _ => 0))), (q19, .inl (cI, 676, .inl (fun _ => 0))), (q26, .inl (cI, 676, .inl (zfil 676 500 (fun _ => 0))))] ++ R) _ := hP
  have hD : va_D (zAb B) ([(a, .inr (1, [.ref q12, .ref q19, .ref q26])), (q12, .inl (cI, 676, .inl (fun _ => 0))), (q19, .inl (cI, 676, .inl (fun _ => 0))), (q26, .inl (cI, 676, .inl (zfil 676 500 (fun _ => 0))))] ++ R) := hD
  exact W.vret hx hb hr (fun t ht hW => ⟨⟨(fun (k : Nat) => if k = 0 then q12 else if k = 1 then q19 else q26), rfl, trivial, by rw [ht]; exact hP, hD⟩, hS.F ht⟩) hS.2.2 dX1_init_41

set_option maxHeartbeats 1000000 in
set_option maxRecDepth 100000 in
theorem c_X2_init {l : Launch} {B kr kp : Nat} {D : va_G} {cI cJ cZ : ClassId}    {a : Nat} {R : va_W}   : Met l yX2_init wsX2_init ({ frames := 1, cells := 4, slots := 128, locals := 24 }) (zPc B kr kp D (zTy cI cJ cZ) ([(a, .inr (2, [.null, .null, .null, .null, .int 0, .int 0, .int 0, .int 0, .int 0, .int 0, .int 0]))] ++ R) [.ref a]) (zQvg B D (fun u => ([(a, .inr (2, [.ref (u 0), .ref (u 1), .ref (u 2), .ref (u 3), .int 0, .int 0, .int 0, .int 0, .int 0, .int 0, .int 0])), ((u 0), .inl (cI, 6, .inl (fun _ => 0))), ((u 1), .inl (cI, 48, .inl (fun _ => 0))), ((u 2), .inl (cI, 48, .inl (fun _ => 0))), ((u 3), .inl (cI, 26, .inl (fun _ => 0)))] ++ R))) 4 128 (zAb B) := by
  refine Met.ofW (cc := cX2_init) (maxL := 1) (ret := none) (by decide) rfl ?_
  intro p e s m args below meth c s₁ B0 hml hv
  obtain ⟨rfl, hP, hD, hK, hE, hB⟩ := hv
  have hx := B0.exec
  have hb := B0.bytes
  have hr := B0.returns
  have hts := atoms_spec (ws := wsX2_init) B0.pre
  have hown : s.vm.findClass RX2 = some m.cls := findClass_of_methodNamed B0.named
  have hlocks := B0.notSynchronized
  have hA : ∀ q : Nat, s.heap.size ≤ q → zAb B q := fun q hq => Nat.le_trans hB hq
  have hS : va_S (zAb B) s.heap s.heap [] := va_S.rf
  have hgr : s.heap.size ≤ s.heap.size := Nat.le_refl _
  have hl := lv_entry ([.ref a]) (n := 1) (Nat.le_of_ble_eq_true rfl)
  rw [lg_entry_eq]
  generalize (lg_sl ([.ref a]) ++ List.replicate (1 - (lg_sl ([.ref a])).length) Slot.unset).toArray = ls at hl ⊢
  have hl : lv_has ls 1 [(0, .ref a)] := hl
  have hinX2 : ∀ w ∈ wsX20, w ∈ wsX2_init := fun _ h => List.mem_cons_of_mem _ (List.mem_append_right _ h)
  have hP : va_P D vwCl ([(a, .inr (2, [.null, .null, .null, .null, .int 0, .int 0, .int 0, .int 0, .int 0, .int 0, .int 0]))] ++ R) s.heap := hP
  have hD : va_D (zAb B) ([(a, .inr (2, [.null, .null, .null, .null, .int 0, .int 0, .int 0, .int 0, .int 0, .int 0, .int 0]))] ++ R) := hD
  refine lv_aload_n hx hb dX2_init_0 rfl (lv_at hl 0 rfl) ?_
  have hin9 : meth.name = "<init>" := (name_of_methodNamed B0.named B0.method).1
  refine W.objInit hx hb hown (hts (.methodLink RX2 3 objectInit) (List.mem_of_getElem? (i := 1) rfl)) (hts (.instanceMethod objectInit) (List.mem_of_getElem? (i := 2) rfl)) (hts (.code objectInit ⟨#[0xb1]⟩ 1 none) (List.mem_of_getElem? (i := 3) rfl)) rfl (by rw [hml]; exact hl.1) rfl dX2_init_1 (Nat.le_of_ble_eq_true rfl) (Nat.le_of_ble_eq_true rfl) ?_
  refine lv_aload_n hx hb dX2_init_4 rfl (lv_at hl 0 rfl) ?_
  refine lv_bipush (v := 6) hx hb dX2_init_5 (by decide) ?_
  refine va_newa (atype := .int) (ty := .int) (N' := 6) (a0 := (6, .inl (fun _ => 0))) hx hb (hts (.arrayClass .int) (List.mem_of_getElem? (i := 4) rfl)) rfl hK hP hD hS hA (fun _ => rfl) (by decide) (by decide) (Nat.le_of_ble_eq_true rfl) (Nat.le_of_ble_eq_true rfl) (Nat.le_of_ble_eq_true rfl) dX2_init_7 (fun q7 cA H hK9 hP hD hS => ?_)
  obtain rfl : cI = cA := zcA_int hK hK9
  have hP : va_P D vwCl ([(a, .inr (2, [.null, .null, .null, .null, .int 0, .int 0, .int 0, .int 0, .int 0, .int 0, .int 0])), (q7, .inl (cI, 6, .inl (fun _ => 0)))] ++ R) H := hP.swap
  have hD : va_D (zAb B) ([(a, .inr (2, [.null, .null, .null, .null, .int 0, .int 0, .int 0, .int 0, .int 0, .int 0, .int 0])), (q7, .inl (cI, 6, .inl (fun _ => 0)))] ++ R) := hD.swap
  refine va_putF (ci := 2) (v := .ref q7) (ty := (.array .int)) (C := RX2) (T := TX2) (N := 11) hx hb hts hinX2 tyX2 tyX2_ok nmX2 hown hK hP hD hS 0 rfl rfl 0 (by decide) (hts (.fieldLink RX2 9 "TypingTutor$Lesson" "numbers" "[I") (List.mem_of_getElem? (i := 5) rfl)) (fun _ h9 => h9) rfl hin9 rfl (by decide +kernel) rfl rfl (Nat.le_of_ble_eq_true rfl) dX2_init_9 (fun H locs hP hD hS => ?_)
  have hP : va_P D vwCl ([(a, .inr (2, [.ref q7, .null, .null, .null, .int 0, .int 0, .int 0, .int 0, .int 0, .int 0, .int 0])), (q7, .inl (cI, 6, .inl (fun _ => 0)))] ++ R) _ := hP
  have hD : va_D (zAb B) ([(a, .inr (2, [.ref q7, .null, .null, .null, .int 0, .int 0, .int 0, .int 0, .int 0, .int 0, .int 0])), (q7, .inl (cI, 6, .inl (fun _ => 0)))] ++ R) := hD
  refine lv_aload_n hx hb dX2_init_12 rfl (lv_at hl 0 rfl) ?_
  refine lv_bipush (v := 48) hx hb dX2_init_13 (by decide) ?_
  refine va_newa (atype := .int) (ty := .int) (N' := 48) (a0 := (48, .inl (fun _ => 0))) hx hb (hts (.arrayClass .int) (List.mem_of_getElem? (i := 4) rfl)) rfl hK hP hD hS hA (fun _ => rfl) (by decide) (by decide) (Nat.le_of_ble_eq_true rfl) (Nat.le_of_ble_eq_true rfl) (Nat.le_of_ble_eq_true rfl) dX2_init_15 (fun q15 cA H hK9 hP hD hS => ?_)
  obtain rfl : cI = cA := zcA_int hK hK9
  have hP : va_P D vwCl ([(a, .inr (2, [.ref q7, .null, .null, .null, .int 0, .int 0, .int 0, .int 0, .int 0, .int 0, .int 0])), (q7, .inl (cI, 6, .inl (fun _ => 0))), (q15, .inl (cI, 48, .inl (fun _ => 0)))] ++ R) H := hP.swap
  have hD : va_D (zAb B) ([(a, .inr (2, [.ref q7, .null, .null, .null, .int 0, .int 0, .int 0, .int 0, .int 0, .int 0, .int 0])), (q7, .inl (cI, 6, .inl (fun _ => 0))), (q15, .inl (cI, 48, .inl (fun _ => 0)))] ++ R) := hD.swap
  refine va_putF (ci := 2) (v := .ref q15) (ty := (.array .int)) (C := RX2) (T := TX2) (N := 11) hx hb hts hinX2 tyX2 tyX2_ok nmX2 hown hK hP hD hS 0 rfl rfl 1 (by decide) (hts (.fieldLink RX2 15 "TypingTutor$Lesson" "letters" "[I") (List.mem_of_getElem? (i := 6) rfl)) (fun _ h9 => h9) rfl hin9 rfl (by decide +kernel) rfl rfl (Nat.le_of_ble_eq_true rfl) dX2_init_17 (fun H locs hP hD hS => ?_)
  have hP : va_P D vwCl ([(a, .inr (2, [.ref q7, .ref q15, .null, .null, .int 0, .int 0, .int 0, .int 0, .int 0, .int 0, .int 0])), (q7, .inl (cI, 6, .inl (fun _ => 0))), (q15, .inl (cI, 48, .inl (fun _ => 0)))] ++ R) _ := hP
  have hD : va_D (zAb B) ([(a, .inr (2, [.ref q7, .ref q15, .null, .null, .int 0, .int 0, .int 0, .int 0, .int 0, .int 0, .int 0])), (q7, .inl (cI, 6, .inl (fun _ => 0))), (q15, .inl (cI, 48, .inl (fun _ => 0)))] ++ R) := hD
  refine lv_aload_n hx hb dX2_init_20 rfl (lv_at hl 0 rfl) ?_
  refine lv_bipush (v := 48) hx hb dX2_init_21 (by decide) ?_
  refine va_newa (atype := .int) (ty := .int) (N' := 48) (a0 := (48, .inl (fun _ => 0))) hx hb (hts (.arrayClass .int) (List.mem_of_getElem? (i := 4) rfl)) rfl hK hP hD hS hA (fun _ => rfl) (by decide) (by decide) (Nat.le_of_ble_eq_true rfl) (Nat.le_of_ble_eq_true rfl) (Nat.le_of_ble_eq_true rfl) dX2_init_23 (fun q23 cA H hK9 hP hD hS => ?_)
  obtain rfl : cI = cA := zcA_int hK hK9
  have hP : va_P D vwCl ([(a, .inr (2, [.ref q7, .ref q15, .null, .null, .int 0, .int 0, .int 0, .int 0, .int 0, .int 0, .int 0])), (q7, .inl (cI, 6, .inl (fun _ => 0))), (q15, .inl (cI, 48, .inl (fun _ => 0))), (q23, .inl (cI, 48, .inl (fun _ => 0)))] ++ R) H := hP.swap
  have hD : va_D (zAb B) ([(a, .inr (2, [.ref q7, .ref q15, .null, .null, .int 0, .int 0, .int 0, .int 0, .int 0, .int 0, .int 0])), (q7, .inl (cI, 6, .inl (fun _ => 0))), (q15, .inl (cI, 48, .inl (fun _ => 0))), (q23, .inl (cI, 48, .inl (fun _ => 0)))] ++ R) := hD.swap
  refine va_putF (ci := 2) (v := .ref q23) (ty := (.array .int)) (C := RX2) (T := TX2) (N := 11) hx hb hts hinX2 tyX2 tyX2_ok nmX2 hown hK hP hD hS 0 rfl rfl 2 (by decide) (hts (.fieldLink RX2 18 "TypingTutor$Lesson" "owners" "[I") (List.mem_of_getElem? (i := 7) rfl)) (fun _ h9 => h9) rfl hin9 rfl (by decide +kernel) rfl rfl (Nat.le_of_ble_eq_true rfl) dX2_init_25 (fun H locs hP hD hS => ?_)
  have hP : va_P D vwCl ([(a, .inr (2, [.ref q7, .ref q15, .ref q23, .null, .int 0, .int 0, .int 0, .int 0, .int 0, .int 0, .int 0])), (q7, .inl (cI, 6, .inl (fun _ => 0))), (q15, .inl (cI, 48, .inl (fun _ => 0))), (q23, .inl (cI, 48, .inl (fun _ => 0)))] ++ R) _ := hP
  have hD : va_D (zAb B) ([(a, .inr (2, [.ref q7, .ref q15, .ref q23, .null, .int 0, .int 0, .int 0, .int 0, .int 0, .int 0, .int 0])), (q7, .inl (cI, 6, .inl (fun _ => 0))), (q15, .inl (cI, 48, .inl (fun _ => 0))), (q23, .inl (cI, 48, .inl (fun _ => 0)))] ++ R) := hD
  refine lv_aload_n hx hb dX2_init_28 rfl (lv_at hl 0 rfl) ?_
  refine lv_bipush (v := 26) hx hb dX2_init_29 (by decide) ?_
  refine va_newa (atype := .int) (ty := .int) (N' := 26) (a0 := (26, .inl (fun _ => 0))) hx hb (hts (.arrayClass .int) (List.mem_of_getElem? (i := 4) rfl)) rfl hK hP hD hS hA (fun _ => rfl) (by decide) (by decide) (Nat.le_of_ble_eq_true rfl) (Nat.le_of_ble_eq_true rfl) (Nat.le_of_ble_eq_true rfl) dX2_init_31 (fun q31 cA H hK9 hP hD hS => ?_)
  obtain rfl : cI = cA := zcA_int hK hK9
  have hP : va_P D vwCl ([(a, .inr (2, [.ref q7, .ref q15, .ref q23, .null, .int 0, .int 0, .int 0, .int 0, .int 0, .int 0, .int 0])), (q7, .inl (cI, 6, .inl (fun _ => 0))), (q15, .inl (cI, 48, .inl (fun _ => 0))), (q23, .inl (cI, 48, .inl (fun _ => 0))), (q31, .inl (cI, 26, .inl (fun _ => 0)))] ++ R) H := hP.swap
  have hD : va_D (zAb B) ([(a, .inr (2, [.ref q7, .ref q15, .ref q23, .null, .int 0, .int 0, .int 0, .int 0, .int 0, .int 0, .int 0])), (q7, .inl (cI, 6, .inl (fun _ => 0))), (q15, .inl (cI, 48, .inl (fun _ => 0))), (q23, .inl (cI, 48, .inl (fun _ => 0))), (q31, .inl (cI, 26, .inl (fun _ => 0)))] ++ R) := hD.swap
  refine va_putF (ci := 2) (v := .ref q31) (ty := (.array .int)) (C := RX2) (T := TX2) (N := 11) hx hb hts hinX2 tyX2 tyX2_ok nmX2 hown hK hP hD hS 0 rfl rfl 3 (by decide) (hts (.fieldLink RX2 21 "TypingTutor$Lesson" "followers" "[I") (List.mem_of_getElem? (i := 8) rfl)) (fun _ h9 => h9) rfl hin9 rfl (by decide +kernel) rfl rfl (Nat.le_of_ble_eq_true rfl) dX2_init_33 (fun H locs hP hD hS => ?_)
  have hP : va_P D vwCl ([(a, .inr (2, [.ref q7, .ref q15, .ref q23, .ref q31, .int 0, .int 0, .int 0, .int 0, .int 0, .int 0, .int 0])), (q7, .inl (cI, 6, .inl (fun _ => 0))), (q15, .inl (cI, 48, .inl (fun _ => 0))), (q23, .inl (cI, 48, .inl (fun _ => 0))), (q31, .inl (cI, 26, .inl (fun _ => 0)))] ++ R) _ := hP
  have hD : va_D (zAb B) ([(a, .inr (2, [.ref q7, .ref q15, .ref q23, .ref q31, .int 0, .int 0, .int 0, .int 0, .int 0, .int 0, .int 0])), (q7, .inl (cI, 6, .inl (fun _ => 0))), (q15, .inl (cI, 48, .inl (fun _ => 0))), (q23, .inl (cI, 48, .inl (fun _ => 0))), (q31, .inl (cI, 26, .inl (fun _ => 0)))] ++ R) := hD
  refine lv_aload_n hx hb dX2_init_36 rfl (lv_at hl 0 rfl) ?_
  refine lv_iconst (v := 0) hx hb dX2_init_37 (by decide) ?_
  refine va_put (ci := 2) (v := .int 0) (ty := .boolean) (C := RX2) (T := TX2) (N := 11) hx hb hts hinX2 tyX2 tyX2_ok nmX2 hown hK hP hD hS 0 rfl rfl 4 (by decide) (hts (.fieldLink RX2 24 "TypingTutor$Lesson" "running" "Z") (List.mem_of_getElem? (i := 9) rfl)) (fun _ h9 => h9) rfl (by decide +kernel) rfl rfl (Nat.le_of_ble_eq_true rfl) dX2_init_38 (fun H locs hP hD hS => ?_)
  have hP : va_P D vwCl ([(a, .inr (2, [.ref q7, .ref q15, .ref q23, .ref q31, .int 0, .int 0, .int 0, .int 0, .int 0, .int 0, .int 0])), (q7, .inl (cI, 6, .inl (fun _ => 0))), (q15, .inl (cI, 48, .inl (fun _ => 0))), (q23, .inl (cI, 48, .inl (fun _ => 0))), (q31, .inl (cI, 26, .inl (fun _ => 0)))] ++ R) _ := hP
  have hD : va_D (zAb B) ([(a, .inr (2, [.ref q7, .ref q15, .ref q23, .ref q31, .int 0, .int 0, .int 0, .int 0, .int 0, .int 0, .int 0])), (q7, .inl (cI, 6, .inl (fun _ => 0))), (q15, .inl (cI, 48, .inl (fun _ => 0))), (q23, .inl (cI, 48, .inl (fun _ => 0))), (q31, .inl (cI, 26, .inl (fun _ => 0)))] ++ R) := hD
  refine lv_aload_n hx hb dX2_init_41 rfl (lv_at hl 0 rfl) ?_
  refine lv_iconst (v := 0) hx hb dX2_init_42 (by decide) ?_
  refine va_put (ci := 2) (v := .int 0) (ty := .int) (C := RX2) (T := TX2) (N := 11) hx hb hts hinX2 tyX2 tyX2_ok nmX2 hown hK hP hD hS 0 rfl rfl 5 (by decide) (hts (.fieldLink RX2 28 "TypingTutor$Lesson" "wordCount" "I") (List.mem_of_getElem? (i := 10) rfl)) (fun _ h9 => h9) rfl (by decide +kernel) rfl rfl (Nat.le_of_ble_eq_true rfl) dX2_init_43 (fun H locs hP hD hS => ?_)
  have hP : va_P D vwCl ([(a, .inr (2, [.ref q7, .ref q15, .ref q23, .ref q31, .int 0, .int 0, .int 0, .int 0, .int 0, .int 0, .int 0])), (q7, .inl (cI, 6, .inl (fun _ => 0))), (q15, .inl (cI, 48, .inl (fun _ => 0))), (q23, .inl (cI, 48, .inl (fun _ => 0))), (q31, .inl (cI, 26, .inl (fun _ => 0)))] ++ R) _ := hP
  have hD : va_D (zAb B) ([(a, .inr (2, [.ref q7, .ref q15, .ref q23, .ref q31, .int 0, .int 0, .int 0, .int 0, .int 0, .int 0, .int 0])), (q7, .inl (cI, 6, .inl (fun _ => 0))), (q15, .inl (cI, 48, .inl (fun _ => 0))), (q23, .inl (cI, 48, .inl (fun _ => 0))), (q31, .inl (cI, 26, .inl (fun _ => 0)))] ++ R) := hD
  refine lv_aload_n hx hb dX2_init_46 rfl (lv_at hl 0 rfl) ?_
  refine lv_iconst (v := 0) hx hb dX2_init_47 (by decide) ?_
  refine va_put (ci := 2) (v := .int 0) (ty := .int) (C := RX2) (T := TX2) (N := 11) hx hb hts hinX2 tyX2 tyX2_ok nmX2 hown hK hP hD hS 0 rfl rfl 6 (by decide) (hts (.fieldLink RX2 32 "TypingTutor$Lesson" "letterCount" "I") (List.mem_of_getElem? (i := 11) rfl)) (fun _ h9 => h9) rfl (by decide +kernel) rfl rfl (Nat.le_of_ble_eq_true rfl) dX2_init_48 (fun H locs hP hD hS => ?_)
  have hP : va_P D vwCl ([(a, .inr (2, [.ref q7, .ref q15, .ref q23, .ref q31, .int 0, .int 0, .int 0, .int 0, .int 0, .int 0, .int 0])), (q7, .inl (cI, 6, .inl (fun _ => 0))), (q15, .inl (cI, 48, .inl (fun _ => 0))), (q23, .inl (cI, 48, .inl (fun _ => 0))), (q31, .inl (cI, 26, .inl (fun _ => 0)))] ++ R) _ := hP
  have hD : va_D (zAb B) ([(a, .inr (2, [.ref q7, .ref q15, .ref q23, .ref q31, .int 0, .int 0, .int 0, .int 0, .int 0, .int 0, .int 0])), (q7, .inl (cI, 6, .inl (fun _ => 0))), (q15, .inl (cI, 48, .inl (fun _ => 0))), (q23, .inl (cI, 48, .inl (fun _ => 0))), (q31, .inl (cI, 26, .inl (fun _ => 0)))] ++ R) := hD
  refine lv_aload_n hx hb dX2_init_51 rfl (lv_at hl 0 rfl) ?_
  refine lv_iconst (v := 0) hx hb dX2_init_52 (by decide) ?_
  refine va_put (ci := 2) (v := .int 0) (ty := .int) (C := RX2) (T := TX2) (N := 11) hx hb hts hinX2 tyX2 tyX2_ok nmX2 hown hK hP hD hS 0 rfl rfl 7 (by decide) (hts (.fieldLink RX2 35 "TypingTutor$Lesson" "tried" "I") (List.mem_of_getElem? (i := 12) rfl)) (fun _ h9 => h9) rfl (by decide +kernel) rfl rfl (Nat.le_of_ble_eq_true rfl) dX2_init_53 (fun H locs hP hD hS => ?_)
  have hP : va_P D vwCl ([(a, .inr (2, [.ref q7, .ref q15, .ref q23, .ref q31, .int 0, .int 0, .int 0, .int 0, .int 0, .int 0, .int 0])), (q7, .inl (cI, 6, .inl (fun _ => 0))), (q15, .inl (cI, 48, .inl (fun _ => 0))), (q23, .inl (cI, 48, .inl (fun _ => 0))), (q31, .inl (cI, 26, .inl (fun _ => 0)))] ++ R) _ := hP
  have hD : va_D (zAb B) ([(a, .inr (2, [.ref q7, .ref q15, .ref q23, .ref q31, .int 0, .int 0, .int 0, .int 0, .int 0, .int 0, .int 0])), (q7, .inl (cI, 6, .inl (fun _ => 0))), (q15, .inl (cI, 48, .inl (fun _ => 0))), (q23, .inl (cI, 48, .inl (fun _ => 0))), (q31, .inl (cI, 26, .inl (fun _ => 0)))] ++ R) := hD
  refine lv_aload_n hx hb dX2_init_56 rfl (lv_at hl 0 rfl) ?_
  refine lv_iconst (v := 0) hx hb dX2_init_57 (by decide) ?_
  refine va_put (ci := 2) (v := .int 0) (ty := .int) (C := RX2) (T := TX2) (N := 11) hx hb hts hinX2 tyX2 tyX2_ok nmX2 hown hK hP hD hS 0 rfl rfl 8 (by decide) (hts (.fieldLink RX2 38 "TypingTutor$Lesson" "clean" "I") (List.mem_of_getElem? (i := 13) rfl)) (fun _ h9 => h9) rfl (by decide +kernel) rfl rfl (Nat.le_of_ble_eq_true rfl) dX2_init_58 (fun H locs hP hD hS => ?_)
  have hP : va_P D vwCl ([(a, .inr (2, [.ref q7, .ref q15, .ref q23, .ref q31, .int 0, .int 0, .int 0, .int 0, .int 0, .int 0, .int 0])), (q7, .inl (cI, 6, .inl (fun _ => 0))), (q15, .inl (cI, 48, .inl (fun _ => 0))), (q23, .inl (cI, 48, .inl (fun _ => 0))), (q31, .inl (cI, 26, .inl (fun _ => 0)))] ++ R) _ := hP
  have hD : va_D (zAb B) ([(a, .inr (2, [.ref q7, .ref q15, .ref q23, .ref q31, .int 0, .int 0, .int 0, .int 0, .int 0, .int 0, .int 0])), (q7, .inl (cI, 6, .inl (fun _ => 0))), (q15, .inl (cI, 48, .inl (fun _ => 0))), (q23, .inl (cI, 48, .inl (fun _ => 0))), (q31, .inl (cI, 26, .inl (fun _ => 0)))] ++ R) := hD
  refine lv_aload_n hx hb dX2_init_61 rfl (lv_at hl 0 rfl) ?_
  refine lv_iconst (v := 0) hx hb dX2_init_62 (by decide) ?_
  refine va_put (ci := 2) (v := .int 0) (ty := .int) (C := RX2) (T := TX2) (N := 11) hx hb hts hinX2 tyX2 tyX2_ok nmX2 hown hK hP hD hS 0 rfl rfl 9 (by decide) (hts (.fieldLink RX2 41 "TypingTutor$Lesson" "times" "I") (List.mem_of_getElem? (i := 14) rfl)) (fun _ h9 => h9) rfl (by decide +kernel) rfl rfl (Nat.le_of_ble_eq_true rfl) dX2_init_63 (fun H locs hP hD hS => ?_)
  have hP : va_P D vwCl ([(a, .inr (2, [.ref q7, .ref q15, .ref q23, .ref q31, .int 0, .int 0, .int 0, .int 0, .int 0, .int 0, .int 0])), (q7, .inl (cI, 6, .inl (fun _ => 0))), (q15, .inl (cI, 48, .inl (fun _ => 0))), (q23, .inl (cI, 48, .inl (fun _ => 0))), (q31, .inl (cI, 26, .inl (fun _ => 0)))] ++ R) _ := hP
  have hD : va_D (zAb B) ([(a, .inr (2, [.ref q7, .ref q15, .ref q23, .ref q31, .int 0, .int 0, .int 0, .int 0, .int 0, .int 0, .int 0])), (q7, .inl (cI, 6, .inl (fun _ => 0))), (q15, .inl (cI, 48, .inl (fun _ => 0))), (q23, .inl (cI, 48, .inl (fun _ => 0))), (q31, .inl (cI, 26, .inl (fun _ => 0)))] ++ R) := hD
  refine lv_aload_n hx hb dX2_init_66 rfl (lv_at hl 0 rfl) ?_
  refine lv_iconst (v := 0) hx hb dX2_init_67 (by decide) ?_
  refine va_put (ci := 2) (v := .int 0) (ty := .int) (C := RX2) (T := TX2) (N := 11) hx hb hts hinX2 tyX2 tyX2_ok nmX2 hown hK hP hD hS 0 rfl rfl 10 (by decide) (hts (.fieldLink RX2 44 "TypingTutor$Lesson" "misses" "I") (List.mem_of_getElem? (i := 15) rfl)) (fun _ h9 => h9) rfl (by decide +kernel) rfl rfl (Nat.le_of_ble_eq_true rfl) dX2_init_68 (fun H locs hP hD hS => ?_)
  have hP : va_P D vwCl ([(a, .inr (2, [.ref q7, .ref q15, .ref q23, .ref q31, .int 0, .int 0, .int 0, .int 0, .int 0, .int 0, .int 0])), (q7, .inl (cI, 6, .inl (fun _ => 0))), (q15, .inl (cI, 48, .inl (fun _ => 0))), (q23, .inl (cI, 48, .inl (fun _ => 0))), (q31, .inl (cI, 26, .inl (fun _ => 0)))] ++ R) _ := hP
  have hD : va_D (zAb B) ([(a, .inr (2, [.ref q7, .ref q15, .ref q23, .ref q31, .int 0, .int 0, .int 0, .int 0, .int 0, .int 0, .int 0])), (q7, .inl (cI, 6, .inl (fun _ => 0))), (q15, .inl (cI, 48, .inl (fun _ => 0))), (q23, .inl (cI, 48, .inl (fun _ => 0))), (q31, .inl (cI, 26, .inl (fun _ => 0)))] ++ R) := hD
  exact W.vret hx hb hr (fun t ht hW => ⟨⟨(fun (k : Nat) => if k = 0 then q7 else if k = 1 then q15 else if k = 2 then q23 else q31), rfl, trivial, by rw [ht]; exact hP, hD⟩, hS.F ht⟩) hS.2.2 dX2_init_71

set_option maxHeartbeats 1000000 in
set_option maxRecDepth 100000 in
theorem c_X0_init {l : Launch} {B kr kp : Nat} {D : va_G} {cI cJ cZ : ClassId}    {a : Nat} {R : va_W}   : Met l yX0_init wsX0_init ({ frames := 1, cells := 3, slots := 768, locals := 24 }) (zPc B kr kp D (zTy cI cJ cZ) ([(a, .inr (0, [.null, .null, .null, .int 0, .int 0, .int 0, .int 0]))] ++ R) [.ref a]) (zQvg B D (fun u => ([(a, .inr (0, [.ref (u 0), .ref (u 1), .ref (u 2), .int 0, .int 100, .int 0, .int 0])), ((u 0), .inl (cI, 256, .inl (fun _ => 0))), ((u 1), .inl (cI, 256, .inl (fun _ => 0))), ((u 2), .inl (cI, 256, .inl (fun _ => 0)))] ++ R))) 3 768 (zAb B) := by
  refine Met.ofW (cc := cX0_init) (maxL := 1) (ret := none) (by decide) rfl ?_
  intro p e s m args below meth c s₁ B0 hml hv
  obtain ⟨rfl, hP, hD, hK, hE, hB⟩ := hv
  have hx := B0.exec
  have hb := B0.bytes
  have hr := B0.returns
  have hts := atoms_spec (ws := wsX0_init) B0.pre
  have hown : s.vm.findClass RX0 = some m.cls := findClass_of_methodNamed B0.named
  have hlocks := B0.notSynchronized
  have hA : ∀ q : Nat, s.heap.size ≤ q → zAb B q := fun q hq => Nat.le_trans hB hq
  have hS : va_S (zAb B) s.heap s.heap [] := va_S.rf
  have hgr : s.heap.size ≤ s.heap.size := Nat.le_refl _
  have hl := lv_entry ([.ref a]) (n := 1) (Nat.le_of_ble_eq_true rfl)
  rw [lg_entry_eq]
  generalize (lg_sl ([.ref a]) ++ List.replicate (1 - (lg_sl ([.ref a])).length) Slot.unset).toArray = ls at hl ⊢
  have hl : lv_has ls 1 [(0, .ref a)] := hl
  have hinX0 : ∀ w ∈ wsX00, w ∈ wsX0_init := fun _ h => List.mem_cons_of_mem _ (List.mem_append_right _ h)
  have hP : va_P D vwCl ([(a, .inr (0, [.null, .null, .null, .int 0, .int 0, .int 0, .int 0]))] ++ R) s.heap := hP
  have hD : va_D (zAb B) ([(a, .inr (0, [.null, .null, .null, .int 0, .int 0, .int 0, .int 0]))] ++ R) := hD
  refine lv_aload_n hx hb dX0_init_0 rfl (lv_at hl 0 rfl) ?_
  have hin9 : meth.name = "<init>" := (name_of_methodNamed B0.named B0.method).1
  refine W.objInit hx hb hown (hts (.methodLink RX0 3 objectInit) (List.mem_of_getElem? (i := 1) rfl)) (hts (.instanceMethod objectInit) (List.mem_of_getElem? (i := 2) rfl)) (hts (.code objectInit ⟨#[0xb1]⟩ 1 none) (List.mem_of_getElem? (i := 3) rfl)) rfl (by rw [hml]; exact hl.1) rfl dX0_init_1 (Nat.le_of_ble_eq_true rfl) (Nat.le_of_ble_eq_true rfl) ?_
  refine lv_aload_n hx hb dX0_init_4 rfl (lv_at hl 0 rfl) ?_
  refine lv_sipush (v := 256) hx hb dX0_init_5 (by decide) ?_
  refine va_newa (atype := .int) (ty := .int) (N' := 256) (a0 := (256, .inl (fun _ => 0))) hx hb (hts (.arrayClass .int) (List.mem_of_getElem? (i := 4) rfl)) rfl hK hP hD hS hA (fun _ => rfl) (by decide) (by decide) (Nat.le_of_ble_eq_true rfl) (Nat.le_of_ble_eq_true rfl) (Nat.le_of_ble_eq_true rfl) dX0_init_8 (fun q8 cA H hK9 hP hD hS => ?_)
  obtain rfl : cI = cA := zcA_int hK hK9
  have hP : va_P D vwCl ([(a, .inr (0, [.null, .null, .null, .int 0, .int 0, .int 0, .int 0])), (q8, .inl (cI, 256, .inl (fun _ => 0)))] ++ R) H := hP.swap
  have hD : va_D (zAb B) ([(a, .inr (0, [.null, .null, .null, .int 0, .int 0, .int 0, .int 0])), (q8, .inl (cI, 256, .inl (fun _ => 0)))] ++ R) := hD.swap
  refine va_putF (ci := 0) (v := .ref q8) (ty := (.array .int)) (C := RX0) (T := TX0) (N := 7) hx hb hts hinX0 tyX0 tyX0_ok nmX0 hown hK hP hD hS 0 rfl rfl 0 (by decide) (hts (.fieldLink RX0 9 "TypingTutor$History" "letters" "[I") (List.mem_of_getElem? (i := 5) rfl)) (fun _ h9 => h9) rfl hin9 rfl (by decide +kernel) rfl rfl (Nat.le_of_ble_eq_true rfl) dX0_init_10 (fun H locs hP hD hS => ?_)
  have hP : va_P D vwCl ([(a, .inr (0, [.ref q8, .null, .null, .int 0, .int 0, .int 0, .int 0])), (q8, .inl (cI, 256, .inl (fun _ => 0)))] ++ R) _ := hP
  have hD : va_D (zAb B) ([(a, .inr (0, [.ref q8, .null, .null, .int 0, .int 0, .int 0, .int 0])), (q8, .inl (cI, 256, .inl (fun _ => 0)))] ++ R) := hD
  refine lv_aload_n hx hb dX0_init_13 rfl (lv_at hl 0 rfl) ?_
  refine lv_sipush (v := 256) hx hb dX0_init_14 (by decide) ?_
  refine va_newa (atype := .int) (ty := .int) (N' := 256) (a0 := (256, .inl (fun _ => 0))) hx hb (hts (.arrayClass .int) (List.mem_of_getElem? (i := 4) rfl)) rfl hK hP hD hS hA (fun _ => rfl) (by decide) (by decide) (Nat.le_of_ble_eq_true rfl) (Nat.le_of_ble_eq_true rfl) (Nat.le_of_ble_eq_true rfl) dX0_init_17 (fun q17 cA H hK9 hP hD hS => ?_)
  obtain rfl : cI = cA := zcA_int hK hK9
  have hP : va_P D vwCl ([(a, .inr (0, [.ref q8, .null, .null, .int 0, .int 0, .int 0, .int 0])), (q8, .inl (cI, 256, .inl (fun _ => 0))), (q17, .inl (cI, 256, .inl (fun _ => 0)))] ++ R) H := hP.swap
  have hD : va_D (zAb B) ([(a, .inr (0, [.ref q8, .null, .null, .int 0, .int 0, .int 0, .int 0])), (q8, .inl (cI, 256, .inl (fun _ => 0))), (q17, .inl (cI, 256, .inl (fun _ => 0)))] ++ R) := hD.swap
  refine va_putF (ci := 0) (v := .ref q17) (ty := (.array .int)) (C := RX0) (T := TX0) (N := 7) hx hb hts hinX0 tyX0 tyX0_ok nmX0 hown hK hP hD hS 0 rfl rfl 1 (by decide) (hts (.fieldLink RX0 15 "TypingTutor$History" "cleans" "[I") (List.mem_of_getElem? (i := 6) rfl)) (fun _ h9 => h9) rfl hin9 rfl (by decide +kernel) rfl rfl (Nat.le_of_ble_eq_true rfl) dX0_init_19 (fun H locs hP hD hS => ?_)
  have hP : va_P D vwCl ([(a, .inr (0, [.ref q8, .ref q17, .null, .int 0, .int 0, .int 0, .int 0])), (q8, .inl (cI, 256, .inl (fun _ => 0))), (q17, .inl (cI, 256, .inl (fun _ => 0)))] ++ R) _ := hP
  have hD : va_D (zAb B) ([(a, .inr (0, [.ref q8, .ref q17, .null, .int 0, .int 0, .int 0, .int 0])), (q8, .inl (cI, 256, .inl (fun _ => 0))), (q17, .inl (cI, 256, .inl (fun _ => 0)))] ++ R) := hD
  refine lv_aload_n hx hb dX0_init_22 rfl (lv_at hl 0 rfl) ?_
  refine lv_sipush (v := 256) hx hb dX0_init_23 (by decide) ?_
  refine va_newa (atype := .int) (ty := .int) (N' := 256) (a0 := (256, .inl (fun _ => 0))) hx hb (hts (.arrayClass .int) (List.mem_of_getElem? (i := 4) rfl)) rfl hK hP hD hS hA (fun _ => rfl) (by decide) (by decide) (Nat.le_of_ble_eq_true rfl) (Nat.le_of_ble_eq_true rfl) (Nat.le_of_ble_eq_true rfl) dX0_init_26 (fun q26 cA H hK9 hP hD hS => ?_)
  obtain rfl : cI = cA := zcA_int hK hK9
  have hP : va_P D vwCl ([(a, .inr (0, [.ref q8, .ref q17, .null, .int 0, .int 0, .int 0, .int 0])), (q8, .inl (cI, 256, .inl (fun _ => 0))), (q17, .inl (cI, 256, .inl (fun _ => 0))), (q26, .inl (cI, 256, .inl (fun _ => 0)))] ++ R) H := hP.swap
  have hD : va_D (zAb B) ([(a, .inr (0, [.ref q8, .ref q17, .null, .int 0, .int 0, .int 0, .int 0])), (q8, .inl (cI, 256, .inl (fun _ => 0))), (q17, .inl (cI, 256, .inl (fun _ => 0))), (q26, .inl (cI, 256, .inl (fun _ => 0)))] ++ R) := hD.swap
  refine va_putF (ci := 0) (v := .ref q26) (ty := (.array .int)) (C := RX0) (T := TX0) (N := 7) hx hb hts hinX0 tyX0 tyX0_ok nmX0 hown hK hP hD hS 0 rfl rfl 2 (by decide) (hts (.fieldLink RX0 18 "TypingTutor$History" "times" "[I") (List.mem_of_getElem? (i := 7) rfl)) (fun _ h9 => h9) rfl hin9 rfl (by decide +kernel) rfl rfl (Nat.le_of_ble_eq_true rfl) dX0_init_28 (fun H locs hP hD hS => ?_)
  have hP : va_P D vwCl ([(a, .inr (0, [.ref q8, .ref q17, .ref q26, .int 0, .int 0, .int 0, .int 0])), (q8, .inl (cI, 256, .inl (fun _ => 0))), (q17, .inl (cI, 256, .inl (fun _ => 0))), (q26, .inl (cI, 256, .inl (fun _ => 0)))] ++ R) _ := hP
  have hD : va_D (zAb B) ([(a, .inr (0, [.ref q8, .ref q17, .ref q26, .int 0, .int 0, .int 0, .int 0])), (q8, .inl (cI, 256, .inl (fun _ => 0))), (q17, .inl (cI, 256, .inl (fun _ => 0))), (q26, .inl (cI, 256, .inl (fun _ => 0)))] ++ R) := hD
  refine lv_aload_n hx hb dX0_init_31 rfl (lv_at hl 0 rfl) ?_
  refine lv_iconst (v := 0) hx hb dX0_init_32 (by decide) ?_
  refine va_put (ci := 0) (v := .int 0) (ty := .int) (C := RX0) (T := TX0) (N := 7) hx hb hts hinX0 tyX0 tyX0_ok nmX0 hown hK hP hD hS 0 rfl rfl 3 (by decide) (hts (.fieldLink RX0 21 "TypingTutor$History" "count" "I") (List.mem_of_getElem? (i := 8) rfl)) (fun _ h9 => h9) rfl (by decide +kernel) rfl rfl (Nat.le_of_ble_eq_true rfl) dX0_init_33 (fun H locs hP hD hS => ?_)
  have hP : va_P D vwCl ([(a, .inr (0, [.ref q8, .ref q17, .ref q26, .int 0, .int 0, .int 0, .int 0])), (q8, .inl (cI, 256, .inl (fun _ => 0))), (q17, .inl (cI, 256, .inl (fun _ => 0))), (q26, .inl (cI, 256, .inl (fun _ => 0)))] ++ R) _ := hP
  have hD : va_D (zAb B) ([(a, .inr (0, [.ref q8, .ref q17, .ref q26, .int 0, .int 0, .int 0, .int 0])), (q8, .inl (cI, 256, .inl (fun _ => 0))), (q17, .inl (cI, 256, .inl (fun _ => 0))), (q26, .inl (cI, 256, .inl (fun _ => 0)))] ++ R) := hD
  refine lv_aload_n hx hb dX0_init_36 rfl (lv_at hl 0 rfl) ?_
  refine lv_bipush (v := 100) hx hb dX0_init_37 (by decide) ?_
  refine va_put (ci := 0) (v := .int 100) (ty := .int) (C := RX0) (T := TX0) (N := 7) hx hb hts hinX0 tyX0 tyX0_ok nmX0 hown hK hP hD hS 0 rfl rfl 4 (by decide) (hts (.fieldLink RX0 25 "TypingTutor$History" "pace" "I") (List.mem_of_getElem? (i := 9) rfl)) (fun _ h9 => h9) rfl (by decide +kernel) rfl rfl (Nat.le_of_ble_eq_true rfl) dX0_init_39 (fun H locs hP hD hS => ?_)
  have hP : va_P D vwCl ([(a, .inr (0, [.ref q8, .ref q17, .ref q26, .int 0, .int 100, .int 0, .int 0])), (q8, .inl (cI, 256, .inl (fun _ => 0))), (q17, .inl (cI, 256, .inl (fun _ => 0))), (q26, .inl (cI, 256, .inl (fun _ => 0)))] ++ R) _ := hP
  have hD : va_D (zAb B) ([(a, .inr (0, [.ref q8, .ref q17, .ref q26, .int 0, .int 100, .int 0, .int 0])), (q8, .inl (cI, 256, .inl (fun _ => 0))), (q17, .inl (cI, 256, .inl (fun _ => 0))), (q26, .inl (cI, 256, .inl (fun _ => 0)))] ++ R) := hD
  refine lv_aload_n hx hb dX0_init_42 rfl (lv_at hl 0 rfl) ?_
  refine lv_iconst (v := 0) hx hb dX0_init_43 (by decide) ?_
  refine va_put (ci := 0) (v := .int 0) (ty := .int) (C := RX0) (T := TX0) (N := 7) hx hb hts hinX0 tyX0 tyX0_ok nmX0 hown hK hP hD hS 0 rfl rfl 5 (by decide) (hts (.fieldLink RX0 28 "TypingTutor$History" "letterSum" "I") (List.mem_of_getElem? (i := 10) rfl)) (fun _ h9 => h9) rfl (by decide +kernel) rfl rfl (Nat.le_of_ble_eq_true rfl) dX0_init_44 (fun H locs hP hD hS => ?_)
  have hP : va_P D vwCl ([(a, .inr (0, [.ref q8, .ref q17, .ref q26, .int 0, .int 100, .int 0, .int 0])), (q8, .inl (cI, 256, .inl (fun _ => 0))), (q17, .inl (cI, 256, .inl (fun _ => 0))), (q26, .inl (cI, 256, .inl (fun _ => 0)))] ++ R) _ := hP
  have hD : va_D (zAb B) ([(a, .inr (0, [.ref q8, .ref q17, .ref q26, .int 0, .int 100, .int 0, .int 0])), (q8, .inl (cI, 256, .inl (fun _ => 0))), (q17, .inl (cI, 256, .inl (fun _ => 0))), (q26, .inl (cI, 256, .inl (fun _ => 0)))] ++ R) := hD
  refine lv_aload_n hx hb dX0_init_47 rfl (lv_at hl 0 rfl) ?_
  refine lv_iconst (v := 0) hx hb dX0_init_48 (by decide) ?_
  refine va_put (ci := 0) (v := .int 0) (ty := .int) (C := RX0) (T := TX0) (N := 7) hx hb hts hinX0 tyX0 tyX0_ok nmX0 hown hK hP hD hS 0 rfl rfl 6 (by decide) (hts (.fieldLink RX0 31 "TypingTutor$History" "cleanSum" "I") (List.mem_of_getElem? (i := 11) rfl)) (fun _ h9 => h9) rfl (by decide +kernel) rfl rfl (Nat.le_of_ble_eq_true rfl) dX0_init_49 (fun H locs hP hD hS => ?_)
  have hP : va_P D vwCl ([(a, .inr (0, [.ref q8, .ref q17, .ref q26, .int 0, .int 100, .int 0, .int 0])), (q8, .inl (cI, 256, .inl (fun _ => 0))), (q17, .inl (cI, 256, .inl (fun _ => 0))), (q26, .inl (cI, 256, .inl (fun _ => 0)))] ++ R) _ := hP
  have hD : va_D (zAb B) ([(a, .inr (0, [.ref q8, .ref q17, .ref q26, .int 0, .int 100, .int 0, .int 0])), (q8, .inl (cI, 256, .inl (fun _ => 0))), (q17, .inl (cI, 256, .inl (fun _ => 0))), (q26, .inl (cI, 256, .inl (fun _ => 0)))] ++ R) := hD
  exact W.vret hx hb hr (fun t ht hW => ⟨⟨(fun (k : Nat) => if k = 0 then q8 else if k = 1 then q17 else q26), rfl, trivial, by rw [ht]; exact hP, hD⟩, hS.F ht⟩) hS.2.2 dX0_init_52

set_option maxHeartbeats 1000000 in
set_option maxRecDepth 100000 in
theorem c_X4_init {l : Launch} {B kr kp : Nat} {D : va_G} {cI cJ cZ : ClassId}    {a : Nat}   : Met l yX4_init wsX4_init ({ frames := 2, cells := 20, slots := 3073, locals := 46 }) (zPc B kr kp D (zTy cI cJ cZ) ([(a, .inr (4, [.null, .null, .null, .null, .null, .null]))] : va_W) [.ref a]) (zQvg B D (fun h => (zWT cI cJ h (0, (fun _ => 0)) ((fun _ => 0), (fun _ => 0), (zfil 26 500 (fun _ => 0))) ((fun _ => 0), (fun _ => 0), (zfil 676 500 (fun _ => 0))) ((fun _ => 0), (fun _ => 0), (fun _ => 0), (fun _ => 0), false, 0, 0, 0, 0, 0, 0) ((fun _ => 0), (fun _ => 0), (fun _ => 0), 0, 100, 0, 0) (fun _ => 0)))) 20 3073 (zAb B) := by
  refine Met.ofW (cc := cX4_init) (maxL := 1) (ret := none) (by decide) rfl ?_
  intro p e s m args below meth c s₁ B0 hml hv
  obtain ⟨rfl, hP, hD, hK, hE, hB⟩ := hv
  have hx := B0.exec
  have hb := B0.bytes
  have hr := B0.returns
  have hts := atoms_spec (ws := wsX4_init) B0.pre
  have hown : s.vm.findClass RX4 = some m.cls := findClass_of_methodNamed B0.named
  have hlocks := B0.notSynchronized
  have hA : ∀ q : Nat, s.heap.size ≤ q → zAb B q := fun q hq => Nat.le_trans hB hq
  have hS : va_S (zAb B) s.heap s.heap [] := va_S.rf
  have hgr : s.heap.size ≤ s.heap.size := Nat.le_refl _
  have hl := lv_entry ([.ref a]) (n := 1) (Nat.le_of_ble_eq_true rfl)
  rw [lg_entry_eq]
  generalize (lg_sl ([.ref a]) ++ List.replicate (1 - (lg_sl ([.ref a])).length) Slot.unset).toArray = ls at hl ⊢
  have hl : lv_has ls 1 [(0, .ref a)] := hl
  have hinX0 : ∀ w ∈ wsX00, w ∈ wsX4_init := fun _ h => List.mem_cons_of_mem _ (List.mem_append_right _ h)
  have hinX1 : ∀ w ∈ wsX10, w ∈ wsX4_init := fun _ h => List.mem_cons_of_mem _ (List.mem_append_left _ (List.mem_append_left _ (List.mem_append_right _ h)))
  have hinX2 : ∀ w ∈ wsX20, w ∈ wsX4_init := fun _ h => List.mem_cons_of_mem _ (List.mem_append_left _ (List.mem_append_right _ h))
  have hinX3 : ∀ w ∈ wsX30, w ∈ wsX4_init := fun _ h => List.mem_cons_of_mem _ (List.mem_append_left _ (List.mem_append_left _ (List.mem_append_left _ (List.mem_append_left _ (List.mem_append_right _ h)))))
  have hinX4 : ∀ w ∈ wsX40, w ∈ wsX4_init := fun _ h => List.mem_cons_of_mem _ (List.mem_append_left _ (List.mem_append_left _ (List.mem_append_left _ (List.mem_append_right _ h))))
  have hP : va_P D vwCl ([(a, .inr (4, [.null, .null, .null, .null, .null, .null]))] : va_W) s.heap := hP
  have hD : va_D (zAb B) ([(a, .inr (4, [.null, .null, .null, .null, .null, .null]))] : va_W) := hD
  refine lv_aload_n hx hb dX4_init_0 rfl (lv_at hl 0 rfl) ?_
  have hin9 : meth.name = "<init>" := (name_of_methodNamed B0.named B0.method).1
  refine W.objInit hx hb hown (hts (.methodLink RX4 3 objectInit) (List.mem_of_getElem? (i := 1) rfl)) (hts (.instanceMethod objectInit) (List.mem_of_getElem? (i := 2) rfl)) (hts (.code objectInit ⟨#[0xb1]⟩ 1 none) (List.mem_of_getElem? (i := 3) rfl)) rfl (by rw [hml]; exact hl.1) rfl dX4_init_1 (Nat.le_of_ble_eq_true rfl) (Nat.le_of_ble_eq_true rfl) ?_
  refine lv_aload_n hx hb dX4_init_4 rfl (lv_at hl 0 rfl) ?_
  refine va_new (ci := 3) (fs := [.null, .int 0]) (C := RX3) (T := TX3) (N := 2) hx hb hts hinX3 tyX3 tyX3_ok hown (hts (.classLink RX4 9 RX3) (List.mem_of_getElem? (i := 4) rfl)) (hts (.instantiable RX3 2) (List.mem_of_getElem? (i := 5) rfl)) (hts (.initialized RX3) (List.mem_of_getElem? (i := 6) rfl)) hK hP hD hS hA rfl (fun j hj => by rcases (show j = 0 ∨ j = 1 by omega) with rfl | rfl <;> rfl) (Nat.le_of_ble_eq_true rfl) (Nat.le_of_ble_eq_true rfl) dX4_init_5 (fun q5 H hP hD hS => ?_)
  have hP : va_P D vwCl ([(a, .inr (4, [.null, .null, .null, .null, .null, .null])), (q5, .inr (3, [.null, .int 0]))] : va_W) _ := hP
  have hD : va_D (zAb B) ([(a, .inr (4, [.null, .null, .null, .null, .null, .null])), (q5, .inr (3, [.null, .int 0]))] : va_W) := hD
  refine lv_dup hx hb dX4_init_8 rfl ?_
  have hP9 : va_P D vwCl ([(q5, .inr (3, [.null, .int 0]))] ++ [(a, .inr (4, [.null, .null, .null, .null, .null, .null]))]) H := hP.sub [1, 0] rfl
  have hD9 : va_D (zAb B) ([(q5, .inr (3, [.null, .int 0]))] ++ [(a, .inr (4, [.null, .null, .null, .null, .null, .null]))]) := hD.sub [1, 0] (by decide) rfl
  refine zcvg (va_runIN (As := []) (rest := [.ref q5, .ref a]) ⟨hx, hb, hml, hown, hts⟩ (c_X3_init) ⟨va_cnB 0 hts gX4_init_X3_init_n11 rfl rfl rfl (hE.1 _ (List.mem_of_getElem? (i := 0) rfl)) (hts (.initialized RX3) (List.mem_of_getElem? (i := 6) rfl)) hds_X3_init ⟨Nat.le_of_ble_eq_true rfl, Nat.le_of_ble_eq_true rfl⟩, rfl, (hts (.instanceMethod yX3_init) (List.mem_of_getElem? (i := 23) rfl))⟩ (zS hP9 hD9 hK hE hB hS) rfl rfl hl.1 rfl (lv_room (Nat.le_of_ble_eq_true rfl)) dX4_init_9 ⟨Nat.le_of_ble_eq_true rfl, Nat.le_of_ble_eq_true rfl⟩) hS (fun u1 H locs hP hD hS => ?_)
  have hP : va_P D vwCl ([(q5, .inr (3, [.ref (u1 0), .int 0])), ((u1 0), .inl (cJ, 40, .inr (.inl (fun _ => 0)))), (a, .inr (4, [.null, .null, .null, .null, .null, .null]))] : va_W) H := hP
  have hD : va_D (zAb B) ([(q5, .inr (3, [.ref (u1 0), .int 0])), ((u1 0), .inl (cJ, 40, .inr (.inl (fun _ => 0)))), (a, .inr (4, [.null, .null, .null, .null, .null, .null]))] : va_W) := hD
  refine va_putF (ci := 4) (v := .ref q5) (ty := (.object "TypingTutor$WordList")) (C := RX4) (T := TX4) (N := 6) hx hb hts hinX4 tyX4 tyX4_ok nmX4 hown hK hP hD hS 2 rfl rfl 0 (by decide) (hts (.fieldLink RX4 12 "TypingTutor" "list" "LTypingTutor$WordList;") (List.mem_of_getElem? (i := 7) rfl)) (fun _ h9 => h9) rfl hin9 rfl (by decide +kernel) rfl rfl (Nat.le_of_ble_eq_true rfl) dX4_init_12 (fun H locs hP hD hS => ?_)
  have hP : va_P D vwCl ([(q5, .inr (3, [.ref (u1 0), .int 0])), ((u1 0), .inl (cJ, 40, .inr (.inl (fun _ => 0)))), (a, .inr (4, [.ref q5, .null, .null, .null, .null, .null]))] : va_W) _ := hP
  have hD : va_D (zAb B) ([(q5, .inr (3, [.ref (u1 0), .int 0])), ((u1 0), .inl (cJ, 40, .inr (.inl (fun _ => 0)))), (a, .inr (4, [.ref q5, .null, .null, .null, .null, .null]))] : va_W) := hD
  refine lv_aload_n hx hb dX4_init_15 rfl (lv_at hl 0 rfl) ?_
  refine va_new (ci := 1) (fs := [.null, .null, .null]) (C := RX1) (T := TX1) (N := 3) hx hb hts hinX1 tyX1 tyX1_ok hown (hts (.classLink RX4 16 RX1) (List.mem_of_getElem? (i := 8) rfl)) (hts (.instantiable RX1 3) (List.mem_of_getElem? (i := 9) rfl)) (hts (.initialized RX1) (List.mem_of_getElem? (i := 10) rfl)) hK hP hD hS hA rfl (fun j hj => by rcases (show j = 0 ∨ j = 1 ∨ j = 2 by omega) with rfl | rfl | rfl <;> rfl) (Nat.le_of_ble_eq_true rfl) (Nat.le_of_ble_eq_true rfl) dX4_init_16 (fun q16 H hP hD hS => ?_)
  have hP : va_P D vwCl ([(q5, .inr (3, [.ref (u1 0), .int 0])), ((u1 0), .inl (cJ, 40, .inr (.inl (fun _ => 0)))), (a, .inr (4, [.ref q5, .null, .null, .null, .null, .null])), (q16, .inr (1, [.null, .null, .null]))] : va_W) _ := hP
  have hD : va_D (zAb B) ([(q5, .inr (3, [.ref (u1 0), .int 0])), ((u1 0), .inl (cJ, 40, .inr (.inl (fun _ => 0)))), (a, .inr (4, [.ref q5, .null, .null, .null, .null, .null])), (q16, .inr (1, [.null, .null, .null]))] : va_W) := hD
  refine lv_dup hx hb dX4_init_19 rfl ?_
  refine lv_bipush (v := 26) hx hb dX4_init_20 (by decide) ?_
  have hP9 : va_P D vwCl ([(q16, .inr (1, [.null, .null, .null]))] ++ [(q5, .inr (3, [.ref (u1 0), .int 0])), ((u1 0), .inl (cJ, 40, .inr (.inl (fun _ => 0)))), (a, .inr (4, [.ref q5, .null, .null, .null, .null, .null]))]) H := hP.sub [3, 0, 1, 2] rfl
  have hD9 : va_D (zAb B) ([(q16, .inr (1, [.null, .null, .null]))] ++ [(q5, .inr (3, [.ref (u1 0), .int 0])), ((u1 0), .inl (cJ, 40, .inr (.inl (fun _ => 0)))), (a, .inr (4, [.ref q5, .null, .null, .null, .null, .null]))]) := hD.sub [3, 0, 1, 2] (by decide) rfl
  refine zcvg (va_runI (As := [.int 26]) (rest := [.ref q16, .ref a]) ⟨hx, hb, hml, hown, hts⟩ (c_X1_init_k) (cwI 1 hts gX4_init_X1_init rfl rfl rfl (hts (.initialized RX1) (List.mem_of_getElem? (i := 10) rfl)) (hts (.methodLink RX4 18 yX1_init) (List.mem_of_getElem? (i := 29) rfl)) (hts (.instanceMethod yX1_init) (List.mem_of_getElem? (i := 30) rfl)) rfl hds_X1_init ⟨Nat.le_of_ble_eq_true rfl, Nat.le_of_ble_eq_true rfl⟩) (zS hP9 hD9 hK hE hB hS) rfl rfl hl.1 rfl (lv_room (Nat.le_of_ble_eq_true rfl)) dX4_init_22 ⟨Nat.le_of_ble_eq_true rfl, Nat.le_of_ble_eq_true rfl⟩) hS (fun u2 H locs hP hD hS => ?_)
  have hP : va_P D vwCl ([(q16, .inr (1, [.ref (u2 0), .ref (u2 1), .ref (u2 2)])), ((u2 0), .inl (cI, 26, .inl (fun _ => 0))), ((u2 1), .inl (cI, 26, .inl (fun _ => 0))), ((u2 2), .inl (cI, 26, .inl (zfil 26 500 (fun _ => 0)))), (q5, .inr (3, [.ref (u1 0), .int 0])), ((u1 0), .inl (cJ, 40, .inr (.inl (fun _ => 0)))), (a, .inr (4, [.ref q5, .null, .null, .null, .null, .null]))] : va_W) H := hP
  have hD : va_D (zAb B) ([(q16, .inr (1, [.ref (u2 0), .ref (u2 1), .ref (u2 2)])), ((u2 0), .inl (cI, 26, .inl (fun _ => 0))), ((u2 1), .inl (cI, 26, .inl (fun _ => 0))), ((u2 2), .inl (cI, 26, .inl (zfil 26 500 (fun _ => 0)))), (q5, .inr (3, [.ref (u1 0), .int 0])), ((u1 0), .inl (cJ, 40, .inr (.inl (fun _ => 0)))), (a, .inr (4, [.ref q5, .null, .null, .null, .null, .null]))] : va_W) := hD
  refine va_putF (ci := 4) (v := .ref q16) (ty := (.object "TypingTutor$Knowledge")) (C := RX4) (T := TX4) (N := 6) hx hb hts hinX4 tyX4 tyX4_ok nmX4 hown hK hP hD hS 6 rfl rfl 1 (by decide) (hts (.fieldLink RX4 21 "TypingTutor" "keys" "LTypingTutor$Knowledge;") (List.mem_of_getElem? (i := 11) rfl)) (fun _ h9 => h9) rfl hin9 rfl (by decide +kernel) rfl rfl (Nat.le_of_ble_eq_true rfl) dX4_init_25 (fun H locs hP hD hS => ?_)
  have hP : va_P D vwCl ([(q16, .inr (1, [.ref (u2 0), .ref (u2 1), .ref (u2 2)])), ((u2 0), .inl (cI, 26, .inl (fun _ => 0))), ((u2 1), .inl (cI, 26, .inl (fun _ => 0))), ((u2 2), .inl (cI, 26, .inl (zfil 26 500 (fun _ => 0)))), (q5, .inr (3, [.ref (u1 0), .int 0])), ((u1 0), .inl (cJ, 40, .inr (.inl (fun _ => 0)))), (a, .inr (4, [.ref q5, .ref q16, .null, .null, .null, .null]))] : va_W) _ := hP
  have hD : va_D (zAb B) ([(q16, .inr (1, [.ref (u2 0), .ref (u2 1), .ref (u2 2)])), ((u2 0), .inl (cI, 26, .inl (fun _ => 0))), ((u2 1), .inl (cI, 26, .inl (fun _ => 0))), ((u2 2), .inl (cI, 26, .inl (zfil 26 500 (fun _ => 0)))), (q5, .inr (3, [.ref (u1 0), .int 0])), ((u1 0), .inl (cJ, 40, .inr (.inl (fun _ => 0)))), (a, .inr (4, [.ref q5, .ref q16, .null, .null, .null, .null]))] : va_W) := hD
  refine lv_aload_n hx hb dX4_init_28 rfl (lv_at hl 0 rfl) ?_
  refine va_new (ci := 1) (fs := [.null, .null, .null]) (C := RX1) (T := TX1) (N := 3) hx hb hts hinX1 tyX1 tyX1_ok hown (hts (.classLink RX4 16 RX1) (List.mem_of_getElem? (i := 8) rfl)) (hts (.instantiable RX1 3) (List.mem_of_getElem? (i := 9) rfl)) (hts (.initialized RX1) (List.mem_of_getElem? (i := 10) rfl)) hK hP hD hS hA rfl (fun j hj => by rcases (show j = 0 ∨ j = 1 ∨ j = 2 by omega) with rfl | rfl | rfl <;> rfl) (Nat.le_of_ble_eq_true rfl) (Nat.le_of_ble_eq_true rfl) dX4_init_29 (fun q29 H hP hD hS => ?_)
  have hP : va_P D vwCl ([(q16, .inr (1, [.ref (u2 0), .ref (u2 1), .ref (u2 2)])), ((u2 0), .inl (cI, 26, .inl (fun _ => 0))), ((u2 1), .inl (cI, 26, .inl (fun _ => 0))), ((u2 2), .inl (cI, 26, .inl (zfil 26 500 (fun _ => 0)))), (q5, .inr (3, [.ref (u1 0), .int 0])), ((u1 0), .inl (cJ, 40, .inr (.inl (fun _ => 0)))), (a, .inr (4, [.ref q5, .ref q16, .null, .null, .null, .null])), (q29, .inr (1, [.null, .null, .null]))] : va_W) _ := hP
  have hD : va_D (zAb B) ([(q16, .inr (1, [.ref (u2 0), .ref (u2 1), .ref (u2 2)])), ((u2 0), .inl (cI, 26, .inl (fun _ => 0))), ((u2 1), .inl (cI, 26, .inl (fun _ => 0))), ((u2 2), .inl (cI, 26, .inl (zfil 26 500 (fun _ => 0)))), (q5, .inr (3, [.ref (u1 0), .int 0])), ((u1 0), .inl (cJ, 40, .inr (.inl (fun _ => 0)))), (a, .inr (4, [.ref q5, .ref q16, .null, .null, .null, .null])), (q29, .inr (1, [.null, .null, .null]))] : va_W) := hD
  refine lv_dup hx hb dX4_init_32 rfl ?_
  refine lv_sipush (v := 676) hx hb dX4_init_33 (by decide) ?_
  have hP9 : va_P D vwCl ([(q29, .inr (1, [.null, .null, .null]))] ++ [(q16, .inr (1, [.ref (u2 0), .ref (u2 1), .ref (u2 2)])), ((u2 0), .inl (cI, 26, .inl (fun _ => 0))), ((u2 1), .inl (cI, 26, .inl (fun _ => 0))), ((u2 2), .inl (cI, 26, .inl (zfil 26 500 (fun _ => 0)))), (q5, .inr (3, [.ref (u1 0), .int 0])), ((u1 0), .inl (cJ, 40, .inr (.inl (fun _ => 0)))), (a, .inr (4, [.ref q5, .ref q16, .null, .null, .null, .null]))]) H := hP.sub [7, 0, 1, 2, 3, 4, 5, 6] rfl
  have hD9 : va_D (zAb B) ([(q29, .inr (1, [.null, .null, .null]))] ++ [(q16, .inr (1, [.ref (u2 0), .ref (u2 1), .ref (u2 2)])), ((u2 0), .inl (cI, 26, .inl (fun _ => 0))), ((u2 1), .inl (cI, 26, .inl (fun _ => 0))), ((u2 2), .inl (cI, 26, .inl (zfil 26 500 (fun _ => 0)))), (q5, .inr (3, [.ref (u1 0), .int 0])), ((u1 0), .inl (cJ, 40, .inr (.inl (fun _ => 0)))), (a, .inr (4, [.ref q5, .ref q16, .null, .null, .null, .null]))]) := hD.sub [7, 0, 1, 2, 3, 4, 5, 6] (by decide) rfl
  refine zcvg (va_runI (As := [.int 676]) (rest := [.ref q29, .ref a]) ⟨hx, hb, hml, hown, hts⟩ (c_X1_init_p) (cwI 1 hts gX4_init_X1_init rfl rfl rfl (hts (.initialized RX1) (List.mem_of_getElem? (i := 10) rfl)) (hts (.methodLink RX4 18 yX1_init) (List.mem_of_getElem? (i := 29) rfl)) (hts (.instanceMethod yX1_init) (List.mem_of_getElem? (i := 30) rfl)) rfl hds_X1_init ⟨Nat.le_of_ble_eq_true rfl, Nat.le_of_ble_eq_true rfl⟩) (zS hP9 hD9 hK hE hB hS) rfl rfl hl.1 rfl (lv_room (Nat.le_of_ble_eq_true rfl)) dX4_init_36 ⟨Nat.le_of_ble_eq_true rfl, Nat.le_of_ble_eq_true rfl⟩) hS (fun u3 H locs hP hD hS => ?_)
  have hP : va_P D vwCl ([(q29, .inr (1, [.ref (u3 0), .ref (u3 1), .ref (u3 2)])), ((u3 0), .inl (cI, 676, .inl (fun _ => 0))), ((u3 1), .inl (cI, 676, .inl (fun _ => 0))), ((u3 2), .inl (cI, 676, .inl (zfil 676 500 (fun _ => 0)))), (q16, .inr (1, [.ref (u2 0), .ref (u2 1), .ref (u2 2)])), ((u2 0), .inl (cI, 26, .inl (fun _ => 0))), ((u2 1), .inl (cI, 26, .inl (fun _ => 0))), ((u2 2), .inl (cI, 26, .inl (zfil 26 500 (fun _ => 0)))), (q5, .inr (3, [.ref (u1 0), .int 0])), ((u1 0), .inl (cJ, 40, .inr (.inl (fun _ => 0)))), (a, .inr (4, [.ref q5, .ref q16, .null, .null, .null, .null]))] : va_W) H := hP
  have hD : va_D (zAb B) ([(q29, .inr (1, [.ref (u3 0), .ref (u3 1), .ref (u3 2)])), ((u3 0), .inl (cI, 676, .inl (fun _ => 0))), ((u3 1), .inl (cI, 676, .inl (fun _ => 0))), ((u3 2), .inl (cI, 676, .inl (zfil 676 500 (fun _ => 0)))), (q16, .inr (1, [.ref (u2 0), .ref (u2 1), .ref (u2 2)])), ((u2 0), .inl (cI, 26, .inl (fun _ => 0))), ((u2 1), .inl (cI, 26, .inl (fun _ => 0))), ((u2 2), .inl (cI, 26, .inl (zfil 26 500 (fun _ => 0)))), (q5, .inr (3, [.ref (u1 0), .int 0])), ((u1 0), .inl (cJ, 40, .inr (.inl (fun _ => 0)))), (a, .inr (4, [.ref q5, .ref q16, .null, .null, .null, .null]))] : va_W) := hD
  refine va_putF (ci := 4) (v := .ref q29) (ty := (.object "TypingTutor$Knowledge")) (C := RX4) (T := TX4) (N := 6) hx hb hts hinX4 tyX4 tyX4_ok nmX4 hown hK hP hD hS 10 rfl rfl 2 (by decide) (hts (.fieldLink RX4 25 "TypingTutor" "pairs" "LTypingTutor$Knowledge;") (List.mem_of_getElem? (i := 12) rfl)) (fun _ h9 => h9) rfl hin9 rfl (by decide +kernel) rfl rfl (Nat.le_of_ble_eq_true rfl) dX4_init_39 (fun H locs hP hD hS => ?_)
  have hP : va_P D vwCl ([(q29, .inr (1, [.ref (u3 0), .ref (u3 1), .ref (u3 2)])), ((u3 0), .inl (cI, 676, .inl (fun _ => 0))), ((u3 1), .inl (cI, 676, .inl (fun _ => 0))), ((u3 2), .inl (cI, 676, .inl (zfil 676 500 (fun _ => 0)))), (q16, .inr (1, [.ref (u2 0), .ref (u2 1), .ref (u2 2)])), ((u2 0), .inl (cI, 26, .inl (fun _ => 0))), ((u2 1), .inl (cI, 26, .inl (fun _ => 0))), ((u2 2), .inl (cI, 26, .inl (zfil 26 500 (fun _ => 0)))), (q5, .inr (3, [.ref (u1 0), .int 0])), ((u1 0), .inl (cJ, 40, .inr (.inl (fun _ => 0)))), (a, .inr (4, [.ref q5, .ref q16, .ref q29, .null, .null, .null]))] : va_W) _ := hP
  have hD : va_D (zAb B) ([(q29, .inr (1, [.ref (u3 0), .ref (u3 1), .ref (u3 2)])), ((u3 0), .inl (cI, 676, .inl (fun _ => 0))), ((u3 1), .inl (cI, 676, .inl (fun _ => 0))), ((u3 2), .inl (cI, 676, .inl (zfil 676 500 (fun _ => 0)))), (q16, .inr (1, [.ref (u2 0), .ref (u2 1), .ref (u2 2)])), ((u2 0), .inl (cI, 26, .inl (fun _ => 0))), ((u2 1), .inl (cI, 26, .inl (fun _ => 0))), ((u2 2), .inl (cI, 26, .inl (zfil 26 500 (fun _ => 0)))), (q5, .inr (3, [.ref (u1 0), .int 0])), ((u1 0), .inl (cJ, 40, .inr (.inl (fun _ => 0)))), (a, .inr (4, [.ref q5, .ref q16, .ref q29, .null, .null, .null]))] : va_W) := hD
  refine lv_aload_n hx hb dX4_init_42 rfl (lv_at hl 0 rfl) ?_
  refine va_new (ci := 2) (fs := [.null, .null, .null, .null, .int 0, .int 0, .int 0, .int 0, .int 0, .int 0, .int 0]) (C := RX2) (T := TX2) (N := 11) hx hb hts hinX2 tyX2 tyX2_ok hown (hts (.classLink RX4 28 RX2) (List.mem_of_getElem? (i := 13) rfl)) (hts (.instantiable RX2 11) (List.mem_of_getElem? (i := 14) rfl)) (hts (.initialized RX2) (List.mem_of_getElem? (i := 15) rfl)) hK hP hD hS hA rfl (fun j hj => by rcases (show j = 0 ∨ j = 1 ∨ j = 2 ∨ j = 3 ∨ j = 4 ∨ j = 5 ∨ j = 6 ∨ j = 7 ∨ j = 8 ∨ j = 9 ∨ j = 10 by omega) with rfl | rfl | rfl | rfl | rfl | rfl | rfl | rfl | rfl | rfl | rfl <;> rfl) (Nat.le_of_ble_eq_true rfl) (Nat.le_of_ble_eq_true rfl) dX4_init_43 (fun q43 H hP hD hS => ?_)
  have hP : va_P D vwCl ([(q29, .inr (1, [.ref (u3 0), .ref (u3 1), .ref (u3 2)])), ((u3 0), .inl (cI, 676, .inl (fun _ => 0))), ((u3 1), .inl (cI, 676, .inl (fun _ => 0))), ((u3 2), .inl (cI, 676, .inl (zfil 676 500 (fun _ => 0)))), (q16, .inr (1, [.ref (u2 0), .ref (u2 1), .ref (u2 2)])), ((u2 0), .inl (cI, 26, .inl (fun _ => 0))), ((u2 1), .inl (cI, 26, .inl (fun _ => 0))), ((u2 2), .inl (cI, 26, .inl (zfil 26 500 (fun _ => 0)))), (q5, .inr (3, [.ref (u1 0), .int 0])), ((u1 0), .inl (cJ, 40, .inr (.inl (fun _ => 0)))), (a, .inr (4, [.ref q5, .ref q16, .ref q29, .null, .null, .null])), (q43, .inr (2, [.null, .null, .null, .null, .int 0, .int 0, .int 0, .int 0, .int 0, .int 0, .int 0]))] : va_W) _ := hP
  have hD : va_D (zAb B) ([(q29, .inr (1, [.ref (u3 0), .ref (u3 1), .ref (u3 2)])), ((u3 0), .inl (cI, 676, .inl (fun _ => 0))), ((u3 1), .inl (cI, 676, .inl (fun _ => 0))), ((u3 2), .inl (cI, 676, .inl (zfil 676 500 (fun _ => 0)))), (q16, .inr (1, [.ref (u2 0), .ref (u2 1), .ref (u2 2)])), ((u2 0), .inl (cI, 26, .inl (fun _ => 0))), ((u2 1), .inl (cI, 26, .inl (fun _ => 0))), ((u2 2), .inl (cI, 26, .inl (zfil 26 500 (fun _ => 0)))), (q5, .inr (3, [.ref (u1 0), .int 0])), ((u1 0), .inl (cJ, 40, .inr (.inl (fun _ => 0)))), (a, .inr (4, [.ref q5, .ref q16, .ref q29, .null, .null, .null])), (q43, .inr (2, [.null, .null, .null, .null, .int 0, .int 0, .int 0, .int 0, .int 0, .int 0, .int 0]))] : va_W) := hD
  refine lv_dup hx hb dX4_init_46 rfl ?_
  have hP9 : va_P D vwCl ([(q43, .inr (2, [.null, .null, .null, .null, .int 0, .int 0, .int 0, .int 0, .int 0, .int 0, .int 0]))] ++ [(q29, .inr (1, [.ref (u3 0), .ref (u3 1), .ref (u3 2)])), ((u3 0), .inl (cI, 676, .inl (fun _ => 0))), ((u3 1), .inl (cI, 676, .inl (fun _ => 0))), ((u3 2), .inl (cI, 676, .inl (zfil 676 500 (fun _ => 0)))), (q16, .inr (1, [.ref (u2 0), .ref (u2 1), .ref (u2 2)])), ((u2 0), .inl (cI, 26, .inl (fun _ => 0))), ((u2 1), .inl (cI, 26, .inl (fun _ => 0))), ((u2 2), .inl (cI, 26, .inl (zfil 26 500 (fun _ => 0)))), (q5, .inr (3, [.ref (u1 0), .int 0])), ((u1 0), .inl (cJ, 40, .inr (.inl (fun _ => 0)))), (a, .inr (4, [.ref q5, .ref q16, .ref q29, .null, .null, .null]))]) H := hP.sub [11, 0, 1, 2, 3, 4, 5, 6, 7, 8, 9, 10] rfl
  have hD9 : va_D (zAb B) ([(q43, .inr (2, [.null, .null, .null, .null, .int 0, .int 0, .int 0, .int 0, .int 0, .int 0, .int 0]))] ++ [(q29, .inr (1, [.ref (u3 0), .ref (u3 1), .ref (u3 2)])), ((u3 0), .inl (cI, 676, .inl (fun _ => 0))), ((u3 1), .inl (cI, 676, .inl (fun _ => 0))), ((u3 2), .inl (cI, 676, .inl (zfil 676 500 (fun _ => 0)))), (q16, .inr (1, [.ref (u2 0), .ref (u2 1), .ref (u2 2)])), ((u2 0), .inl (cI, 26, .inl (fun _ => 0))), ((u2 1), .inl (cI, 26, .inl (fun _ => 0))), ((u2 2), .inl (cI, 26, .inl (zfil 26 500 (fun _ => 0)))), (q5, .inr (3, [.ref (u1 0), .int 0])), ((u1 0), .inl (cJ, 40, .inr (.inl (fun _ => 0)))), (a, .inr (4, [.ref q5, .ref q16, .ref q29, .null, .null, .null]))]) := hD.sub [11, 0, 1, 2, 3, 4, 5, 6, 7, 8, 9, 10] (by decide) rfl
  refine zcvg (va_runIN (As := []) (rest := [.ref q43, .ref a]) ⟨hx, hb, hml, hown, hts⟩ (c_X2_init) ⟨va_cnB 0 hts gX4_init_X2_init_n30 rfl rfl rfl (hE.1 _ (List.mem_of_getElem? (i := 1) rfl)) (hts (.initialized RX2) (List.mem_of_getElem? (i := 15) rfl)) hds_X2_init ⟨Nat.le_of_ble_eq_true rfl, Nat.le_of_ble_eq_true rfl⟩, rfl, (hts (.instanceMethod yX2_init) (List.mem_of_getElem? (i := 44) rfl))⟩ (zS hP9 hD9 hK hE hB hS) rfl rfl hl.1 rfl (lv_room (Nat.le_of_ble_eq_true rfl)) dX4_init_47 ⟨Nat.le_of_ble_eq_true rfl, Nat.le_of_ble_eq_true rfl⟩) hS (fun u4 H locs hP hD hS => ?_)
  have hP : va_P D vwCl ([(q43, .inr (2, [.ref (u4 0), .ref (u4 1), .ref (u4 2), .ref (u4 3), .int 0, .int 0, .int 0, .int 0, .int 0, .int 0, .int 0])), ((u4 0), .inl (cI, 6, .inl (fun _ => 0))), ((u4 1), .inl (cI, 48, .inl (fun _ => 0))), ((u4 2), .inl (cI, 48, .inl (fun _ => 0))), ((u4 3), .inl (cI, 26, .inl (fun _ => 0))), (q29, .inr (1, [.ref (u3 0), .ref (u3 1), .ref (u3 2)])), ((u3 0), .inl (cI, 676, .inl (fun _ => 0))), ((u3 1), .inl (cI, 676, .inl (fun _ => 0))), ((u3 2), .inl (cI, 676, .inl (zfil 676 500 (fun _ => 0)))), (q16, .inr (1, [.ref (u2 0), .ref (u2 1), .ref (u2 2)])), ((u2 0), .inl (cI, 26, .inl (fun _ => 0))), ((u2 1), .inl (cI, 26, .inl (fun _ => 0))), ((u2 2), .inl (cI, 26, .inl (zfil 26 500 (fun _ => 0)))), (q5, .inr (3, [.ref (u1 0), .int 0])), ((u1 0), .inl (cJ, 40, .inr (.inl (fun _ => 0)))), (a, .inr (4, [.ref q5, .ref q16, .ref q29, .null, .null, .null]))] : va_W) H := hP
  have hD : va_D (zAb B) ([(q43, .inr (2, [.ref (u4 0), .ref (u4 1), .ref (u4 2), .ref (u4 3), .int 0, .int 0, .int 0, .int 0, .int 0, .int 0, .int 0])), ((u4 0), .inl (cI, 6, .inl (fun _ => 0))), ((u4 1), .inl (cI, 48, .inl (fun _ => 0))), ((u4 2), .inl (cI, 48, .inl (fun _ => 0))), ((u4 3), .inl (cI, 26, .inl (fun _ => 0))), (q29, .inr (1, [.ref (u3 0), .ref (u3 1), .ref (u3 2)])), ((u3 0), .inl (cI, 676, .inl (fun _ => 0))), ((u3 1), .inl (cI, 676, .inl (fun _ => 0))), ((u3 2), .inl (cI, 676, .inl (zfil 676 500 (fun _ => 0)))), (q16, .inr (1, [.ref (u2 0), .ref (u2 1), .ref (u2 2)])), ((u2 0), .inl (cI, 26, .inl (fun _ => 0))), ((u2 1), .inl (cI, 26, .inl (fun _ => 0))), ((u2 2), .inl (cI, 26, .inl (zfil 26 500 (fun _ => 0)))), (q5, .inr (3, [.ref (u1 0), .int 0])), ((u1 0), .inl (cJ, 40, .inr (.inl (fun _ => 0)))), (a, .inr (4, [.ref q5, .ref q16, .ref q29, .null, .null, .null]))] : va_W) := hD
  refine va_putF (ci := 4) (v := .ref q43) (ty := (.object "TypingTutor$Lesson")) (C := RX4) (T := TX4) (N := 6) hx hb hts hinX4 tyX4 tyX4_ok nmX4 hown hK hP hD hS 15 rfl rfl 3 (by decide) (hts (.fieldLink RX4 31 "TypingTutor" "current" "LTypingTutor$Lesson;") (List.mem_of_getElem? (i := 16) rfl)) (fun _ h9 => h9) rfl hin9 rfl (by decide +kernel) rfl rfl (Nat.le_of_ble_eq_true rfl) dX4_init_50 (fun H locs hP hD hS => ?_)
  have hP : va_P D vwCl ([(q43, .inr (2, [.ref (u4 0), .ref (u4 1), .ref (u4 2), .ref (u4 3), .int 0, .int 0, .int 0, .int 0, .int 0, .int 0, .int 0])), ((u4 0), .inl (cI, 6, .inl (fun _ => 0))), ((u4 1), .inl (cI, 48, .inl (fun _ => 0))), ((u4 2), .inl (cI, 48, .inl (fun _ => 0))), ((u4 3), .inl (cI, 26, .inl (fun _ => 0))), (q29, .inr (1, [.ref (u3 0), .ref (u3 1), .ref (u3 2)])), ((u3 0), .inl (cI, 676, .inl (fun _ => 0))), ((u3 1), .inl (cI, 676, .inl (fun _ => 0))), ((u3 2), .inl (cI, 676, .inl (zfil 676 500 (fun _ => 0)))), (q16, .inr (1, [.ref (u2 0), .ref (u2 1), .ref (u2 2)])), ((u2 0), .inl (cI, 26, .inl (fun _ => 0))), ((u2 1), .inl (cI, 26, .inl (fun _ => 0))), ((u2 2), .inl (cI, 26, .inl (zfil 26 500 (fun _ => 0)))), (q5, .inr (3, [.ref (u1 0), .int 0])), ((u1 0), .inl (cJ, 40, .inr (.inl (fun _ => 0)))), (a, .inr (4, [.ref q5, .ref q16, .ref q29, .ref q43, .null, .null]))] : va_W) _ := hP
  have hD : va_D (zAb B) ([(q43, .inr (2, [.ref (u4 0), .ref (u4 1), .ref (u4 2), .ref (u4 3), .int 0, .int 0, .int 0, .int 0, .int 0, .int 0, .int 0])), ((u4 0), .inl (cI, 6, .inl (fun _ => 0))), ((u4 1), .inl (cI, 48, .inl (fun _ => 0))), ((u4 2), .inl (cI, 48, .inl (fun _ => 0))), ((u4 3), .inl (cI, 26, .inl (fun _ => 0))), (q29, .inr (1, [.ref (u3 0), .ref (u3 1), .ref (u3 2)])), ((u3 0), .inl (cI, 676, .inl (fun _ => 0))), ((u3 1), .inl (cI, 676, .inl (fun _ => 0))), ((u3 2), .inl (cI, 676, .inl (zfil 676 500 (fun _ => 0)))), (q16, .inr (1, [.ref (u2 0), .ref (u2 1), .ref (u2 2)])), ((u2 0), .inl (cI, 26, .inl (fun _ => 0))), ((u2 1), .inl (cI, 26, .inl (fun _ => 0))), ((u2 2), .inl (cI, 26, .inl (zfil 26 500 (fun _ => 0)))), (q5, .inr (3, [.ref (u1 0), .int 0])), ((u1 0), .inl (cJ, 40, .inr (.inl (fun _ => 0)))), (a, .inr (4, [.ref q5, .ref q16, .ref q29, .ref q43, .null, .null]))] : va_W) := hD
  refine lv_aload_n hx hb dX4_init_53 rfl (lv_at hl 0 rfl) ?_
  refine va_new (ci := 0) (fs := [.null, .null, .null, .int 0, .int 0, .int 0, .int 0]) (C := RX0) (T := TX0) (N := 7) hx hb hts hinX0 tyX0 tyX0_ok hown (hts (.classLink RX4 35 RX0) (List.mem_of_getElem? (i := 17) rfl)) (hts (.instantiable RX0 7) (List.mem_of_getElem? (i := 18) rfl)) (hts (.initialized RX0) (List.mem_of_getElem? (i := 19) rfl)) hK hP hD hS hA rfl (fun j hj => by rcases (show j = 0 ∨ j = 1 ∨ j = 2 ∨ j = 3 ∨ j = 4 ∨ j = 5 ∨ j = 6 by omega) with rfl | rfl | rfl | rfl | rfl | rfl | rfl <;> rfl) (Nat.le_of_ble_eq_true rfl) (Nat.le_of_ble_eq_true rfl) dX4_init_54 (fun q54 H hP hD hS => ?_)
  have hP : va_P D vwCl ([(q43, .inr (2, [.ref (u4 0), .ref (u4 1), .ref (u4 2), .ref (u4 3), .int 0, .int 0, .int 0, .int 0, .int 0, .int 0, .int 0])), ((u4 0), .inl (cI, 6, .inl (fun _ => 0))), ((u4 1), .inl (cI, 48, .inl (fun _ => 0))), ((u4 2), .inl (cI, 48, .inl (fun _ => 0))), ((u4 3), .inl (cI, 26, .inl (fun _ => 0))), (q29, .inr (1, [.ref (u3 0), .ref (u3 1), .ref (u3 2)])), ((u3 0), .inl (cI, 676, .inl (fun _ => 0))), ((u3 1), .inl (cI, 676, .inl (fun _ => 0))), ((u3 2), .inl (cI, 676, .inl (zfil 676 500 (fun _ => 0)))), (q16, .inr (1, [.ref (u2 0), .ref (u2 1), .ref (u2 2)])), ((u2 0), .inl (cI, 26, .inl (fun _ => 0))), ((u2 1), .inl (cI, 26, .inl (fun _ => 0))), ((u2 2), .inl (cI, 26, .inl (zfil 26 500 (fun _ => 0)))), (q5, .inr (3, [.ref (u1 0), .int 0])), ((u1 0), .inl (cJ, 40, .inr (.inl (fun _ => 0)))), (a, .inr (4, [.ref q5, .ref q16, .ref q29, .ref q43, .null, .null])), (q54, .inr (0, [.null, .null, .null, .int 0, .int 0, .int 0, .int 0]))] : va_W) _ := hP
  have hD : va_D (zAb B) ([(q43, .inr (2, [.ref (u4 0), .ref (u4 1), .ref (u4 2), .ref (u4 3), .int 0, .int 0, .int 0, .int 0, .int 0, .int 0, .int 0])), ((u4 0), .inl (cI, 6, .inl (fun _ => 0))), ((u4 1), .inl (cI, 48, .inl (fun _ => 0))), ((u4 2), .inl (cI, 48, .inl (fun _ => 0))), ((u4 3), .inl (cI, 26, .inl (fun _ => 0))), (q29, .inr (1, [.ref (u3 0), .ref (u3 1), .ref (u3 2)])), ((u3 0), .inl (cI, 676, .inl (fun _ => 0))), ((u3 1), .inl (cI, 676, .inl (fun _ => 0))), ((u3 2), .inl (cI, 676, .inl (zfil 676 500 (fun _ => 0)))), (q16, .inr (1, [.ref (u2 0), .ref (u2 1), .ref (u2 2)])), ((u2 0), .inl (cI, 26, .inl (fun _ => 0))), ((u2 1), .inl (cI, 26, .inl (fun _ => 0))), ((u2 2), .inl (cI, 26, .inl (zfil 26 500 (fun _ => 0)))), (q5, .inr (3, [.ref (u1 0), .int 0])), ((u1 0), .inl (cJ, 40, .inr (.inl (fun _ => 0)))), (a, .inr (4, [.ref q5, .ref q16, .ref q29, .ref q43, .null, .null])), (q54, .inr (0, [.null, .null, .null, .int 0, .int 0, .int 0, .int 0]))] : va_W) := hD
  refine lv_dup hx hb dX4_init_57 rfl ?_
  have hP9 : va_P D vwCl ([(q54, .inr (0, [.null, .null, .null, .int 0, .int 0, .int 0, .int 0]))] ++ [(q43, .inr (2, [.ref (u4 0), .ref (u4 1), .ref (u4 2), .ref (u4 3), .int 0, .int 0, .int 0, .int 0, .int 0, .int 0, .int 0])), ((u4 0), .inl (cI, 6, .inl (fun _ => 0))), ((u4 1), .inl (cI, 48, .inl (fun _ => 0))), ((u4 2), .inl (cI, 48, .inl (fun _ => 0))), ((u4 3), .inl (cI, 26, .inl (fun _ => 0))), (q29, .inr (1, [.ref (u3 0), .ref (u3 1), .ref (u3 2)])), ((u3 0), .inl (cI, 676, .inl (fun _ => 0))), ((u3 1), .inl (cI, 676, .inl (fun _ => 0))), ((u3 2), .inl (cI, 676, .inl (zfil 676 500 (fun _ => 0)))), (q16, .inr (1, [.ref (u2 0), .ref (u2 1), .ref (u2 2)])), ((u2 0), .inl (cI, 26, .inl (fun _ => 0))), ((u2 1), .inl (cI, 26, .inl (fun _ => 0))), ((u2 2), .inl (cI, 26, .inl (zfil 26 500 (fun _ => 0)))), (q5, .inr (3, [.ref (u1 0), .int 0])), ((u1 0), .inl (cJ, 40, .inr (.inl (fun _ => 0)))), (a, .inr (4, [.ref q5, .ref q16, .ref q29, .ref q43, .null, .null]))]) H := hP.sub [16, 0, 1, 2, 3, 4, 5, 6, 7, 8, 9, 10, 11, 12, 13, 14, 15] rfl
  have hD9 : va_D (zAb B) ([(q54, .inr (0, [.null, .null, .null, .int 0, .int 0, .int 0, .int 0]))] ++ [(q43, .inr (2, [.ref (u4 0), .ref (u4 1), .ref (u4 2), .ref (u4 3), .int 0, .int 0, .int 0, .int 0, .int 0, .int 0, .int 0])), ((u4 0), .inl (cI, 6, .inl (fun _ => 0))), ((u4 1), .inl (cI, 48, .inl (fun _ => 0))), ((u4 2), .inl (cI, 48, .inl (fun _ => 0))), ((u4 3), .inl (cI, 26, .inl (fun _ => 0))), (q29, .inr (1, [.ref (u3 0), .ref (u3 1), .ref (u3 2)])), ((u3 0), .inl (cI, 676, .inl (fun _ => 0))), ((u3 1), .inl (cI, 676, .inl (fun _ => 0))), ((u3 2), .inl (cI, 676, .inl (zfil 676 500 (fun _ => 0)))), (q16, .inr (1, [.ref (u2 0), .ref (u2 1), .ref (u2 2)])), ((u2 0), .inl (cI, 26, .inl (fun _ => 0))), ((u2 1), .inl (cI, 26, .inl (fun _ => 0))), ((u2 2), .inl (cI, 26, .inl (zfil 26 500 (fun _ => 0)))), (q5, .inr (3, [.ref (u1 0), .int 0])), ((u1 0), .inl (cJ, 40, .inr (.inl (fun _ => 0)))), (a, .inr (4, [.ref q5, .ref q16, .ref q29, .ref q43, .null, .null]))]) := hD.sub [16, 0, 1, 2, 3, 4, 5, 6, 7, 8, 9, 10, 11, 12, 13, 14, 15] (by decide) rfl
  refine zcvg (va_runIN (As := []) (rest := [.ref q54, .ref a]) ⟨hx, hb, hml, hown, hts⟩ (c_X0_init) ⟨va_cnB 0 hts gX4_init_X0_init_n37 rfl rfl rfl (hE.1 _ (List.mem_of_getElem? (i := 2) rfl)) (hts (.initialized RX0) (List.mem_of_getElem? (i := 19) rfl)) hds_X0_init ⟨Nat.le_of_ble_eq_true rfl, Nat.le_of_ble_eq_true rfl⟩, rfl, (hts (.instanceMethod yX0_init) (List.mem_of_getElem? (i := 58) rfl))⟩ (zS hP9 hD9 hK hE hB hS) rfl rfl hl.1 rfl (lv_room (Nat.le_of_ble_eq_true rfl)) dX4_init_58 ⟨Nat.le_of_ble_eq_true rfl, Nat.le_of_ble_eq_true rfl⟩) hS (fun u5 H locs hP hD hS => ?_)
  have hP : va_P D vwCl ([(q54, .inr (0, [.ref (u5 0), .ref (u5 1), .ref (u5 2), .int 0, .int 100, .int 0, .int 0])), ((u5 0), .inl (cI, 256, .inl (fun _ => 0))), ((u5 1), .inl (cI, 256, .inl (fun _ => 0))), ((u5 2), .inl (cI, 256, .inl (fun _ => 0))), (q43, .inr (2, [.ref (u4 0), .ref (u4 1), .ref (u4 2), .ref (u4 3), .int 0, .int 0, .int 0, .int 0, .int 0, .int 0, .int 0])), ((u4 0), .inl (cI, 6, .inl (fun _ => 0))), ((u4 1), .inl (cI, 48, .inl (fun _ => 0))), ((u4 2), .inl (cI, 48, .inl (fun _ => 0))), ((u4 3), .inl (cI, 26, .inl (fun _ => 0))), (q29, .inr (1, [.ref (u3 0), .ref (u3 1), .ref (u3 2)])), ((u3 0), .inl (cI, 676, .inl (fun _ => 0))), ((u3 1), .inl (cI, 676, .inl (fun _ => 0))), ((u3 2), .inl (cI, 676, .inl (zfil 676 500 (fun _ => 0)))), (q16, .inr (1, [.ref (u2 0), .ref (u2 1), .ref (u2 2)])), ((u2 0), .inl (cI, 26, .inl (fun _ => 0))), ((u2 1), .inl (cI, 26, .inl (fun _ => 0))), ((u2 2), .inl (cI, 26, .inl (zfil 26 500 (fun _ => 0)))), (q5, .inr (3, [.ref (u1 0), .int 0])), ((u1 0), .inl (cJ, 40, .inr (.inl (fun _ => 0)))), (a, .inr (4, [.ref q5, .ref q16, .ref q29, .ref q43, .null, .null]))] : va_W) H := hP
  have hD : va_D (zAb B) ([(q54, .inr (0, [.ref (u5 0), .ref (u5 1), .ref (u5 2), .int 0, .int 100, .int 0, .int 0])), ((u5 0), .inl (cI, 256, .inl (fun _ => 0))), ((u5 1), .inl (cI, 256, .inl (fun _ => 0))), ((u5 2), .inl (cI, 256, .inl (fun _ => 0))), (q43, .inr (2, [.ref (u4 0), .ref (u4 1), .ref (u4 2), .ref (u4 3), .int 0, .int 0, .int 0, .int 0, .int 0, .int 0, .int 0])), ((u4 0), .inl (cI, 6, .inl (fun _ => 0))), ((u4 1), .inl (cI, 48, .inl (fun _ => 0))), ((u4 2), .inl (cI, 48, .inl (fun _ => 0))), ((u4 3), .inl (cI, 26, .inl (fun _ => 0))), (q29, .inr (1, [.ref (u3 0), .ref (u3 1), .ref (u3 2)])), ((u3 0), .inl (cI, 676, .inl (fun _ => 0))), ((u3 1), .inl (cI, 676, .inl (fun _ => 0))), ((u3 2), .inl (cI, 676, .inl (zfil 676 500 (fun _ => 0)))), (q16, .inr (1, [.ref (u2 0), .ref (u2 1), .ref (u2 2)])), ((u2 0), .inl (cI, 26, .inl (fun _ => 0))), ((u2 1), .inl (cI, 26, .inl (fun _ => 0))), ((u2 2), .inl (cI, 26, .inl (zfil 26 500 (fun _ => 0)))), (q5, .inr (3, [.ref (u1 0), .int 0])), ((u1 0), .inl (cJ, 40, .inr (.inl (fun _ => 0)))), (a, .inr (4, [.ref q5, .ref q16, .ref q29, .ref q43, .null, .null]))] : va_W) := hD
  refine va_putF (ci := 4) (v := .ref q54) (ty := (.object "TypingTutor$History")) (C := RX4) (T := TX4) (N := 6) hx hb hts hinX4 tyX4 tyX4_ok nmX4 hown hK hP hD hS 19 rfl rfl 4 (by decide) (hts (.fieldLink RX4 38 "TypingTutor" "past" "LTypingTutor$History;") (List.mem_of_getElem? (i := 20) rfl)) (fun _ h9 => h9) rfl hin9 rfl (by decide +kernel) rfl rfl (Nat.le_of_ble_eq_true rfl) dX4_init_61 (fun H locs hP hD hS => ?_)
  have hP : va_P D vwCl ([(q54, .inr (0, [.ref (u5 0), .ref (u5 1), .ref (u5 2), .int 0, .int 100, .int 0, .int 0])), ((u5 0), .inl (cI, 256, .inl (fun _ => 0))), ((u5 1), .inl (cI, 256, .inl (fun _ => 0))), ((u5 2), .inl (cI, 256, .inl (fun _ => 0))), (q43, .inr (2, [.ref (u4 0), .ref (u4 1), .ref (u4 2), .ref (u4 3), .int 0, .int 0, .int 0, .int 0, .int 0, .int 0, .int 0])), ((u4 0), .inl (cI, 6, .inl (fun _ => 0))), ((u4 1), .inl (cI, 48, .inl (fun _ => 0))), ((u4 2), .inl (cI, 48, .inl (fun _ => 0))), ((u4 3), .inl (cI, 26, .inl (fun _ => 0))), (q29, .inr (1, [.ref (u3 0), .ref (u3 1), .ref (u3 2)])), ((u3 0), .inl (cI, 676, .inl (fun _ => 0))), ((u3 1), .inl (cI, 676, .inl (fun _ => 0))), ((u3 2), .inl (cI, 676, .inl (zfil 676 500 (fun _ => 0)))), (q16, .inr (1, [.ref (u2 0), .ref (u2 1), .ref (u2 2)])), ((u2 0), .inl (cI, 26, .inl (fun _ => 0))), ((u2 1), .inl (cI, 26, .inl (fun _ => 0))), ((u2 2), .inl (cI, 26, .inl (zfil 26 500 (fun _ => 0)))), (q5, .inr (3, [.ref (u1 0), .int 0])), ((u1 0), .inl (cJ, 40, .inr (.inl (fun _ => 0)))), (a, .inr (4, [.ref q5, .ref q16, .ref q29, .ref q43, .ref q54, .null]))] : va_W) _ := hP
  have hD : va_D (zAb B) ([(q54, .inr (0, [.ref (u5 0), .ref (u5 1), .ref (u5 2), .int 0, .int 100, .int 0, .int 0])), ((u5 0), .inl (cI, 256, .inl (fun _ => 0))), ((u5 1), .inl (cI, 256, .inl (fun _ => 0))), ((u5 2), .inl (cI, 256, .inl (fun _ => 0))), (q43, .inr (2, [.ref (u4 0), .ref (u4 1), .ref (u4 2), .ref (u4 3), .int 0, .int 0, .int 0, .int 0, .int 0, .int 0, .int 0])), ((u4 0), .inl (cI, 6, .inl (fun _ => 0))), ((u4 1), .inl (cI, 48, .inl (fun _ => 0))), ((u4 2), .inl (cI, 48, .inl (fun _ => 0))), ((u4 3), .inl (cI, 26, .inl (fun _ => 0))), (q29, .inr (1, [.ref (u3 0), .ref (u3 1), .ref (u3 2)])), ((u3 0), .inl (cI, 676, .inl (fun _ => 0))), ((u3 1), .inl (cI, 676, .inl (fun _ => 0))), ((u3 2), .inl (cI, 676, .inl (zfil 676 500 (fun _ => 0)))), (q16, .inr (1, [.ref (u2 0), .ref (u2 1), .ref (u2 2)])), ((u2 0), .inl (cI, 26, .inl (fun _ => 0))), ((u2 1), .inl (cI, 26, .inl (fun _ => 0))), ((u2 2), .inl (cI, 26, .inl (zfil 26 500 (fun _ => 0)))), (q5, .inr (3, [.ref (u1 0), .int 0])), ((u1 0), .inl (cJ, 40, .inr (.inl (fun _ => 0)))), (a, .inr (4, [.ref q5, .ref q16, .ref q29, .ref q43, .ref q54, .null]))] : va_W) := hD
  refine lv_aload_n hx hb dX4_init_64 rfl (lv_at hl 0 rfl) ?_
  refine lv_iconst (v := 5) hx hb dX4_init_65 (by decide) ?_
  refine va_newa (atype := .int) (ty := .int) (N' := 5) (a0 := (5, .inl (fun _ => 0))) hx hb (hts (.arrayClass .int) (List.mem_of_getElem? (i := 21) rfl)) rfl hK hP hD hS hA (fun _ => rfl) (by decide) (by decide) (Nat.le_of_ble_eq_true rfl) (Nat.le_of_ble_eq_true rfl) (Nat.le_of_ble_eq_true rfl) dX4_init_66 (fun q66 cA H hK9 hP hD hS => ?_)
  obtain rfl : cI = cA := zcA_int hK hK9
  have hP : va_P D vwCl ([(q54, .inr (0, [.ref (u5 0), .ref (u5 1), .ref (u5 2), .int 0, .int 100, .int 0, .int 0])), ((u5 0), .inl (cI, 256, .inl (fun _ => 0))), ((u5 1), .inl (cI, 256, .inl (fun _ => 0))), ((u5 2), .inl (cI, 256, .inl (fun _ => 0))), (q43, .inr (2, [.ref (u4 0), .ref (u4 1), .ref (u4 2), .ref (u4 3), .int 0, .int 0, .int 0, .int 0, .int 0, .int 0, .int 0])), ((u4 0), .inl (cI, 6, .inl (fun _ => 0))), ((u4 1), .inl (cI, 48, .inl (fun _ => 0))), ((u4 2), .inl (cI, 48, .inl (fun _ => 0))), ((u4 3), .inl (cI, 26, .inl (fun _ => 0))), (q29, .inr (1, [.ref (u3 0), .ref (u3 1), .ref (u3 2)])), ((u3 0), .inl (cI, 676, .inl (fun _ => 0))), ((u3 1), .inl (cI, 676, .inl (fun _ => 0))), ((u3 2), .inl (cI, 676, .inl (zfil 676 500 (fun _ => 0)))), (q16, .inr (1, [.ref (u2 0), .ref (u2 1), .ref (u2 2)])), ((u2 0), .inl (cI, 26, .inl (fun _ => 0))), ((u2 1), .inl (cI, 26, .inl (fun _ => 0))), ((u2 2), .inl (cI, 26, .inl (zfil 26 500 (fun _ => 0)))), (q5, .inr (3, [.ref (u1 0), .int 0])), ((u1 0), .inl (cJ, 40, .inr (.inl (fun _ => 0)))), (a, .inr (4, [.ref q5, .ref q16, .ref q29, .ref q43, .ref q54, .null])), (q66, .inl (cI, 5, .inl (fun _ => 0)))] : va_W) H := hP
  have hD : va_D (zAb B) ([(q54, .inr (0, [.ref (u5 0), .ref (u5 1), .ref (u5 2), .int 0, .int 100, .int 0, .int 0])), ((u5 0), .inl (cI, 256, .inl (fun _ => 0))), ((u5 1), .inl (cI, 256, .inl (fun _ => 0))), ((u5 2), .inl (cI, 256, .inl (fun _ => 0))), (q43, .inr (2, [.ref (u4 0), .ref (u4 1), .ref (u4 2), .ref (u4 3), .int 0, .int 0, .int 0, .int 0, .int 0, .int 0, .int 0])), ((u4 0), .inl (cI, 6, .inl (fun _ => 0))), ((u4 1), .inl (cI, 48, .inl (fun _ => 0))), ((u4 2), .inl (cI, 48, .inl (fun _ => 0))), ((u4 3), .inl (cI, 26, .inl (fun _ => 0))), (q29, .inr (1, [.ref (u3 0), .ref (u3 1), .ref (u3 2)])), ((u3 0), .inl (cI, 676, .inl (fun _ => 0))), ((u3 1), .inl (cI, 676, .inl (fun _ => 0))), ((u3 2), .inl (cI, 676, .inl (zfil 676 500 (fun _ => 0)))), (q16, .inr (1, [.ref (u2 0), .ref (u2 1), .ref (u2 2)])), ((u2 0), .inl (cI, 26, .inl (fun _ => 0))), ((u2 1), .inl (cI, 26, .inl (fun _ => 0))), ((u2 2), .inl (cI, 26, .inl (zfil 26 500 (fun _ => 0)))), (q5, .inr (3, [.ref (u1 0), .int 0])), ((u1 0), .inl (cJ, 40, .inr (.inl (fun _ => 0)))), (a, .inr (4, [.ref q5, .ref q16, .ref q29, .ref q43, .ref q54, .null])), (q66, .inl (cI, 5, .inl (fun _ => 0)))] : va_W) := hD
  refine va_putF (ci := 4) (v := .ref q66) (ty := (.array .int)) (C := RX4) (T := TX4) (N := 6) hx hb hts hinX4 tyX4 tyX4_ok nmX4 hown hK hP hD hS 19 rfl rfl 5 (by decide) (hts (.fieldLink RX4 42 "TypingTutor" "mistakeCounts" "[I") (List.mem_of_getElem? (i := 22) rfl)) (fun _ h9 => h9) rfl hin9 rfl (by decide +kernel) rfl rfl (Nat.le_of_ble_eq_true rfl) dX4_init_68 (fun H locs hP hD hS => ?_)
  have hP : va_P D vwCl ([(q54, .inr (0, [.ref (u5 0), .ref (u5 1), .ref (u5 2), .int 0, .int 100, .int 0, .int 0])), ((u5 0), .inl (cI, 256, .inl (fun _ => 0))), ((u5 1), .inl (cI, 256, .inl (fun _ => 0))), ((u5 2), .inl (cI, 256, .inl (fun _ => 0))), (q43, .inr (2, [.ref (u4 0), .ref (u4 1), .ref (u4 2), .ref (u4 3), .int 0, .int 0, .int 0, .int 0, .int 0, .int 0, .int 0])), ((u4 0), .inl (cI, 6, .inl (fun _ => 0))), ((u4 1), .inl (cI, 48, .inl (fun _ => 0))), ((u4 2), .inl (cI, 48, .inl (fun _ => 0))), ((u4 3), .inl (cI, 26, .inl (fun _ => 0))), (q29, .inr (1, [.ref (u3 0), .ref (u3 1), .ref (u3 2)])), ((u3 0), .inl (cI, 676, .inl (fun _ => 0))), ((u3 1), .inl (cI, 676, .inl (fun _ => 0))), ((u3 2), .inl (cI, 676, .inl (zfil 676 500 (fun _ => 0)))), (q16, .inr (1, [.ref (u2 0), .ref (u2 1), .ref (u2 2)])), ((u2 0), .inl (cI, 26, .inl (fun _ => 0))), ((u2 1), .inl (cI, 26, .inl (fun _ => 0))), ((u2 2), .inl (cI, 26, .inl (zfil 26 500 (fun _ => 0)))), (q5, .inr (3, [.ref (u1 0), .int 0])), ((u1 0), .inl (cJ, 40, .inr (.inl (fun _ => 0)))), (a, .inr (4, [.ref q5, .ref q16, .ref q29, .ref q43, .ref q54, .ref q66])), (q66, .inl (cI, 5, .inl (fun _ => 0)))] : va_W) _ := hP
  have hD : va_D (zAb B) ([(q54, .inr (0, [.ref (u5 0), .ref (u5 1), .ref (u5 2), .int 0, .int 100, .int 0, .int 0])), ((u5 0), .inl (cI, 256, .inl (fun _ => 0))), ((u5 1), .inl (cI, 256, .inl (fun _ => 0))), ((u5 2), .inl (cI, 256, .inl (fun _ => 0))), (q43, .inr (2, [.ref (u4 0), .ref (u4 1), .ref (u4 2), .ref (u4 3), .int 0, .int 0, .int 0, .int 0, .int 0, .int 0, .int 0])), ((u4 0), .inl (cI, 6, .inl (fun _ => 0))), ((u4 1), .inl (cI, 48, .inl (fun _ => 0))), ((u4 2), .inl (cI, 48, .inl (fun _ => 0))), ((u4 3), .inl (cI, 26, .inl (fun _ => 0))), (q29, .inr (1, [.ref (u3 0), .ref (u3 1), .ref (u3 2)])), ((u3 0), .inl (cI, 676, .inl (fun _ => 0))), ((u3 1), .inl (cI, 676, .inl (fun _ => 0))), ((u3 2), .inl (cI, 676, .inl (zfil 676 500 (fun _ => 0)))), (q16, .inr (1, [.ref (u2 0), .ref (u2 1), .ref (u2 2)])), ((u2 0), .inl (cI, 26, .inl (fun _ => 0))), ((u2 1), .inl (cI, 26, .inl (fun _ => 0))), ((u2 2), .inl (cI, 26, .inl (zfil 26 500 (fun _ => 0)))), (q5, .inr (3, [.ref (u1 0), .int 0])), ((u1 0), .inl (cJ, 40, .inr (.inl (fun _ => 0)))), (a, .inr (4, [.ref q5, .ref q16, .ref q29, .ref q43, .ref q54, .ref q66])), (q66, .inl (cI, 5, .inl (fun _ => 0)))] : va_W) := hD
  have hP : va_P D vwCl (zWT cI cJ (fun k => if k = 0 then a else if k = 1 then q5 else if k = 2 then (u1 0) else if k = 3 then q16 else if k = 4 then (u2 0) else if k = 5 then (u2 1) else if k = 6 then (u2 2) else if k = 7 then q29 else if k = 8 then (u3 0) else if k = 9 then (u3 1) else if k = 10 then (u3 2) else if k = 11 then q43 else if k = 12 then (u4 0) else if k = 13 then (u4 1) else if k = 14 then (u4 2) else if k = 15 then (u4 3) else if k = 16 then q54 else if k = 17 then (u5 0) else if k = 18 then (u5 1) else if k = 19 then (u5 2) else q66) (0, (fun _ => 0)) ((fun _ => 0), (fun _ => 0), (zfil 26 500 (fun _ => 0))) ((fun _ => 0), (fun _ => 0), (zfil 676 500 (fun _ => 0))) ((fun _ => 0), (fun _ => 0), (fun _ => 0), (fun _ => 0), false, 0, 0, 0, 0, 0, 0) ((fun _ => 0), (fun _ => 0), (fun _ => 0), 0, 100, 0, 0) (fun _ => 0)) H := hP.sub [19, 17, 18, 13, 14, 15, 16, 9, 10, 11, 12, 4, 5, 6, 7, 8, 0, 1, 2, 3, 20] rfl
  have hD : va_D (zAb B) (zWT cI cJ (fun k => if k = 0 then a else if k = 1 then q5 else if k = 2 then (u1 0) else if k = 3 then q16 else if k = 4 then (u2 0) else if k = 5 then (u2 1) else if k = 6 then (u2 2) else if k = 7 then q29 else if k = 8 then (u3 0) else if k = 9 then (u3 1) else if k = 10 then (u3 2) else if k = 11 then q43 else if k = 12 then (u4 0) else if k = 13 then (u4 1) else if k = 14 then (u4 2) else if k = 15 then (u4 3) else if k = 16 then q54 else if k = 17 then (u5 0) else if k = 18 then (u5 1) else if k = 19 then (u5 2) else q66) (0, (fun _ => 0)) ((fun _ => 0), (fun _ => 0), (zfil 26 500 (fun _ => 0))) ((fun _ => 0), (fun _ => 0), (zfil 676 500 (fun _ => 0))) ((fun _ => 0), (fun _ => 0), (fun _ => 0), (fun _ => 0), false, 0, 0, 0, 0, 0, 0) ((fun _ => 0), (fun _ => 0), (fun _ => 0), 0, 100, 0, 0) (fun _ => 0)) := hD.sub [19, 17, 18, 13, 14, 15, 16, 9, 10, 11, 12, 4, 5, 6, 7, 8, 0, 1, 2, 3, 20] (by decide) rfl
  exact W.vret hx hb hr (fun t ht hW => ⟨⟨((fun k => if k = 0 then a else if k = 1 then q5 else if k = 2 then (u1 0) else if k = 3 then q16 else if k = 4 then (u2 0) else if k = 5 then (u2 1) else if k = 6 then (u2 2) else if k = 7 then q29 else if k = 8 then (u3 0) else if k = 9 then (u3 1) else if k = 10 then (u3 2) else if k = 11 then q43 else if k = 12 then (u4 0) else if k = 13 then (u4 1) else if k = 14 then (u4 2) else if k = 15 then (u4 3) else if k = 16 then q54 else if k = 17 then (u5 0) else if k = 18 then (u5 1) else if k = 19 then (u5 2) else q66)), rfl, trivial, by rw [ht]; exact hP, hD⟩, hS.F ht⟩) hS.2.2 dX4_init_71

set_option maxHeartbeats 1000000 in
set_option maxRecDepth 100000 in
theorem c_X5_init {l : Launch} {B kr kp : Nat} {D : va_G} {cI cJ cZ : ClassId}    {a : Nat} {R : va_W}   : Met l yX5_init wsX5_init ({ frames := 1, cells := 9, slots := 2266, locals := 24 }) (zPc B kr kp D (zTy cI cJ cZ) ([(a, .inr (5, [.int 0, .int 0, .null, .null, .null, .null, .null, .int 0, .int 0, .null, .int 0, .null, .null, .int 0, .int 0, .int 0, .int 0, .int 0, .null, .int 0]))] ++ R) [.ref a]) (zQvg B D (fun h => (zWM cI cJ cZ h 0 (0, (fun _ => 0)) ((zcb (fun _ => 0) (fun _ => 0)), (zcb (fun _ => 0) (fun _ => 0)), (zcb (zfil 26 500 (fun _ => 0)) (zfil 676 500 (fun _ => 0)))) (fun _ => 0) (false, 0, (fun _ => 0), 0, (fun _ => 0), (fun _ => 0), 0, 0, 0, 0) (0, 12, (fun _ => 0), 100) ++ R))) 9 2266 (zAb B) := by
  refine Met.ofW (cc := cX5_init) (maxL := 2) (ret := none) (by decide) rfl ?_
  intro p e s m args below meth c s₁ B0 hml hv
  obtain ⟨rfl, hP, hD, hK, hE, hB⟩ := hv
  have hx := B0.exec
  have hb := B0.bytes
  have hr := B0.returns
  have hts := atoms_spec (ws := wsX5_init) B0.pre
  have hown : s.vm.findClass RX5 = some m.cls := findClass_of_methodNamed B0.named
  have hlocks := B0.notSynchronized
  have hA : ∀ q : Nat, s.heap.size ≤ q → zAb B q := fun q hq => Nat.le_trans hB hq
  have hS : va_S (zAb B) s.heap s.heap [] := va_S.rf
  have hgr : s.heap.size ≤ s.heap.size := Nat.le_refl _
  have hl := lv_entry ([.ref a]) (n := 2) (Nat.le_of_ble_eq_true rfl)
  rw [lg_entry_eq]
  generalize (lg_sl ([.ref a]) ++ List.replicate (2 - (lg_sl ([.ref a])).length) Slot.unset).toArray = ls at hl ⊢
  have hl : lv_has ls 2 [(0, .ref a)] := hl
  have hinX5 : ∀ w ∈ wsX50, w ∈ wsX5_init := fun _ h => List.mem_cons_of_mem _ (List.mem_append_right _ h)
  have hP : va_P D vwCl ([(a, .inr (5, [.int 0, .int 0, .null, .null, .null, .null, .null, .int 0, .int 0, .null, .int 0, .null, .null, .int 0, .int 0, .int 0, .int 0, .int 0, .null, .int 0]))] ++ R) s.heap := hP
  have hD : va_D (zAb B) ([(a, .inr (5, [.int 0, .int 0, .null, .null, .null, .null, .null, .int 0, .int 0, .null, .int 0, .null, .null, .int 0, .int 0, .int 0, .int 0, .int 0, .null, .int 0]))] ++ R) := hD
  refine lv_aload_n hx hb dX5_init_0 rfl (lv_at hl 0 rfl) ?_
  have hin9 : meth.name = "<init>" := (name_of_methodNamed B0.named B0.method).1
  refine W.objInit hx hb hown (hts (.methodLink RX5 1 objectInit) (List.mem_of_getElem? (i := 1) rfl)) (hts (.instanceMethod objectInit) (List.mem_of_getElem? (i := 2) rfl)) (hts (.code objectInit ⟨#[0xb1]⟩ 1 none) (List.mem_of_getElem? (i := 3) rfl)) rfl (by rw [hml]; exact hl.1) rfl dX5_init_1 (Nat.le_of_ble_eq_true rfl) (Nat.le_of_ble_eq_true rfl) ?_
  refine lv_aload_n hx hb dX5_init_4 rfl (lv_at hl 0 rfl) ?_
  refine lv_bipush (v := 40) hx hb dX5_init_5 (by decide) ?_
  refine va_newa (atype := .long) (ty := .long) (N' := 40) (a0 := (40, .inr (.inl (fun _ => 0)))) hx hb (hts (.arrayClass .long) (List.mem_of_getElem? (i := 4) rfl)) rfl hK hP hD hS hA (fun _ => rfl) (by decide) (by decide) (Nat.le_of_ble_eq_true rfl) (Nat.le_of_ble_eq_true rfl) (Nat.le_of_ble_eq_true rfl) dX5_init_7 (fun q7 cA H hK9 hP hD hS => ?_)
  obtain rfl : cJ = cA := zcA_long hK hK9
  have hP : va_P D vwCl ([(a, .inr (5, [.int 0, .int 0, .null, .null, .null, .null, .null, .int 0, .int 0, .null, .int 0, .null, .null, .int 0, .int 0, .int 0, .int 0, .int 0, .null, .int 0])), (q7, .inl (cJ, 40, .inr (.inl (fun _ => 0))))] ++ R) H := hP.swap
  have hD : va_D (zAb B) ([(a, .inr (5, [.int 0, .int 0, .null, .null, .null, .null, .null, .int 0, .int 0, .null, .int 0, .null, .null, .int 0, .int 0, .int 0, .int 0, .int 0, .null, .int 0])), (q7, .inl (cJ, 40, .inr (.inl (fun _ => 0))))] ++ R) := hD.swap
  refine va_putF (ci := 5) (v := .ref q7) (ty := (.array .long)) (C := RX5) (T := TX5) (N := 20) hx hb hts hinX5 tyX5 tyX5_ok nmX5 hown hK hP hD hS 0 rfl rfl 2 (by decide) (hts (.fieldLink RX5 9 "TypingTutorModel" "list" "[J") (List.mem_of_getElem? (i := 5) rfl)) (fun _ h9 => h9) rfl hin9 rfl (by decide +kernel) rfl rfl (Nat.le_of_ble_eq_true rfl) dX5_init_9 (fun H locs hP hD hS => ?_)
  have hP : va_P D vwCl ([(a, .inr (5, [.int 0, .int 0, .ref q7, .null, .null, .null, .null, .int 0, .int 0, .null, .int 0, .null, .null, .int 0, .int 0, .int 0, .int 0, .int 0, .null, .int 0])), (q7, .inl (cJ, 40, .inr (.inl (fun _ => 0))))] ++ R) _ := hP
  have hD : va_D (zAb B) ([(a, .inr (5, [.int 0, .int 0, .ref q7, .null, .null, .null, .null, .int 0, .int 0, .null, .int 0, .null, .null, .int 0, .int 0, .int 0, .int 0, .int 0, .null, .int 0])), (q7, .inl (cJ, 40, .inr (.inl (fun _ => 0))))] ++ R) := hD
  refine lv_aload_n hx hb dX5_init_12 rfl (lv_at hl 0 rfl) ?_
  refine lv_sipush (v := 702) hx hb dX5_init_13 (by decide) ?_
  refine va_newa (atype := .int) (ty := .int) (N' := 702) (a0 := (702, .inl (fun _ => 0))) hx hb (hts (.arrayClass .int) (List.mem_of_getElem? (i := 6) rfl)) rfl hK hP hD hS hA (fun _ => rfl) (by decide) (by decide) (Nat.le_of_ble_eq_true rfl) (Nat.le_of_ble_eq_true rfl) (Nat.le_of_ble_eq_true rfl) dX5_init_16 (fun q16 cA H hK9 hP hD hS => ?_)
  obtain rfl : cI = cA := zcA_int hK hK9
  have hP : va_P D vwCl ([(a, .inr (5, [.int 0, .int 0, .ref q7, .null, .null, .null, .null, .int 0, .int 0, .null, .int 0, .null, .null, .int 0, .int 0, .int 0, .int 0, .int 0, .null, .int 0])), (q7, .inl (cJ, 40, .inr (.inl (fun _ => 0)))), (q16, .inl (cI, 702, .inl (fun _ => 0)))] ++ R) H := hP.swap
  have hD : va_D (zAb B) ([(a, .inr (5, [.int 0, .int 0, .ref q7, .null, .null, .null, .null, .int 0, .int 0, .null, .int 0, .null, .null, .int 0, .int 0, .int 0, .int 0, .int 0, .null, .int 0])), (q7, .inl (cJ, 40, .inr (.inl (fun _ => 0)))), (q16, .inl (cI, 702, .inl (fun _ => 0)))] ++ R) := hD.swap
  refine va_putF (ci := 5) (v := .ref q16) (ty := (.array .int)) (C := RX5) (T := TX5) (N := 20) hx hb hts hinX5 tyX5 tyX5_ok nmX5 hown hK hP hD hS 0 rfl rfl 3 (by decide) (hts (.fieldLink RX5 13 "TypingTutorModel" "tries" "[I") (List.mem_of_getElem? (i := 7) rfl)) (fun _ h9 => h9) rfl hin9 rfl (by decide +kernel) rfl rfl (Nat.le_of_ble_eq_true rfl) dX5_init_18 (fun H locs hP hD hS => ?_)
  have hP : va_P D vwCl ([(a, .inr (5, [.int 0, .int 0, .ref q7, .ref q16, .null, .null, .null, .int 0, .int 0, .null, .int 0, .null, .null, .int 0, .int 0, .int 0, .int 0, .int 0, .null, .int 0])), (q7, .inl (cJ, 40, .inr (.inl (fun _ => 0)))), (q16, .inl (cI, 702, .inl (fun _ => 0)))] ++ R) _ := hP
  have hD : va_D (zAb B) ([(a, .inr (5, [.int 0, .int 0, .ref q7, .ref q16, .null, .null, .null, .int 0, .int 0, .null, .int 0, .null, .null, .int 0, .int 0, .int 0, .int 0, .int 0, .null, .int 0])), (q7, .inl (cJ, 40, .inr (.inl (fun _ => 0)))), (q16, .inl (cI, 702, .inl (fun _ => 0)))] ++ R) := hD
  refine lv_aload_n hx hb dX5_init_21 rfl (lv_at hl 0 rfl) ?_
  refine lv_sipush (v := 702) hx hb dX5_init_22 (by decide) ?_
  refine va_newa (atype := .int) (ty := .int) (N' := 702) (a0 := (702, .inl (fun _ => 0))) hx hb (hts (.arrayClass .int) (List.mem_of_getElem? (i := 6) rfl)) rfl hK hP hD hS hA (fun _ => rfl) (by decide) (by decide) (Nat.le_of_ble_eq_true rfl) (Nat.le_of_ble_eq_true rfl) (Nat.le_of_ble_eq_true rfl) dX5_init_25 (fun q25 cA H hK9 hP hD hS => ?_)
  obtain rfl : cI = cA := zcA_int hK hK9
  have hP : va_P D vwCl ([(a, .inr (5, [.int 0, .int 0, .ref q7, .ref q16, .null, .null, .null, .int 0, .int 0, .null, .int 0, .null, .null, .int 0, .int 0, .int 0, .int 0, .int 0, .null, .int 0])), (q7, .inl (cJ, 40, .inr (.inl (fun _ => 0)))), (q16, .inl (cI, 702, .inl (fun _ => 0))), (q25, .inl (cI, 702, .inl (fun _ => 0)))] ++ R) H := hP.swap
  have hD : va_D (zAb B) ([(a, .inr (5, [.int 0, .int 0, .ref q7, .ref q16, .null, .null, .null, .int 0, .int 0, .null, .int 0, .null, .null, .int 0, .int 0, .int 0, .int 0, .int 0, .null, .int 0])), (q7, .inl (cJ, 40, .inr (.inl (fun _ => 0)))), (q16, .inl (cI, 702, .inl (fun _ => 0))), (q25, .inl (cI, 702, .inl (fun _ => 0)))] ++ R) := hD.swap
  refine va_putF (ci := 5) (v := .ref q25) (ty := (.array .int)) (C := RX5) (T := TX5) (N := 20) hx hb hts hinX5 tyX5 tyX5_ok nmX5 hown hK hP hD hS 0 rfl rfl 4 (by decide) (hts (.fieldLink RX5 17 "TypingTutorModel" "misses" "[I") (List.mem_of_getElem? (i := 8) rfl)) (fun _ h9 => h9) rfl hin9 rfl (by decide +kernel) rfl rfl (Nat.le_of_ble_eq_true rfl) dX5_init_27 (fun H locs hP hD hS => ?_)
  have hP : va_P D vwCl ([(a, .inr (5, [.int 0, .int 0, .ref q7, .ref q16, .ref q25, .null, .null, .int 0, .int 0, .null, .int 0, .null, .null, .int 0, .int 0, .int 0, .int 0, .int 0, .null, .int 0])), (q7, .inl (cJ, 40, .inr (.inl (fun _ => 0)))), (q16, .inl (cI, 702, .inl (fun _ => 0))), (q25, .inl (cI, 702, .inl (fun _ => 0)))] ++ R) _ := hP
  have hD : va_D (zAb B) ([(a, .inr (5, [.int 0, .int 0, .ref q7, .ref q16, .ref q25, .null, .null, .int 0, .int 0, .null, .int 0, .null, .null, .int 0, .int 0, .int 0, .int 0, .int 0, .null, .int 0])), (q7, .inl (cJ, 40, .inr (.inl (fun _ => 0)))), (q16, .inl (cI, 702, .inl (fun _ => 0))), (q25, .inl (cI, 702, .inl (fun _ => 0)))] ++ R) := hD
  refine lv_aload_n hx hb dX5_init_30 rfl (lv_at hl 0 rfl) ?_
  refine lv_sipush (v := 702) hx hb dX5_init_31 (by decide) ?_
  refine va_newa (atype := .int) (ty := .int) (N' := 702) (a0 := (702, .inl (fun _ => 0))) hx hb (hts (.arrayClass .int) (List.mem_of_getElem? (i := 6) rfl)) rfl hK hP hD hS hA (fun _ => rfl) (by decide) (by decide) (Nat.le_of_ble_eq_true rfl) (Nat.le_of_ble_eq_true rfl) (Nat.le_of_ble_eq_true rfl) dX5_init_34 (fun q34 cA H hK9 hP hD hS => ?_)
  obtain rfl : cI = cA := zcA_int hK hK9
  have hP : va_P D vwCl ([(a, .inr (5, [.int 0, .int 0, .ref q7, .ref q16, .ref q25, .null, .null, .int 0, .int 0, .null, .int 0, .null, .null, .int 0, .int 0, .int 0, .int 0, .int 0, .null, .int 0])), (q7, .inl (cJ, 40, .inr (.inl (fun _ => 0)))), (q16, .inl (cI, 702, .inl (fun _ => 0))), (q25, .inl (cI, 702, .inl (fun _ => 0))), (q34, .inl (cI, 702, .inl (fun _ => 0)))] ++ R) H := hP.swap
  have hD : va_D (zAb B) ([(a, .inr (5, [.int 0, .int 0, .ref q7, .ref q16, .ref q25, .null, .null, .int 0, .int 0, .null, .int 0, .null, .null, .int 0, .int 0, .int 0, .int 0, .int 0, .null, .int 0])), (q7, .inl (cJ, 40, .inr (.inl (fun _ => 0)))), (q16, .inl (cI, 702, .inl (fun _ => 0))), (q25, .inl (cI, 702, .inl (fun _ => 0))), (q34, .inl (cI, 702, .inl (fun _ => 0)))] ++ R) := hD.swap
  refine va_putF (ci := 5) (v := .ref q34) (ty := (.array .int)) (C := RX5) (T := TX5) (N := 20) hx hb hts hinX5 tyX5 tyX5_ok nmX5 hown hK hP hD hS 0 rfl rfl 5 (by decide) (hts (.fieldLink RX5 20 "TypingTutorModel" "levels" "[I") (List.mem_of_getElem? (i := 9) rfl)) (fun _ h9 => h9) rfl hin9 rfl (by decide +kernel) rfl rfl (Nat.le_of_ble_eq_true rfl) dX5_init_36 (fun H locs hP hD hS => ?_)
  have hP : va_P D vwCl ([(a, .inr (5, [.int 0, .int 0, .ref q7, .ref q16, .ref q25, .ref q34, .null, .int 0, .int 0, .null, .int 0, .null, .null, .int 0, .int 0, .int 0, .int 0, .int 0, .null, .int 0])), (q7, .inl (cJ, 40, .inr (.inl (fun _ => 0)))), (q16, .inl (cI, 702, .inl (fun _ => 0))), (q25, .inl (cI, 702, .inl (fun _ => 0))), (q34, .inl (cI, 702, .inl (fun _ => 0)))] ++ R) _ := hP
  have hD : va_D (zAb B) ([(a, .inr (5, [.int 0, .int 0, .ref q7, .ref q16, .ref q25, .ref q34, .null, .int 0, .int 0, .null, .int 0, .null, .null, .int 0, .int 0, .int 0, .int 0, .int 0, .null, .int 0])), (q7, .inl (cJ, 40, .inr (.inl (fun _ => 0)))), (q16, .inl (cI, 702, .inl (fun _ => 0))), (q25, .inl (cI, 702, .inl (fun _ => 0))), (q34, .inl (cI, 702, .inl (fun _ => 0)))] ++ R) := hD
  refine lv_aload_n hx hb dX5_init_39 rfl (lv_at hl 0 rfl) ?_
  refine lv_iconst (v := 5) hx hb dX5_init_40 (by decide) ?_
  refine va_newa (atype := .int) (ty := .int) (N' := 5) (a0 := (5, .inl (fun _ => 0))) hx hb (hts (.arrayClass .int) (List.mem_of_getElem? (i := 6) rfl)) rfl hK hP hD hS hA (fun _ => rfl) (by decide) (by decide) (Nat.le_of_ble_eq_true rfl) (Nat.le_of_ble_eq_true rfl) (Nat.le_of_ble_eq_true rfl) dX5_init_41 (fun q41 cA H hK9 hP hD hS => ?_)
  obtain rfl : cI = cA := zcA_int hK hK9
  have hP : va_P D vwCl ([(a, .inr (5, [.int 0, .int 0, .ref q7, .ref q16, .ref q25, .ref q34, .null, .int 0, .int 0, .null, .int 0, .null, .null, .int 0, .int 0, .int 0, .int 0, .int 0, .null, .int 0])), (q7, .inl (cJ, 40, .inr (.inl (fun _ => 0)))), (q16, .inl (cI, 702, .inl (fun _ => 0))), (q25, .inl (cI, 702, .inl (fun _ => 0))), (q34, .inl (cI, 702, .inl (fun _ => 0))), (q41, .inl (cI, 5, .inl (fun _ => 0)))] ++ R) H := hP.swap
  have hD : va_D (zAb B) ([(a, .inr (5, [.int 0, .int 0, .ref q7, .ref q16, .ref q25, .ref q34, .null, .int 0, .int 0, .null, .int 0, .null, .null, .int 0, .int 0, .int 0, .int 0, .int 0, .null, .int 0])), (q7, .inl (cJ, 40, .inr (.inl (fun _ => 0)))), (q16, .inl (cI, 702, .inl (fun _ => 0))), (q25, .inl (cI, 702, .inl (fun _ => 0))), (q34, .inl (cI, 702, .inl (fun _ => 0))), (q41, .inl (cI, 5, .inl (fun _ => 0)))] ++ R) := hD.swap
  refine va_putF (ci := 5) (v := .ref q41) (ty := (.array .int)) (C := RX5) (T := TX5) (N := 20) hx hb hts hinX5 tyX5 tyX5_ok nmX5 hown hK hP hD hS 0 rfl rfl 6 (by decide) (hts (.fieldLink RX5 23 "TypingTutorModel" "kindCounts" "[I") (List.mem_of_getElem? (i := 10) rfl)) (fun _ h9 => h9) rfl hin9 rfl (by decide +kernel) rfl rfl (Nat.le_of_ble_eq_true rfl) dX5_init_43 (fun H locs hP hD hS => ?_)
  have hP : va_P D vwCl ([(a, .inr (5, [.int 0, .int 0, .ref q7, .ref q16, .ref q25, .ref q34, .ref q41, .int 0, .int 0, .null, .int 0, .null, .null, .int 0, .int 0, .int 0, .int 0, .int 0, .null, .int 0])), (q7, .inl (cJ, 40, .inr (.inl (fun _ => 0)))), (q16, .inl (cI, 702, .inl (fun _ => 0))), (q25, .inl (cI, 702, .inl (fun _ => 0))), (q34, .inl (cI, 702, .inl (fun _ => 0))), (q41, .inl (cI, 5, .inl (fun _ => 0)))] ++ R) _ := hP
  have hD : va_D (zAb B) ([(a, .inr (5, [.int 0, .int 0, .ref q7, .ref q16, .ref q25, .ref q34, .ref q41, .int 0, .int 0, .null, .int 0, .null, .null, .int 0, .int 0, .int 0, .int 0, .int 0, .null, .int 0])), (q7, .inl (cJ, 40, .inr (.inl (fun _ => 0)))), (q16, .inl (cI, 702, .inl (fun _ => 0))), (q25, .inl (cI, 702, .inl (fun _ => 0))), (q34, .inl (cI, 702, .inl (fun _ => 0))), (q41, .inl (cI, 5, .inl (fun _ => 0)))] ++ R) := hD
  refine lv_aload_n hx hb dX5_init_46 rfl (lv_at hl 0 rfl) ?_
  refine lv_bipush (v := 6) hx hb dX5_init_47 (by decide) ?_
  refine va_newa (atype := .int) (ty := .int) (N' := 6) (a0 := (6, .inl (fun _ => 0))) hx hb (hts (.arrayClass .int) (List.mem_of_getElem? (i := 6) rfl)) rfl hK hP hD hS hA (fun _ => rfl) (by decide) (by decide) (Nat.le_of_ble_eq_true rfl) (Nat.le_of_ble_eq_true rfl) (Nat.le_of_ble_eq_true rfl) dX5_init_49 (fun q49 cA H hK9 hP hD hS => ?_)
  obtain rfl : cI = cA := zcA_int hK hK9
  have hP : va_P D vwCl ([(a, .inr (5, [.int 0, .int 0, .ref q7, .ref q16, .ref q25, .ref q34, .ref q41, .int 0, .int 0, .null, .int 0, .null, .null, .int 0, .int 0, .int 0, .int 0, .int 0, .null, .int 0])), (q7, .inl (cJ, 40, .inr (.inl (fun _ => 0)))), (q16, .inl (cI, 702, .inl (fun _ => 0))), (q25, .inl (cI, 702, .inl (fun _ => 0))), (q34, .inl (cI, 702, .inl (fun _ => 0))), (q41, .inl (cI, 5, .inl (fun _ => 0))), (q49, .inl (cI, 6, .inl (fun _ => 0)))] ++ R) H := hP.swap
  have hD : va_D (zAb B) ([(a, .inr (5, [.int 0, .int 0, .ref q7, .ref q16, .ref q25, .ref q34, .ref q41, .int 0, .int 0, .null, .int 0, .null, .null, .int 0, .int 0, .int 0, .int 0, .int 0, .null, .int 0])), (q7, .inl (cJ, 40, .inr (.inl (fun _ => 0)))), (q16, .inl (cI, 702, .inl (fun _ => 0))), (q25, .inl (cI, 702, .inl (fun _ => 0))), (q34, .inl (cI, 702, .inl (fun _ => 0))), (q41, .inl (cI, 5, .inl (fun _ => 0))), (q49, .inl (cI, 6, .inl (fun _ => 0)))] ++ R) := hD.swap
  refine va_putF (ci := 5) (v := .ref q49) (ty := (.array .int)) (C := RX5) (T := TX5) (N := 20) hx hb hts hinX5 tyX5 tyX5_ok nmX5 hown hK hP hD hS 0 rfl rfl 9 (by decide) (hts (.fieldLink RX5 26 "TypingTutorModel" "chosen" "[I") (List.mem_of_getElem? (i := 11) rfl)) (fun _ h9 => h9) rfl hin9 rfl (by decide +kernel) rfl rfl (Nat.le_of_ble_eq_true rfl) dX5_init_51 (fun H locs hP hD hS => ?_)
  have hP : va_P D vwCl ([(a, .inr (5, [.int 0, .int 0, .ref q7, .ref q16, .ref q25, .ref q34, .ref q41, .int 0, .int 0, .ref q49, .int 0, .null, .null, .int 0, .int 0, .int 0, .int 0, .int 0, .null, .int 0])), (q7, .inl (cJ, 40, .inr (.inl (fun _ => 0)))), (q16, .inl (cI, 702, .inl (fun _ => 0))), (q25, .inl (cI, 702, .inl (fun _ => 0))), (q34, .inl (cI, 702, .inl (fun _ => 0))), (q41, .inl (cI, 5, .inl (fun _ => 0))), (q49, .inl (cI, 6, .inl (fun _ => 0)))] ++ R) _ := hP
  have hD : va_D (zAb B) ([(a, .inr (5, [.int 0, .int 0, .ref q7, .ref q16, .ref q25, .ref q34, .ref q41, .int 0, .int 0, .ref q49, .int 0, .null, .null, .int 0, .int 0, .int 0, .int 0, .int 0, .null, .int 0])), (q7, .inl (cJ, 40, .inr (.inl (fun _ => 0)))), (q16, .inl (cI, 702, .inl (fun _ => 0))), (q25, .inl (cI, 702, .inl (fun _ => 0))), (q34, .inl (cI, 702, .inl (fun _ => 0))), (q41, .inl (cI, 5, .inl (fun _ => 0))), (q49, .inl (cI, 6, .inl (fun _ => 0)))] ++ R) := hD
  refine lv_aload_n hx hb dX5_init_54 rfl (lv_at hl 0 rfl) ?_
  refine lv_bipush (v := 48) hx hb dX5_init_55 (by decide) ?_
  refine va_newa (atype := .int) (ty := .int) (N' := 48) (a0 := (48, .inl (fun _ => 0))) hx hb (hts (.arrayClass .int) (List.mem_of_getElem? (i := 6) rfl)) rfl hK hP hD hS hA (fun _ => rfl) (by decide) (by decide) (Nat.le_of_ble_eq_true rfl) (Nat.le_of_ble_eq_true rfl) (Nat.le_of_ble_eq_true rfl) dX5_init_57 (fun q57 cA H hK9 hP hD hS => ?_)
  obtain rfl : cI = cA := zcA_int hK hK9
  have hP : va_P D vwCl ([(a, .inr (5, [.int 0, .int 0, .ref q7, .ref q16, .ref q25, .ref q34, .ref q41, .int 0, .int 0, .ref q49, .int 0, .null, .null, .int 0, .int 0, .int 0, .int 0, .int 0, .null, .int 0])), (q7, .inl (cJ, 40, .inr (.inl (fun _ => 0)))), (q16, .inl (cI, 702, .inl (fun _ => 0))), (q25, .inl (cI, 702, .inl (fun _ => 0))), (q34, .inl (cI, 702, .inl (fun _ => 0))), (q41, .inl (cI, 5, .inl (fun _ => 0))), (q49, .inl (cI, 6, .inl (fun _ => 0))), (q57, .inl (cI, 48, .inl (fun _ => 0)))] ++ R) H := hP.swap
  have hD : va_D (zAb B) ([(a, .inr (5, [.int 0, .int 0, .ref q7, .ref q16, .ref q25, .ref q34, .ref q41, .int 0, .int 0, .ref q49, .int 0, .null, .null, .int 0, .int 0, .int 0, .int 0, .int 0, .null, .int 0])), (q7, .inl (cJ, 40, .inr (.inl (fun _ => 0)))), (q16, .inl (cI, 702, .inl (fun _ => 0))), (q25, .inl (cI, 702, .inl (fun _ => 0))), (q34, .inl (cI, 702, .inl (fun _ => 0))), (q41, .inl (cI, 5, .inl (fun _ => 0))), (q49, .inl (cI, 6, .inl (fun _ => 0))), (q57, .inl (cI, 48, .inl (fun _ => 0)))] ++ R) := hD.swap
  refine va_putF (ci := 5) (v := .ref q57) (ty := (.array .int)) (C := RX5) (T := TX5) (N := 20) hx hb hts hinX5 tyX5 tyX5_ok nmX5 hown hK hP hD hS 0 rfl rfl 11 (by decide) (hts (.fieldLink RX5 29 "TypingTutorModel" "text" "[I") (List.mem_of_getElem? (i := 12) rfl)) (fun _ h9 => h9) rfl hin9 rfl (by decide +kernel) rfl rfl (Nat.le_of_ble_eq_true rfl) dX5_init_59 (fun H locs hP hD hS => ?_)
  have hP : va_P D vwCl ([(a, .inr (5, [.int 0, .int 0, .ref q7, .ref q16, .ref q25, .ref q34, .ref q41, .int 0, .int 0, .ref q49, .int 0, .ref q57, .null, .int 0, .int 0, .int 0, .int 0, .int 0, .null, .int 0])), (q7, .inl (cJ, 40, .inr (.inl (fun _ => 0)))), (q16, .inl (cI, 702, .inl (fun _ => 0))), (q25, .inl (cI, 702, .inl (fun _ => 0))), (q34, .inl (cI, 702, .inl (fun _ => 0))), (q41, .inl (cI, 5, .inl (fun _ => 0))), (q49, .inl (cI, 6, .inl (fun _ => 0))), (q57, .inl (cI, 48, .inl (fun _ => 0)))] ++ R) _ := hP
  have hD : va_D (zAb B) ([(a, .inr (5, [.int 0, .int 0, .ref q7, .ref q16, .ref q25, .ref q34, .ref q41, .int 0, .int 0, .ref q49, .int 0, .ref q57, .null, .int 0, .int 0, .int 0, .int 0, .int 0, .null, .int 0])), (q7, .inl (cJ, 40, .inr (.inl (fun _ => 0)))), (q16, .inl (cI, 702, .inl (fun _ => 0))), (q25, .inl (cI, 702, .inl (fun _ => 0))), (q34, .inl (cI, 702, .inl (fun _ => 0))), (q41, .inl (cI, 5, .inl (fun _ => 0))), (q49, .inl (cI, 6, .inl (fun _ => 0))), (q57, .inl (cI, 48, .inl (fun _ => 0)))] ++ R) := hD
  refine lv_aload_n hx hb dX5_init_62 rfl (lv_at hl 0 rfl) ?_
  refine lv_bipush (v := 49) hx hb dX5_init_63 (by decide) ?_
  refine va_newa (atype := .boolean) (ty := .boolean) (N' := 49) (a0 := (49, .inl (fun _ => 0))) hx hb (hts (.arrayClass .boolean) (List.mem_of_getElem? (i := 13) rfl)) rfl hK hP hD hS hA (fun _ => rfl) (by decide) (by decide) (Nat.le_of_ble_eq_true rfl) (Nat.le_of_ble_eq_true rfl) (Nat.le_of_ble_eq_true rfl) dX5_init_65 (fun q65 cA H hK9 hP hD hS => ?_)
  obtain rfl : cZ = cA := zcA_bool hK hK9
  have hP : va_P D vwCl ([(a, .inr (5, [.int 0, .int 0, .ref q7, .ref q16, .ref q25, .ref q34, .ref q41, .int 0, .int 0, .ref q49, .int 0, .ref q57, .null, .int 0, .int 0, .int 0, .int 0, .int 0, .null, .int 0])), (q7, .inl (cJ, 40, .inr (.inl (fun _ => 0)))), (q16, .inl (cI, 702, .inl (fun _ => 0))), (q25, .inl (cI, 702, .inl (fun _ => 0))), (q34, .inl (cI, 702, .inl (fun _ => 0))), (q41, .inl (cI, 5, .inl (fun _ => 0))), (q49, .inl (cI, 6, .inl (fun _ => 0))), (q57, .inl (cI, 48, .inl (fun _ => 0))), (q65, .inl (cZ, 49, .inl (fun _ => 0)))] ++ R) H := hP.swap
  have hD : va_D (zAb B) ([(a, .inr (5, [.int 0, .int 0, .ref q7, .ref q16, .ref q25, .ref q34, .ref q41, .int 0, .int 0, .ref q49, .int 0, .ref q57, .null, .int 0, .int 0, .int 0, .int 0, .int 0, .null, .int 0])), (q7, .inl (cJ, 40, .inr (.inl (fun _ => 0)))), (q16, .inl (cI, 702, .inl (fun _ => 0))), (q25, .inl (cI, 702, .inl (fun _ => 0))), (q34, .inl (cI, 702, .inl (fun _ => 0))), (q41, .inl (cI, 5, .inl (fun _ => 0))), (q49, .inl (cI, 6, .inl (fun _ => 0))), (q57, .inl (cI, 48, .inl (fun _ => 0))), (q65, .inl (cZ, 49, .inl (fun _ => 0)))] ++ R) := hD.swap
  refine va_putF (ci := 5) (v := .ref q65) (ty := (.array .boolean)) (C := RX5) (T := TX5) (N := 20) hx hb hts hinX5 tyX5 tyX5_ok nmX5 hown hK hP hD hS 0 rfl rfl 12 (by decide) (hts (.fieldLink RX5 32 "TypingTutorModel" "areFirst" "[Z") (List.mem_of_getElem? (i := 14) rfl)) (fun _ h9 => h9) rfl hin9 rfl (by decide +kernel) rfl rfl (Nat.le_of_ble_eq_true rfl) dX5_init_67 (fun H locs hP hD hS => ?_)
  have hP : va_P D vwCl ([(a, .inr (5, [.int 0, .int 0, .ref q7, .ref q16, .ref q25, .ref q34, .ref q41, .int 0, .int 0, .ref q49, .int 0, .ref q57, .ref q65, .int 0, .int 0, .int 0, .int 0, .int 0, .null, .int 0])), (q7, .inl (cJ, 40, .inr (.inl (fun _ => 0)))), (q16, .inl (cI, 702, .inl (fun _ => 0))), (q25, .inl (cI, 702, .inl (fun _ => 0))), (q34, .inl (cI, 702, .inl (fun _ => 0))), (q41, .inl (cI, 5, .inl (fun _ => 0))), (q49, .inl (cI, 6, .inl (fun _ => 0))), (q57, .inl (cI, 48, .inl (fun _ => 0))), (q65, .inl (cZ, 49, .inl (fun _ => 0)))] ++ R) _ := hP
  have hD : va_D (zAb B) ([(a, .inr (5, [.int 0, .int 0, .ref q7, .ref q16, .ref q25, .ref q34, .ref q41, .int 0, .int 0, .ref q49, .int 0, .ref q57, .ref q65, .int 0, .int 0, .int 0, .int 0, .int 0, .null, .int 0])), (q7, .inl (cJ, 40, .inr (.inl (fun _ => 0)))), (q16, .inl (cI, 702, .inl (fun _ => 0))), (q25, .inl (cI, 702, .inl (fun _ => 0))), (q34, .inl (cI, 702, .inl (fun _ => 0))), (q41, .inl (cI, 5, .inl (fun _ => 0))), (q49, .inl (cI, 6, .inl (fun _ => 0))), (q57, .inl (cI, 48, .inl (fun _ => 0))), (q65, .inl (cZ, 49, .inl (fun _ => 0)))] ++ R) := hD
  refine lv_aload_n hx hb dX5_init_70 rfl (lv_at hl 0 rfl) ?_
  refine lv_bipush (v := 12) hx hb dX5_init_71 (by decide) ?_
  refine va_newa (atype := .int) (ty := .int) (N' := 12) (a0 := (12, .inl (fun _ => 0))) hx hb (hts (.arrayClass .int) (List.mem_of_getElem? (i := 6) rfl)) rfl hK hP hD hS hA (fun _ => rfl) (by decide) (by decide) (Nat.le_of_ble_eq_true rfl) (Nat.le_of_ble_eq_true rfl) (Nat.le_of_ble_eq_true rfl) dX5_init_73 (fun q73 cA H hK9 hP hD hS => ?_)
  obtain rfl : cI = cA := zcA_int hK hK9
  have hP : va_P D vwCl ([(a, .inr (5, [.int 0, .int 0, .ref q7, .ref q16, .ref q25, .ref q34, .ref q41, .int 0, .int 0, .ref q49, .int 0, .ref q57, .ref q65, .int 0, .int 0, .int 0, .int 0, .int 0, .null, .int 0])), (q7, .inl (cJ, 40, .inr (.inl (fun _ => 0)))), (q16, .inl (cI, 702, .inl (fun _ => 0))), (q25, .inl (cI, 702, .inl (fun _ => 0))), (q34, .inl (cI, 702, .inl (fun _ => 0))), (q41, .inl (cI, 5, .inl (fun _ => 0))), (q49, .inl (cI, 6, .inl (fun _ => 0))), (q57, .inl (cI, 48, .inl (fun _ => 0))), (q65, .inl (cZ, 49, .inl (fun _ => 0))), (q73, .inl (cI, 12, .inl (fun _ => 0)))] ++ R) H := hP.swap
  have hD : va_D (zAb B) ([(a, .inr (5, [.int 0, .int 0, .ref q7, .ref q16, .ref q25, .ref q34, .ref q41, .int 0, .int 0, .ref q49, .int 0, .ref q57, .ref q65, .int 0, .int 0, .int 0, .int 0, .int 0, .null, .int 0])), (q7, .inl (cJ, 40, .inr (.inl (fun _ => 0)))), (q16, .inl (cI, 702, .inl (fun _ => 0))), (q25, .inl (cI, 702, .inl (fun _ => 0))), (q34, .inl (cI, 702, .inl (fun _ => 0))), (q41, .inl (cI, 5, .inl (fun _ => 0))), (q49, .inl (cI, 6, .inl (fun _ => 0))), (q57, .inl (cI, 48, .inl (fun _ => 0))), (q65, .inl (cZ, 49, .inl (fun _ => 0))), (q73, .inl (cI, 12, .inl (fun _ => 0)))] ++ R) := hD.swap
  refine va_put (ci := 5) (v := .ref q73) (ty := (.array .int)) (C := RX5) (T := TX5) (N := 20) hx hb hts hinX5 tyX5 tyX5_ok nmX5 hown hK hP hD hS 0 rfl rfl 18 (by decide) (hts (.fieldLink RX5 36 "TypingTutorModel" "history" "[I") (List.mem_of_getElem? (i := 15) rfl)) (fun _ h9 => h9) rfl (by decide +kernel) rfl rfl (Nat.le_of_ble_eq_true rfl) dX5_init_75 (fun H locs hP hD hS => ?_)
  have hP : va_P D vwCl ([(a, .inr (5, [.int 0, .int 0, .ref q7, .ref q16, .ref q25, .ref q34, .ref q41, .int 0, .int 0, .ref q49, .int 0, .ref q57, .ref q65, .int 0, .int 0, .int 0, .int 0, .int 0, .ref q73, .int 0])), (q7, .inl (cJ, 40, .inr (.inl (fun _ => 0)))), (q16, .inl (cI, 702, .inl (fun _ => 0))), (q25, .inl (cI, 702, .inl (fun _ => 0))), (q34, .inl (cI, 702, .inl (fun _ => 0))), (q41, .inl (cI, 5, .inl (fun _ => 0))), (q49, .inl (cI, 6, .inl (fun _ => 0))), (q57, .inl (cI, 48, .inl (fun _ => 0))), (q65, .inl (cZ, 49, .inl (fun _ => 0))), (q73, .inl (cI, 12, .inl (fun _ => 0)))] ++ R) _ := hP
  have hD : va_D (zAb B) ([(a, .inr (5, [.int 0, .int 0, .ref q7, .ref q16, .ref q25, .ref q34, .ref q41, .int 0, .int 0, .ref q49, .int 0, .ref q57, .ref q65, .int 0, .int 0, .int 0, .int 0, .int 0, .ref q73, .int 0])), (q7, .inl (cJ, 40, .inr (.inl (fun _ => 0)))), (q16, .inl (cI, 702, .inl (fun _ => 0))), (q25, .inl (cI, 702, .inl (fun _ => 0))), (q34, .inl (cI, 702, .inl (fun _ => 0))), (q41, .inl (cI, 5, .inl (fun _ => 0))), (q49, .inl (cI, 6, .inl (fun _ => 0))), (q57, .inl (cI, 48, .inl (fun _ => 0))), (q65, .inl (cZ, 49, .inl (fun _ => 0))), (q73, .inl (cI, 12, .inl (fun _ => 0)))] ++ R) := hD
  refine lv_aload_n hx hb dX5_init_78 rfl (lv_at hl 0 rfl) ?_
  refine lv_bipush (v := 100) hx hb dX5_init_79 (by decide) ?_
  refine va_put (ci := 5) (v := .int 100) (ty := .int) (C := RX5) (T := TX5) (N := 20) hx hb hts hinX5 tyX5 tyX5_ok nmX5 hown hK hP hD hS 0 rfl rfl 19 (by decide) (hts (.fieldLink RX5 39 "TypingTutorModel" "pace" "I") (List.mem_of_getElem? (i := 16) rfl)) (fun _ h9 => h9) rfl (by decide +kernel) rfl rfl (Nat.le_of_ble_eq_true rfl) dX5_init_81 (fun H locs hP hD hS => ?_)
  have hP : va_P D vwCl ([(a, .inr (5, [.int 0, .int 0, .ref q7, .ref q16, .ref q25, .ref q34, .ref q41, .int 0, .int 0, .ref q49, .int 0, .ref q57, .ref q65, .int 0, .int 0, .int 0, .int 0, .int 0, .ref q73, .int 100])), (q7, .inl (cJ, 40, .inr (.inl (fun _ => 0)))), (q16, .inl (cI, 702, .inl (fun _ => 0))), (q25, .inl (cI, 702, .inl (fun _ => 0))), (q34, .inl (cI, 702, .inl (fun _ => 0))), (q41, .inl (cI, 5, .inl (fun _ => 0))), (q49, .inl (cI, 6, .inl (fun _ => 0))), (q57, .inl (cI, 48, .inl (fun _ => 0))), (q65, .inl (cZ, 49, .inl (fun _ => 0))), (q73, .inl (cI, 12, .inl (fun _ => 0)))] ++ R) _ := hP
  have hD : va_D (zAb B) ([(a, .inr (5, [.int 0, .int 0, .ref q7, .ref q16, .ref q25, .ref q34, .ref q41, .int 0, .int 0, .ref q49, .int 0, .ref q57, .ref q65, .int 0, .int 0, .int 0, .int 0, .int 0, .ref q73, .int 100])), (q7, .inl (cJ, 40, .inr (.inl (fun _ => 0)))), (q16, .inl (cI, 702, .inl (fun _ => 0))), (q25, .inl (cI, 702, .inl (fun _ => 0))), (q34, .inl (cI, 702, .inl (fun _ => 0))), (q41, .inl (cI, 5, .inl (fun _ => 0))), (q49, .inl (cI, 6, .inl (fun _ => 0))), (q57, .inl (cI, 48, .inl (fun _ => 0))), (q65, .inl (cZ, 49, .inl (fun _ => 0))), (q73, .inl (cI, 12, .inl (fun _ => 0)))] ++ R) := hD
  refine lv_iconst (v := 0) hx hb dX5_init_84 (by decide) ?_
  refine lv_istore_n (lv' := [(1, .int 0), (0, .ref a)]) hx hb dX5_init_85 rfl hl (by decide) rfl (fun ls hl => ?_)
  have hP : va_P D vwCl ([(a, .inr (5, [.int 0, .int 0, .ref q7, .ref q16, .ref q25, .ref q34, .ref q41, .int 0, .int 0, .ref q49, .int 0, .ref q57, .ref q65, .int 0, .int 0, .int 0, .int 0, .int 0, .ref q73, .int 100])), (q7, .inl (cJ, 40, .inr (.inl (fun _ => 0)))), (q16, .inl (cI, 702, .inl (fun _ => 0))), (q25, .inl (cI, 702, .inl (fun _ => 0))), (q34, .inl (cI, 702, .inl (zfil 0 500 (fun _ => 0)))), (q41, .inl (cI, 5, .inl (fun _ => 0))), (q49, .inl (cI, 6, .inl (fun _ => 0))), (q57, .inl (cI, 48, .inl (fun _ => 0))), (q65, .inl (cZ, 49, .inl (fun _ => 0))), (q73, .inl (cI, 12, .inl (fun _ => 0)))] ++ R) H := by rw [zfil_0]; exact hP
  have hD : va_D (zAb B) ([(a, .inr (5, [.int 0, .int 0, .ref q7, .ref q16, .ref q25, .ref q34, .ref q41, .int 0, .int 0, .ref q49, .int 0, .ref q57, .ref q65, .int 0, .int 0, .int 0, .int 0, .int 0, .ref q73, .int 100])), (q7, .inl (cJ, 40, .inr (.inl (fun _ => 0)))), (q16, .inl (cI, 702, .inl (fun _ => 0))), (q25, .inl (cI, 702, .inl (fun _ => 0))), (q34, .inl (cI, 702, .inl (zfil 0 500 (fun _ => 0)))), (q41, .inl (cI, 5, .inl (fun _ => 0))), (q49, .inl (cI, 6, .inl (fun _ => 0))), (q57, .inl (cI, 48, .inl (fun _ => 0))), (q65, .inl (cZ, 49, .inl (fun _ => 0))), (q73, .inl (cI, 12, .inl (fun _ => 0)))] ++ R) := by rw [zfil_0]; exact hD
  refine zloop (σ := (Nat)) (nL := 2) (fun x9 => ([(a, .inr (5, [.int 0, .int 0, .ref q7, .ref q16, .ref q25, .ref q34, .ref q41, .int 0, .int 0, .ref q49, .int 0, .ref q57, .ref q65, .int 0, .int 0, .int 0, .int 0, .int 0, .ref q73, .int 100])), (q7, .inl (cJ, 40, .inr (.inl (fun _ => 0)))), (q16, .inl (cI, 702, .inl (fun _ => 0))), (q25, .inl (cI, 702, .inl (fun _ => 0))), (q34, .inl (cI, 702, .inl (zfil x9 500 (fun _ => 0)))), (q41, .inl (cI, 5, .inl (fun _ => 0))), (q49, .inl (cI, 6, .inl (fun _ => 0))), (q57, .inl (cI, 48, .inl (fun _ => 0))), (q65, .inl (cZ, 49, .inl (fun _ => 0))), (q73, .inl (cI, 12, .inl (fun _ => 0)))] ++ R)) (fun x9 => [(1, .int (nI x9)), (0, .ref a)]) (fun x9 => []) (fun x9 => x9 ≤ 702) (fun x9 => 702 - x9) ?_ (0) (by omega) _ _ _ hP hD hS (lv_sub hl [0, 1] rfl)
  rintro j hI ih H locs ls hP hD hS hl
  try dsimp only at hI ih hP hD hS hl ⊢
  refine lv_iload_n hx hb dX5_init_86 rfl (lv_at hl 0 rfl) ?_
  refine lv_aload_n hx hb dX5_init_87 rfl (lv_at hl 1 rfl) ?_
  refine va_get (ci := 5) (v := .ref q34) (C := RX5) (T := TX5) (N := 20) hx hb hts hinX5 hown hK hP 0 rfl rfl 5 (by decide) (hts (.fieldLink RX5 20 "TypingTutorModel" "levels" "[I") (List.mem_of_getElem? (i := 9) rfl)) (fun _ h9 => h9) rfl dX5_init_88 ?_
  refine va_alen hx hb hK hP 4 0 rfl rfl (v := 702) rfl dX5_init_91 ?_
  refine lv_icmp_ge (tgt := 110) hx hb dX5_init_92 (by decide) (fun c_1 => ?_) (fun c_1 => ?_)
  · skip
    have c_1 : 702 ≤ j := (nI_leI (a := 702) (b := j) (by omega) (by omega)).mp c_1
    obtain rfl : 702 = j := by omega
    have hP : va_P D vwCl (zWM cI cJ cZ (fun k => if k = 0 then a else if k = 1 then q7 else if k = 2 then q16 else if k = 3 then q25 else if k = 4 then q34 else if k = 5 then q41 else if k = 6 then q49 else if k = 7 then q57 else if k = 8 then q65 else q73) 0 (0, (fun _ => 0)) ((zcb (fun _ => 0) (fun _ => 0)), (zcb (fun _ => 0) (fun _ => 0)), (zcb (zfil 26 500 (fun _ => 0)) (zfil 676 500 (fun _ => 0)))) (fun _ => 0) (false, 0, (fun _ => 0), 0, (fun _ => 0), (fun _ => 0), 0, 0, 0, 0) (0, 12, (fun _ => 0), 100) ++ R) H := by rw [zcb_00, zcb_lv]; exact va_P.part (X := [(a, .inr (5, [.int 0, .int 0, .ref q7, .ref q16, .ref q25, .ref q34, .ref q41, .int 0, .int 0, .ref q49, .int 0, .ref q57, .ref q65, .int 0, .int 0, .int 0, .int 0, .int 0, .ref q73, .int 100])), (q7, .inl (cJ, 40, .inr (.inl (fun _ => 0)))), (q16, .inl (cI, 702, .inl (fun _ => 0))), (q25, .inl (cI, 702, .inl (fun _ => 0))), (q34, .inl (cI, 702, .inl (zfil 702 500 (fun _ => 0)))), (q41, .inl (cI, 5, .inl (fun _ => 0))), (q49, .inl (cI, 6, .inl (fun _ => 0))), (q57, .inl (cI, 48, .inl (fun _ => 0))), (q65, .inl (cZ, 49, .inl (fun _ => 0))), (q73, .inl (cI, 12, .inl (fun _ => 0)))]) hP [0, 1, 2, 3, 4, 5, 6, 7, 8, 9] rfl
    have hD : va_D (zAb B) (zWM cI cJ cZ (fun k => if k = 0 then a else if k = 1 then q7 else if k = 2 then q16 else if k = 3 then q25 else if k = 4 then q34 else if k = 5 then q41 else if k = 6 then q49 else if k = 7 then q57 else if k = 8 then q65 else q73) 0 (0, (fun _ => 0)) ((zcb (fun _ => 0) (fun _ => 0)), (zcb (fun _ => 0) (fun _ => 0)), (zcb (zfil 26 500 (fun _ => 0)) (zfil 676 500 (fun _ => 0)))) (fun _ => 0) (false, 0, (fun _ => 0), 0, (fun _ => 0), (fun _ => 0), 0, 0, 0, 0) (0, 12, (fun _ => 0), 100) ++ R) := by rw [zcb_00, zcb_lv]; exact va_D.part (X := [(a, .inr (5, [.int 0, .int 0, .ref q7, .ref q16, .ref q25, .ref q34, .ref q41, .int 0, .int 0, .ref q49, .int 0, .ref q57, .ref q65, .int 0, .int 0, .int 0, .int 0, .int 0, .ref q73, .int 100])), (q7, .inl (cJ, 40, .inr (.inl (fun _ => 0)))), (q16, .inl (cI, 702, .inl (fun _ => 0))), (q25, .inl (cI, 702, .inl (fun _ => 0))), (q34, .inl (cI, 702, .inl (zfil 702 500 (fun _ => 0)))), (q41, .inl (cI, 5, .inl (fun _ => 0))), (q49, .inl (cI, 6, .inl (fun _ => 0))), (q57, .inl (cI, 48, .inl (fun _ => 0))), (q65, .inl (cZ, 49, .inl (fun _ => 0))), (q73, .inl (cI, 12, .inl (fun _ => 0)))]) hD [0, 1, 2, 3, 4, 5, 6, 7, 8, 9] (by decide) rfl
    exact W.vret hx hb hr (fun t ht hW => ⟨⟨((fun k => if k = 0 then a else if k = 1 then q7 else if k = 2 then q16 else if k = 3 then q25 else if k = 4 then q34 else if k = 5 then q41 else if k = 6 then q49 else if k = 7 then q57 else if k = 8 then q65 else q73)), rfl, trivial, by rw [ht]; exact hP, hD⟩, hS.F ht⟩) hS.2.2 dX5_init_110
  · skip
    have c_1 : ¬ 702 ≤ j := fun hh => c_1 ((nI_leI (a := 702) (b := j) (by omega) (by omega)).mpr hh)
    refine lv_aload_n hx hb dX5_init_95 rfl (lv_at hl 1 rfl) ?_
    refine va_get (ci := 5) (v := .ref q34) (C := RX5) (T := TX5) (N := 20) hx hb hts hinX5 hown hK hP 0 rfl rfl 5 (by decide) (hts (.fieldLink RX5 20 "TypingTutorModel" "levels" "[I") (List.mem_of_getElem? (i := 9) rfl)) (fun _ h9 => h9) rfl dX5_init_96 ?_
    refine lv_iload_n hx hb dX5_init_99 rfl (lv_at hl 0 rfl) ?_
    refine lv_sipush (v := 500) hx hb dX5_init_100 (by decide) ?_
    refine va_iast hx hb hK hP hD hS 4 0 rfl rfl (vp_in_nI (n := j) (N := 702) (by omega) (by omega)) dX5_init_103 (fun H locs hP hD hS => ?_)
    rw [pk_cl (x := (nI j)) j (rfl) (by omega)] at hP hD
    have hP : va_P D vwCl ([(a, .inr (5, [.int 0, .int 0, .ref q7, .ref q16, .ref q25, .ref q34, .ref q41, .int 0, .int 0, .ref q49, .int 0, .ref q57, .ref q65, .int 0, .int 0, .int 0, .int 0, .int 0, .ref q73, .int 100])), (q7, .inl (cJ, 40, .inr (.inl (fun _ => 0)))), (q16, .inl (cI, 702, .inl (fun _ => 0))), (q25, .inl (cI, 702, .inl (fun _ => 0))), (q34, .inl (cI, 702, .inl (upd (zfil j 500 (fun _ => 0)) j 500))), (q41, .inl (cI, 5, .inl (fun _ => 0))), (q49, .inl (cI, 6, .inl (fun _ => 0))), (q57, .inl (cI, 48, .inl (fun _ => 0))), (q65, .inl (cZ, 49, .inl (fun _ => 0))), (q73, .inl (cI, 12, .inl (fun _ => 0)))] ++ R) _ := hP
    have hD : va_D (zAb B) ([(a, .inr (5, [.int 0, .int 0, .ref q7, .ref q16, .ref q25, .ref q34, .ref q41, .int 0, .int 0, .ref q49, .int 0, .ref q57, .ref q65, .int 0, .int 0, .int 0, .int 0, .int 0, .ref q73, .int 100])), (q7, .inl (cJ, 40, .inr (.inl (fun _ => 0)))), (q16, .inl (cI, 702, .inl (fun _ => 0))), (q25, .inl (cI, 702, .inl (fun _ => 0))), (q34, .inl (cI, 702, .inl (upd (zfil j 500 (fun _ => 0)) j 500))), (q41, .inl (cI, 5, .inl (fun _ => 0))), (q49, .inl (cI, 6, .inl (fun _ => 0))), (q57, .inl (cI, 48, .inl (fun _ => 0))), (q65, .inl (cZ, 49, .inl (fun _ => 0))), (q73, .inl (cI, 12, .inl (fun _ => 0)))] ++ R) := hD
    have hP : va_P D vwCl ([(a, .inr (5, [.int 0, .int 0, .ref q7, .ref q16, .ref q25, .ref q34, .ref q41, .int 0, .int 0, .ref q49, .int 0, .ref q57, .ref q65, .int 0, .int 0, .int 0, .int 0, .int 0, .ref q73, .int 100])), (q7, .inl (cJ, 40, .inr (.inl (fun _ => 0)))), (q16, .inl (cI, 702, .inl (fun _ => 0))), (q25, .inl (cI, 702, .inl (fun _ => 0))), (q34, .inl (cI, 702, .inl (zfil (j + 1) 500 (fun _ => 0)))), (q41, .inl (cI, 5, .inl (fun _ => 0))), (q49, .inl (cI, 6, .inl (fun _ => 0))), (q57, .inl (cI, 48, .inl (fun _ => 0))), (q65, .inl (cZ, 49, .inl (fun _ => 0))), (q73, .inl (cI, 12, .inl (fun _ => 0)))] ++ R) H := by rw [← zfil_s]; exact hP
    have hD : va_D (zAb B) ([(a, .inr (5, [.int 0, .int 0, .ref q7, .ref q16, .ref q25, .ref q34, .ref q41, .int 0, .int 0, .ref q49, .int 0, .ref q57, .ref q65, .int 0, .int 0, .int 0, .int 0, .int 0, .ref q73, .int 100])), (q7, .inl (cJ, 40, .inr (.inl (fun _ => 0)))), (q16, .inl (cI, 702, .inl (fun _ => 0))), (q25, .inl (cI, 702, .inl (fun _ => 0))), (q34, .inl (cI, 702, .inl (zfil (j + 1) 500 (fun _ => 0)))), (q41, .inl (cI, 5, .inl (fun _ => 0))), (q49, .inl (cI, 6, .inl (fun _ => 0))), (q57, .inl (cI, 48, .inl (fun _ => 0))), (q65, .inl (cZ, 49, .inl (fun _ => 0))), (q73, .inl (cI, 12, .inl (fun _ => 0)))] ++ R) := by rw [← zfil_s]; exact hD
    refine lv_iinc (v := (nI (j + 1))) (lv' := [(1, .int (nI (j + 1))), (0, .ref a)]) hx hb dX5_init_104 hl (k := 0) rfl (nI_add j 1) (by decide) rfl (fun ls hl => ?_)
    refine lv_goto (tgt := 86) hx hb dX5_init_107 (by decide) ?_
    exact ih (j + 1) (by omega) (by omega) _ _ _ hP hD hS (lv_sub hl [0, 1] rfl)
