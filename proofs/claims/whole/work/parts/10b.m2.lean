set_option maxHeartbeats 1000000 in
set_option maxRecDepth 100000 in
theorem c_J0_isLatin1_aae02 {l : Launch}  {aK : Nat → Nat} {aV : Nat → Nat}     : Met l yJ0_isLatin1_aae02 wsJ0_isLatin1_aae02 ({ frames := 0, cells := 0, slots := 0, locals := 0 }) (zPs aK aV [.ref (aK 0)]) (zQs 1) 0 0 (fun _ => False) := by
  refine Met.ofW (cc := cJ0_isLatin1_aae02) (maxL := 1) (ret := (some .boolean)) (by decide) rfl ?_
  intro p e s m args below meth c s₁ B0 hml hv
  obtain ⟨rfl, hE⟩ := hv
  have hx := B0.exec
  have hb := B0.bytes
  have hr := B0.returns
  have hts := atoms_spec (ws := wsJ0_isLatin1_aae02) B0.pre
  have hown : s.vm.findClass RJ0 = some m.cls := findClass_of_methodNamed B0.named
  have hlocks := B0.notSynchronized
  have hkp : ∀ q : Nat, q < s.heap.size → s.heap[q]? = s.heap[q]? := fun _ _ => rfl
  have hS : va_S (fun _ => False) s.heap s.heap [] := va_S.rf
  have hgr : s.heap.size ≤ s.heap.size := Nat.le_refl _
  have hl := lv_entry ([.ref (aK 0)]) (n := 1) (Nat.le_of_ble_eq_true rfl)
  rw [lg_entry_eq]
  generalize (lg_sl ([.ref (aK 0)]) ++ List.replicate (1 - (lg_sl ([.ref (aK 0)])).length) Slot.unset).toArray = ls at hl ⊢
  have hl : lv_has ls 1 [(0, .ref (aK 0))] := hl
  refine va_gets hx hb hE.2 hS hown (hts (.fieldLink RJ0 38 "java/lang/String" "COMPACT_STRINGS" "Z") (List.mem_of_getElem? (i := 1) rfl)) (fun _ h9 => h9) dJ0_isLatin1_aae02_0 ?_
  refine lv_if_eq (tgt := 17) hx hb dJ0_isLatin1_aae02_3 (by decide) (fun c_1 => ?_) (fun c_1 => ?_)
  · skip
    exfalso; first | omega | (revert c_1; decide) | (exact absurd rfl c_1) | simp_all
  · skip
    refine lv_aload_n hx hb dJ0_isLatin1_aae02_6 rfl (lv_at hl 0 rfl) ?_
    refine vk_getf hx hb (hE.1.1 0 (by decide)).2.1 hS hown (hts (.fieldLink RJ0 15 "java/lang/String" "coder" "B") (List.mem_of_getElem? (i := 2) rfl)) (fun _ h9 => h9) dJ0_isLatin1_aae02_7 ?_
    refine lv_if_ne (tgt := 17) hx hb dJ0_isLatin1_aae02_10 (by decide) (fun c_2 => ?_) (fun c_2 => ?_)
    · skip
      exfalso; first | omega | (revert c_2; decide) | (exact absurd rfl c_2) | simp_all
    · skip
      refine lv_iconst (v := 1) hx hb dJ0_isLatin1_aae02_13 (by decide) ?_
      refine lv_goto (tgt := 18) hx hb dJ0_isLatin1_aae02_14 (by decide) ?_
      exact W.zret (v := 1) hx hb hr rfl (fun t ht hW => ⟨⟨_, (), rfl, rfl, trivial⟩, hS.F ht⟩) hS.2.2 dJ0_isLatin1_aae02_18

set_option maxHeartbeats 1000000 in
set_option maxRecDepth 100000 in
theorem c_J0_coder_7d493 {l : Launch}  {aK : Nat → Nat} {aV : Nat → Nat}     : Met l yJ0_coder_7d493 wsJ0_coder_7d493 ({ frames := 0, cells := 0, slots := 0, locals := 0 }) (zPs aK aV [.ref (aK 0)]) (zQs 0) 0 0 (fun _ => False) := by
  refine Met.ofW (cc := cJ0_coder_7d493) (maxL := 1) (ret := (some .byte)) (by decide) rfl ?_
  intro p e s m args below meth c s₁ B0 hml hv
  obtain ⟨rfl, hE⟩ := hv
  have hx := B0.exec
  have hb := B0.bytes
  have hr := B0.returns
  have hts := atoms_spec (ws := wsJ0_coder_7d493) B0.pre
  have hown : s.vm.findClass RJ0 = some m.cls := findClass_of_methodNamed B0.named
  have hlocks := B0.notSynchronized
  have hkp : ∀ q : Nat, q < s.heap.size → s.heap[q]? = s.heap[q]? := fun _ _ => rfl
  have hS : va_S (fun _ => False) s.heap s.heap [] := va_S.rf
  have hgr : s.heap.size ≤ s.heap.size := Nat.le_refl _
  have hl := lv_entry ([.ref (aK 0)]) (n := 1) (Nat.le_of_ble_eq_true rfl)
  rw [lg_entry_eq]
  generalize (lg_sl ([.ref (aK 0)]) ++ List.replicate (1 - (lg_sl ([.ref (aK 0)])).length) Slot.unset).toArray = ls at hl ⊢
  have hl : lv_has ls 1 [(0, .ref (aK 0))] := hl
  refine va_gets hx hb hE.2 hS hown (hts (.fieldLink RJ0 38 "java/lang/String" "COMPACT_STRINGS" "Z") (List.mem_of_getElem? (i := 1) rfl)) (fun _ h9 => h9) dJ0_coder_7d493_0 ?_
  refine lv_if_eq (tgt := 13) hx hb dJ0_coder_7d493_3 (by decide) (fun c_1 => ?_) (fun c_1 => ?_)
  · skip
    exfalso; first | omega | (revert c_1; decide) | (exact absurd rfl c_1) | simp_all
  · skip
    refine lv_aload_n hx hb dJ0_coder_7d493_6 rfl (lv_at hl 0 rfl) ?_
    refine vk_getf hx hb (hE.1.1 0 (by decide)).2.1 hS hown (hts (.fieldLink RJ0 15 "java/lang/String" "coder" "B") (List.mem_of_getElem? (i := 2) rfl)) (fun _ h9 => h9) dJ0_coder_7d493_7 ?_
    refine lv_goto (tgt := 14) hx hb dJ0_coder_7d493_10 (by decide) ?_
    exact W.zret (v := 0) hx hb hr rfl (fun t ht hW => ⟨⟨_, (), rfl, rfl, trivial⟩, hS.F ht⟩) hS.2.2 dJ0_coder_7d493_14

set_option maxHeartbeats 1000000 in
set_option maxRecDepth 100000 in
theorem c_J0_length_8abf5 {l : Launch}  {aK : Nat → Nat} {aV : Nat → Nat}     : Met l yJ0_length_8abf5 wsJ0_length_8abf5 ({ frames := 1, cells := 0, slots := 0, locals := 20 }) (zPs aK aV [.ref (aK 0)]) (zQs 29) 0 0 (fun _ => False) := by
  refine Met.ofW (cc := cJ0_length_8abf5) (maxL := 1) (ret := (some .int)) (by decide) rfl ?_
  intro p e s m args below meth c s₁ B0 hml hv
  obtain ⟨rfl, hE⟩ := hv
  have hx := B0.exec
  have hb := B0.bytes
  have hr := B0.returns
  have hts := atoms_spec (ws := wsJ0_length_8abf5) B0.pre
  have hown : s.vm.findClass RJ0 = some m.cls := findClass_of_methodNamed B0.named
  have hlocks := B0.notSynchronized
  have hkp : ∀ q : Nat, q < s.heap.size → s.heap[q]? = s.heap[q]? := fun _ _ => rfl
  have hS : va_S (fun _ => False) s.heap s.heap [] := va_S.rf
  have hgr : s.heap.size ≤ s.heap.size := Nat.le_refl _
  have hl := lv_entry ([.ref (aK 0)]) (n := 1) (Nat.le_of_ble_eq_true rfl)
  rw [lg_entry_eq]
  generalize (lg_sl ([.ref (aK 0)]) ++ List.replicate (1 - (lg_sl ([.ref (aK 0)])).length) Slot.unset).toArray = ls at hl ⊢
  have hl : lv_has ls 1 [(0, .ref (aK 0))] := hl
  refine lv_aload_n hx hb dJ0_length_8abf5_0 rfl (lv_at hl 0 rfl) ?_
  refine vk_getf hx hb (hE.1.1 0 (by decide)).2.2.1 hS hown (hts (.fieldLink RJ0 9 "java/lang/String" "value" "[B") (List.mem_of_getElem? (i := 1) rfl)) (fun _ h9 => h9) dJ0_length_8abf5_1 ?_
  refine va_tlen hx hb (hE.1.1 0 (by decide)).2.2.2 hS (v := 29) rfl dJ0_length_8abf5_4 ?_
  refine lv_aload_n hx hb dJ0_length_8abf5_5 rfl (lv_at hl 0 rfl) ?_
  refine zcij (zrV (As := []) (rest := [.int 29]) ⟨hx, hb, hml, hown, hts⟩ (zVj hE hkp ⟨hgr, fun q h1 _ => hkp q h1, fun _ h9 => nomatch h9⟩) (c_J0_coder_7d493  ) (cwV 0 hts gJ0_length_8abf5_J0_coder_7d493 rfl rfl rfl hdv_J0_coder_7d493 ⟨Nat.le_of_ble_eq_true rfl, Nat.le_of_ble_eq_true rfl⟩) rfl rfl hl.1 rfl (lv_room (Nat.le_of_ble_eq_true rfl)) dJ0_length_8abf5_6 ⟨Nat.le_of_ble_eq_true rfl, Nat.le_of_ble_eq_true rfl⟩) hS (fun H locs hk9 hz9 hS => ?_)
  have hkp := fun q (hq : q < s.heap.size) => (hk9 q (Nat.lt_of_lt_of_le hq hgr)).trans (hkp q hq)
  have hgr := Nat.le_trans hgr hz9
  refine lv_ishr hx hb dJ0_length_8abf5_9 ?_
  refine lv_topi (fun v_1 ev_1 => ?_)
  obtain rfl : v_1 = 29 := ev_1.trans (by decide)
  exact W.iret (v := 29) hx hb hr (fun t ht hW => ⟨⟨_, (), rfl, rfl, trivial⟩, hS.F ht⟩) hS.2.2 dJ0_length_8abf5_10

set_option maxHeartbeats 1000000 in
set_option maxRecDepth 100000 in
theorem c_J1_canEncode_9a6ad {l : Launch}  {aK : Nat → Nat} {aV : Nat → Nat} {ch : Nat}   (hch : ch ≤ 255) : Met l yJ1_canEncode_9a6ad wsJ1_canEncode_9a6ad ({ frames := 0, cells := 0, slots := 0, locals := 0 }) (zPs aK aV [.int (nI ch)]) (zQs 1) 0 0 (fun _ => False) := by
  refine Met.ofW (cc := cJ1_canEncode_9a6ad) (maxL := 1) (ret := (some .boolean)) (by decide) rfl ?_
  intro p e s m args below meth c s₁ B0 hml hv
  obtain ⟨rfl, hE⟩ := hv
  have hx := B0.exec
  have hb := B0.bytes
  have hr := B0.returns
  have hts := atoms_spec (ws := wsJ1_canEncode_9a6ad) B0.pre
  have hown : s.vm.findClass RJ1 = some m.cls := findClass_of_methodNamed B0.named
  have hlocks := B0.notSynchronized
  have hkp : ∀ q : Nat, q < s.heap.size → s.heap[q]? = s.heap[q]? := fun _ _ => rfl
  have hS : va_S (fun _ => False) s.heap s.heap [] := va_S.rf
  have hgr : s.heap.size ≤ s.heap.size := Nat.le_refl _
  have hl := lv_entry ([.int (nI ch)]) (n := 1) (Nat.le_of_ble_eq_true rfl)
  rw [lg_entry_eq]
  generalize (lg_sl ([.int (nI ch)]) ++ List.replicate (1 - (lg_sl ([.int (nI ch)])).length) Slot.unset).toArray = ls at hl ⊢
  have hl : lv_has ls 1 [(0, .int (nI ch))] := hl
  refine lv_iload_n hx hb dJ1_canEncode_9a6ad_0 rfl (lv_at hl 0 rfl) ?_
  refine lv_if_lt (tgt := 15) hx hb dJ1_canEncode_9a6ad_1 (by decide) (fun c_1 => ?_) (fun c_1 => ?_)
  · skip
    have c_1 : ch < 0 := (nI_ltI (a := ch) (b := 0) (by omega) (by omega)).mp c_1
    exfalso; first | omega | (revert c_1; decide) | (exact absurd rfl c_1) | simp_all
  · skip
    have c_1 : ¬ ch < 0 := fun hh => c_1 ((nI_ltI (a := ch) (b := 0) (by omega) (by omega)).mpr hh)
    refine lv_iload_n hx hb dJ1_canEncode_9a6ad_4 rfl (lv_at hl 0 rfl) ?_
    refine lv_sipush (v := 255) hx hb dJ1_canEncode_9a6ad_5 (by decide) ?_
    refine lv_icmp_gt (tgt := 15) hx hb dJ1_canEncode_9a6ad_8 (by decide) (fun c_2 => ?_) (fun c_2 => ?_)
    · skip
      have c_2 : 255 < ch := (nI_ltI (a := 255) (b := ch) (by omega) (by omega)).mp c_2
      exfalso; first | omega | (revert c_2; decide) | (exact absurd rfl c_2) | simp_all
    · skip
      have c_2 : ¬ 255 < ch := fun hh => c_2 ((nI_ltI (a := 255) (b := ch) (by omega) (by omega)).mpr hh)
      refine lv_iconst (v := 1) hx hb dJ1_canEncode_9a6ad_11 (by decide) ?_
      refine lv_goto (tgt := 16) hx hb dJ1_canEncode_9a6ad_12 (by decide) ?_
      exact W.zret (v := 1) hx hb hr rfl (fun t ht hW => ⟨⟨_, (), rfl, rfl, trivial⟩, hS.F ht⟩) hS.2.2 dJ1_canEncode_9a6ad_16

set_option maxHeartbeats 1000000 in
set_option maxRecDepth 100000 in
theorem c_J1_indexOfChar_4cfef {l : Launch}  {aK : Nat → Nat} {aV : Nat → Nat}  {a : Nat}  (ha : a < 26) : Met l yJ1_indexOfChar_4cfef wsJ1_indexOfChar_4cfef ({ frames := 0, cells := 0, slots := 0, locals := 0 }) (zPs aK aV [.ref (aV 0), .int (nI (97 + a)), .int 0, .int 29]) (zQs (nI (zix a))) 0 0 (fun _ => False) := by
  refine Met.ofW (cc := cJ1_indexOfChar_4cfef) (maxL := 6) (ret := (some .int)) (by decide) rfl ?_
  intro p e s m args below meth c s₁ B0 hml hv
  obtain ⟨rfl, hE⟩ := hv
  have hx := B0.exec
  have hb := B0.bytes
  have hr := B0.returns
  have hts := atoms_spec (ws := wsJ1_indexOfChar_4cfef) B0.pre
  have hown : s.vm.findClass RJ1 = some m.cls := findClass_of_methodNamed B0.named
  have hlocks := B0.notSynchronized
  have hkp : ∀ q : Nat, q < s.heap.size → s.heap[q]? = s.heap[q]? := fun _ _ => rfl
  have hS : va_S (fun _ => False) s.heap s.heap [] := va_S.rf
  have hgr : s.heap.size ≤ s.heap.size := Nat.le_refl _
  have hl := lv_entry ([.ref (aV 0), .int (nI (97 + a)), .int 0, .int 29]) (n := 6) (Nat.le_of_ble_eq_true rfl)
  rw [lg_entry_eq]
  generalize (lg_sl ([.ref (aV 0), .int (nI (97 + a)), .int 0, .int 29]) ++ List.replicate (6 - (lg_sl ([.ref (aV 0), .int (nI (97 + a)), .int 0, .int 29])).length) Slot.unset).toArray = ls at hl ⊢
  have hl : lv_has ls 6 [(0, .ref (aV 0)), (1, .int (nI (97 + a))), (2, .int 0), (3, .int 29)] := hl
  have hz := zix_lt a ha
  refine lv_iload_n hx hb dJ1_indexOfChar_4cfef_0 rfl (lv_at hl 1 rfl) ?_
  refine lv_i2b (v := ((nI (97 + a))).toInt8.toInt32) hx hb dJ1_indexOfChar_4cfef_1 rfl ?_
  refine lv_topi (fun v_1 ev_1 => ?_)
  obtain rfl : v_1 = (nI (97 + a)) := ev_1.trans (zix_b a ha)
  refine lv_istore (lv' := [(4, .int (nI (97 + a))), (0, .ref (aV 0)), (1, .int (nI (97 + a))), (2, .int 0), (3, .int 29)]) hx hb dJ1_indexOfChar_4cfef_2 hl (by decide) rfl (fun ls hl => ?_)
  refine lv_iload_n hx hb dJ1_indexOfChar_4cfef_4 rfl (lv_at hl 3 rfl) ?_
  refine lv_istore (lv' := [(5, .int 0), (4, .int (nI (97 + a))), (0, .ref (aV 0)), (1, .int (nI (97 + a))), (2, .int 0), (3, .int 29)]) hx hb dJ1_indexOfChar_4cfef_5 hl (by decide) rfl (fun ls hl => ?_)
  refine zloopS (σ := (Nat)) (nL := 6) (fun x9 => [(5, .int (nI x9)), (4, .int (nI (97 + a))), (0, .ref (aV 0)), (1, .int (nI (97 + a))), (2, .int 0), (3, .int 29)]) (fun x9 => []) (fun x9 => x9 ≤ zix a) (fun x9 => 29 - x9) ?_ (0) (by omega) _ (lv_sub hl [0, 1, 2, 3, 4, 5] rfl)
  rintro j hI ih ls hl
  try dsimp only at hI ih hl ⊢
  refine lv_iload hx hb dJ1_indexOfChar_4cfef_7 (lv_at hl 0 rfl) ?_
  refine lv_iload_n hx hb dJ1_indexOfChar_4cfef_9 rfl (lv_at hl 5 rfl) ?_
  refine lv_icmp_ge (tgt := 31) hx hb dJ1_indexOfChar_4cfef_10 (by decide) (fun c_2 => ?_) (fun c_2 => ?_)
  · skip
    have c_2 : 29 ≤ j := (nI_leI (a := 29) (b := j) (by omega) (by omega)).mp c_2
    exfalso; first | omega | (revert c_2; decide) | (exact absurd rfl c_2) | simp_all
  · skip
    have c_2 : ¬ 29 ≤ j := fun hh => c_2 ((nI_leI (a := 29) (b := j) (by omega) (by omega)).mpr hh)
    refine lv_aload_n hx hb dJ1_indexOfChar_4cfef_13 rfl (lv_at hl 2 rfl) ?_
    refine lv_iload hx hb dJ1_indexOfChar_4cfef_14 (lv_at hl 0 rfl) ?_
    refine va_tb hx hb (hE.1.1 0 (by decide)).2.2.2 hS (vp_in_nI (n := j) (N := 29) (by omega) (by omega)) (v := .int (zBy.getD j 0)) (by rw [nI_clamp (by omega)]; rfl) dJ1_indexOfChar_4cfef_16 ?_
    refine lv_iload hx hb dJ1_indexOfChar_4cfef_17 (lv_at hl 1 rfl) ?_
    refine lv_icmp_ne (tgt := 25) hx hb dJ1_indexOfChar_4cfef_19 (by decide) (fun c_3 => ?_) (fun c_3 => ?_)
    · skip
      refine lv_iinc (v := (nI (j + 1))) (lv' := [(5, .int (nI (j + 1))), (4, .int (nI (97 + a))), (0, .ref (aV 0)), (1, .int (nI (97 + a))), (2, .int 0), (3, .int 29)]) hx hb dJ1_indexOfChar_4cfef_25 hl (k := 0) rfl (nI_add j 1) (by decide) rfl (fun ls hl => ?_)
      refine lv_goto (tgt := 7) hx hb dJ1_indexOfChar_4cfef_28 (by decide) ?_
      exact ih (j + 1) (by have h9 : ¬ j = zix a := fun q => c_3 ((zix_at a ha j (by omega)).mpr q); omega) (by omega) _ (lv_sub hl [0, 1, 2, 3, 4, 5] rfl)
    · skip
      refine lv_iload hx hb dJ1_indexOfChar_4cfef_22 (lv_at hl 0 rfl) ?_
      exact W.iret (v := (nI j)) hx hb hr (fun t ht hW => ⟨⟨_, (), rfl, (congrArg nI ((zix_at a ha j (by omega)).mp c_3)), trivial⟩, hS.F ht⟩) hS.2.2 dJ1_indexOfChar_4cfef_24

set_option maxHeartbeats 1000000 in
set_option maxRecDepth 100000 in
theorem c_J1_indexOf_4cfef {l : Launch}  {aK : Nat → Nat} {aV : Nat → Nat}  {a : Nat}  (ha : a < 26) : Met l yJ1_indexOf_4cfef wsJ1_indexOf_4cfef ({ frames := 1, cells := 0, slots := 0, locals := 25 }) (zPs aK aV [.ref (aV 0), .int (nI (97 + a)), .int 0, .int 29]) (zQs (nI (zix a))) 0 0 (fun _ => False) := by
  refine Met.ofW (cc := cJ1_indexOf_4cfef) (maxL := 4) (ret := (some .int)) (by decide) rfl ?_
  intro p e s m args below meth c s₁ B0 hml hv
  obtain ⟨rfl, hE⟩ := hv
  have hx := B0.exec
  have hb := B0.bytes
  have hr := B0.returns
  have hts := atoms_spec (ws := wsJ1_indexOf_4cfef) B0.pre
  have hown : s.vm.findClass RJ1 = some m.cls := findClass_of_methodNamed B0.named
  have hlocks := B0.notSynchronized
  have hkp : ∀ q : Nat, q < s.heap.size → s.heap[q]? = s.heap[q]? := fun _ _ => rfl
  have hS : va_S (fun _ => False) s.heap s.heap [] := va_S.rf
  have hgr : s.heap.size ≤ s.heap.size := Nat.le_refl _
  have hl := lv_entry ([.ref (aV 0), .int (nI (97 + a)), .int 0, .int 29]) (n := 4) (Nat.le_of_ble_eq_true rfl)
  rw [lg_entry_eq]
  generalize (lg_sl ([.ref (aV 0), .int (nI (97 + a)), .int 0, .int 29]) ++ List.replicate (4 - (lg_sl ([.ref (aV 0), .int (nI (97 + a)), .int 0, .int 29])).length) Slot.unset).toArray = ls at hl ⊢
  have hl : lv_has ls 4 [(0, .ref (aV 0)), (1, .int (nI (97 + a))), (2, .int 0), (3, .int 29)] := hl
  refine lv_iload_n hx hb dJ1_indexOf_4cfef_0 rfl (lv_at hl 1 rfl) ?_
  refine zcij (zrS (As := [.int (nI (97 + a))]) (rest := []) ⟨hx, hb, hml, hown, hts⟩ (zSj hE hkp) (c_J1_canEncode_9a6ad (ch := (97 + a)) (by omega)) (va_cwS 1 hts gJ1_indexOf_4cfef_J1_canEncode_9a6ad rfl rfl rfl hds_J1_canEncode_9a6ad ⟨Nat.le_of_ble_eq_true rfl, Nat.le_of_ble_eq_true rfl⟩) rfl rfl hl.1 rfl (lv_room (Nat.le_of_ble_eq_true rfl)) dJ1_indexOf_4cfef_1 ⟨Nat.le_of_ble_eq_true rfl, Nat.le_of_ble_eq_true rfl⟩) hS (fun H locs hk9 hz9 hS => ?_)
  have hkp := fun q (hq : q < s.heap.size) => (hk9 q (Nat.lt_of_lt_of_le hq hgr)).trans (hkp q hq)
  have hgr := Nat.le_trans hgr hz9
  refine lv_if_ne (tgt := 9) hx hb dJ1_indexOf_4cfef_4 (by decide) (fun c_1 => ?_) (fun c_1 => ?_)
  · skip
    refine lv_iload_n hx hb dJ1_indexOf_4cfef_9 rfl (lv_at hl 2 rfl) ?_
    refine lv_iconst (v := 0) hx hb dJ1_indexOf_4cfef_10 (by decide) ?_
    refine va_mmax hx hb (hml.trans hl.1.symm) hown (hts (.methodLink RJ1 92 Lib.Math.max.name) (List.mem_of_getElem? (i := 1) rfl)) (hts (.static Lib.Math.max.name) (List.mem_of_getElem? (i := 2) rfl)) (hts (.initialized "java/lang/Math") (List.mem_of_getElem? (i := 3) rfl)) (hts (.code Lib.Math.max.name Lib.Math.max.code 2 (some .int)) (List.mem_of_getElem? (i := 4) rfl)) (Nat.le_of_ble_eq_true rfl) (Nat.le_of_ble_eq_true rfl) (Nat.zero_le _) (Nat.zero_le _) dJ1_indexOf_4cfef_11 ?_
    refine lv_topi (fun v_2 ev_2 => ?_)
    obtain rfl : v_2 = 0 := ev_2.trans (by decide)
    refine lv_istore_n (lv' := [(2, .int 0), (0, .ref (aV 0)), (1, .int (nI (97 + a))), (3, .int 29)]) hx hb dJ1_indexOf_4cfef_14 rfl hl (by decide) rfl (fun ls hl => ?_)
    refine lv_iload_n hx hb dJ1_indexOf_4cfef_15 rfl (lv_at hl 3 rfl) ?_
    refine lv_aload_n hx hb dJ1_indexOf_4cfef_16 rfl (lv_at hl 1 rfl) ?_
    refine va_tlen hx hb (hE.1.1 0 (by decide)).2.2.2 hS (v := 29) rfl dJ1_indexOf_4cfef_17 ?_
    refine va_mmin hx hb (hml.trans hl.1.symm) hown (hts (.methodLink RJ1 38 Lib.Math.min.name) (List.mem_of_getElem? (i := 5) rfl)) (hts (.static Lib.Math.min.name) (List.mem_of_getElem? (i := 6) rfl)) (hts (.initialized "java/lang/Math") (List.mem_of_getElem? (i := 3) rfl)) (hts (.code Lib.Math.min.name Lib.Math.min.code 2 (some .int)) (List.mem_of_getElem? (i := 7) rfl)) (Nat.le_of_ble_eq_true rfl) (Nat.le_of_ble_eq_true rfl) (Nat.zero_le _) (Nat.zero_le _) dJ1_indexOf_4cfef_18 ?_
    refine lv_topi (fun v_3 ev_3 => ?_)
    obtain rfl : v_3 = 29 := ev_3.trans (by decide)
    refine lv_istore_n (lv' := [(3, .int 29), (2, .int 0), (0, .ref (aV 0)), (1, .int (nI (97 + a)))]) hx hb dJ1_indexOf_4cfef_21 rfl hl (by decide) rfl (fun ls hl => ?_)
    refine lv_iload_n hx hb dJ1_indexOf_4cfef_22 rfl (lv_at hl 1 rfl) ?_
    refine lv_iload_n hx hb dJ1_indexOf_4cfef_23 rfl (lv_at hl 0 rfl) ?_
    refine lv_icmp_lt (tgt := 29) hx hb dJ1_indexOf_4cfef_24 (by decide) (fun c_4 => ?_) (fun c_4 => ?_)
    · skip
      refine lv_aload_n hx hb dJ1_indexOf_4cfef_29 rfl (lv_at hl 2 rfl) ?_
      refine lv_iload_n hx hb dJ1_indexOf_4cfef_30 rfl (lv_at hl 3 rfl) ?_
      refine lv_iload_n hx hb dJ1_indexOf_4cfef_31 rfl (lv_at hl 1 rfl) ?_
      refine lv_iload_n hx hb dJ1_indexOf_4cfef_32 rfl (lv_at hl 0 rfl) ?_
      refine zcij (zrS (As := [.ref (aV 0), .int (nI (97 + a)), .int 0, .int 29]) (rest := []) ⟨hx, hb, hml, hown, hts⟩ (zSj hE hkp) (c_J1_indexOfChar_4cfef (a := a) (by omega)) (va_cwS 4 hts gJ1_indexOf_4cfef_J1_indexOfChar_4cfef rfl rfl rfl hds_J1_indexOfChar_4cfef ⟨Nat.le_of_ble_eq_true rfl, Nat.le_of_ble_eq_true rfl⟩) rfl rfl hl.1 rfl (lv_room (Nat.le_of_ble_eq_true rfl)) dJ1_indexOf_4cfef_33 ⟨Nat.le_of_ble_eq_true rfl, Nat.le_of_ble_eq_true rfl⟩) hS (fun H locs hk9 hz9 hS => ?_)
      have hkp := fun q (hq : q < s.heap.size) => (hk9 q (Nat.lt_of_lt_of_le hq hgr)).trans (hkp q hq)
      have hgr := Nat.le_trans hgr hz9
      exact W.iret (v := (nI (zix a))) hx hb hr (fun t ht hW => ⟨⟨_, (), rfl, rfl, trivial⟩, hS.F ht⟩) hS.2.2 dJ1_indexOf_4cfef_36
    · skip
      exfalso; first | omega | (revert c_4; decide) | (exact absurd rfl c_4) | simp_all
  · skip
    exfalso; first | omega | (revert c_1; decide) | (exact absurd rfl c_1) | simp_all

set_option maxHeartbeats 1000000 in
set_option maxRecDepth 100000 in
theorem c_J0_indexOf_7cf53 {l : Launch}  {aK : Nat → Nat} {aV : Nat → Nat}  {a : Nat}  (ha : a < 26) : Met l yJ0_indexOf_7cf53 wsJ0_indexOf_7cf53 ({ frames := 2, cells := 0, slots := 0, locals := 48 }) (zPs aK aV [.ref (aK 0), .int (nI (97 + a)), .int 0]) (zQs (nI (zix a))) 0 0 (fun _ => False) := by
  refine Met.ofW (cc := cJ0_indexOf_7cf53) (maxL := 3) (ret := (some .int)) (by decide) rfl ?_
  intro p e s m args below meth c s₁ B0 hml hv
  obtain ⟨rfl, hE⟩ := hv
  have hx := B0.exec
  have hb := B0.bytes
  have hr := B0.returns
  have hts := atoms_spec (ws := wsJ0_indexOf_7cf53) B0.pre
  have hown : s.vm.findClass RJ0 = some m.cls := findClass_of_methodNamed B0.named
  have hlocks := B0.notSynchronized
  have hkp : ∀ q : Nat, q < s.heap.size → s.heap[q]? = s.heap[q]? := fun _ _ => rfl
  have hS : va_S (fun _ => False) s.heap s.heap [] := va_S.rf
  have hgr : s.heap.size ≤ s.heap.size := Nat.le_refl _
  have hl := lv_entry ([.ref (aK 0), .int (nI (97 + a)), .int 0]) (n := 3) (Nat.le_of_ble_eq_true rfl)
  rw [lg_entry_eq]
  generalize (lg_sl ([.ref (aK 0), .int (nI (97 + a)), .int 0]) ++ List.replicate (3 - (lg_sl ([.ref (aK 0), .int (nI (97 + a)), .int 0])).length) Slot.unset).toArray = ls at hl ⊢
  have hl : lv_has ls 3 [(0, .ref (aK 0)), (1, .int (nI (97 + a))), (2, .int 0)] := hl
  refine lv_aload_n hx hb dJ0_indexOf_7cf53_0 rfl (lv_at hl 0 rfl) ?_
  refine zcij (zrV (As := []) (rest := []) ⟨hx, hb, hml, hown, hts⟩ (zVj hE hkp ⟨hgr, fun q h1 _ => hkp q h1, fun _ h9 => nomatch h9⟩) (c_J0_isLatin1_aae02  ) (cwV 0 hts gJ0_indexOf_7cf53_J0_isLatin1_aae02 rfl rfl rfl hdv_J0_isLatin1_aae02 ⟨Nat.le_of_ble_eq_true rfl, Nat.le_of_ble_eq_true rfl⟩) rfl rfl hl.1 rfl (lv_room (Nat.le_of_ble_eq_true rfl)) dJ0_indexOf_7cf53_1 ⟨Nat.le_of_ble_eq_true rfl, Nat.le_of_ble_eq_true rfl⟩) hS (fun H locs hk9 hz9 hS => ?_)
  have hkp := fun q (hq : q < s.heap.size) => (hk9 q (Nat.lt_of_lt_of_le hq hgr)).trans (hkp q hq)
  have hgr := Nat.le_trans hgr hz9
  refine lv_if_eq (tgt := 23) hx hb dJ0_indexOf_7cf53_4 (by decide) (fun c_1 => ?_) (fun c_1 => ?_)
  · skip
    exfalso; first | omega | (revert c_1; decide) | (exact absurd rfl c_1) | simp_all
  · skip
    refine lv_aload_n hx hb dJ0_indexOf_7cf53_7 rfl (lv_at hl 0 rfl) ?_
    refine vk_getf hx hb (hE.1.1 0 (by decide)).2.2.1 hS hown (hts (.fieldLink RJ0 9 "java/lang/String" "value" "[B") (List.mem_of_getElem? (i := 1) rfl)) (fun _ h9 => h9) dJ0_indexOf_7cf53_8 ?_
    refine lv_iload_n hx hb dJ0_indexOf_7cf53_11 rfl (lv_at hl 1 rfl) ?_
    refine lv_iload_n hx hb dJ0_indexOf_7cf53_12 rfl (lv_at hl 2 rfl) ?_
    refine lv_aload_n hx hb dJ0_indexOf_7cf53_13 rfl (lv_at hl 0 rfl) ?_
    refine zcij (zrV (As := []) (rest := [.int 0, .int (nI (97 + a)), .ref (aV 0)]) ⟨hx, hb, hml, hown, hts⟩ (zVj hE hkp ⟨hgr, fun q h1 _ => hkp q h1, fun _ h9 => nomatch h9⟩) (c_J0_length_8abf5  ) (cwV 0 hts gJ0_indexOf_7cf53_J0_length_8abf5 rfl rfl rfl hdv_J0_length_8abf5 ⟨Nat.le_of_ble_eq_true rfl, Nat.le_of_ble_eq_true rfl⟩) rfl rfl hl.1 rfl (lv_room (Nat.le_of_ble_eq_true rfl)) dJ0_indexOf_7cf53_14 ⟨Nat.le_of_ble_eq_true rfl, Nat.le_of_ble_eq_true rfl⟩) hS (fun H locs hk9 hz9 hS => ?_)
    have hkp := fun q (hq : q < s.heap.size) => (hk9 q (Nat.lt_of_lt_of_le hq hgr)).trans (hkp q hq)
    have hgr := Nat.le_trans hgr hz9
    refine zcij (zrS (As := [.ref (aV 0), .int (nI (97 + a)), .int 0, .int 29]) (rest := []) ⟨hx, hb, hml, hown, hts⟩ (zSj hE hkp) (c_J1_indexOf_4cfef (a := a) (by omega)) (va_cwS 4 hts gJ0_indexOf_7cf53_J1_indexOf_4cfef rfl rfl rfl hds_J1_indexOf_4cfef ⟨Nat.le_of_ble_eq_true rfl, Nat.le_of_ble_eq_true rfl⟩) rfl rfl hl.1 rfl (lv_room (Nat.le_of_ble_eq_true rfl)) dJ0_indexOf_7cf53_17 ⟨Nat.le_of_ble_eq_true rfl, Nat.le_of_ble_eq_true rfl⟩) hS (fun H locs hk9 hz9 hS => ?_)
    have hkp := fun q (hq : q < s.heap.size) => (hk9 q (Nat.lt_of_lt_of_le hq hgr)).trans (hkp q hq)
    have hgr := Nat.le_trans hgr hz9
    refine lv_goto (tgt := 36) hx hb dJ0_indexOf_7cf53_20 (by decide) ?_
    exact W.iret (v := (nI (zix a))) hx hb hr (fun t ht hW => ⟨⟨_, (), rfl, rfl, trivial⟩, hS.F ht⟩) hS.2.2 dJ0_indexOf_7cf53_36

set_option maxHeartbeats 1000000 in
set_option maxRecDepth 100000 in
theorem c_J0_indexOf_0f7a4 {l : Launch}  {aK : Nat → Nat} {aV : Nat → Nat}  {a : Nat}  (ha : a < 26) : Met l yJ0_indexOf_0f7a4 wsJ0_indexOf_0f7a4 ({ frames := 3, cells := 0, slots := 0, locals := 70 }) (zPs aK aV [.ref (aK 0), .int (nI (97 + a))]) (zQs (nI (zix a))) 0 0 (fun _ => False) := by
  refine Met.ofW (cc := cJ0_indexOf_0f7a4) (maxL := 2) (ret := (some .int)) (by decide) rfl ?_
  intro p e s m args below meth c s₁ B0 hml hv
  obtain ⟨rfl, hE⟩ := hv
  have hx := B0.exec
  have hb := B0.bytes
  have hr := B0.returns
  have hts := atoms_spec (ws := wsJ0_indexOf_0f7a4) B0.pre
  have hown : s.vm.findClass RJ0 = some m.cls := findClass_of_methodNamed B0.named
  have hlocks := B0.notSynchronized
  have hkp : ∀ q : Nat, q < s.heap.size → s.heap[q]? = s.heap[q]? := fun _ _ => rfl
  have hS : va_S (fun _ => False) s.heap s.heap [] := va_S.rf
  have hgr : s.heap.size ≤ s.heap.size := Nat.le_refl _
  have hl := lv_entry ([.ref (aK 0), .int (nI (97 + a))]) (n := 2) (Nat.le_of_ble_eq_true rfl)
  rw [lg_entry_eq]
  generalize (lg_sl ([.ref (aK 0), .int (nI (97 + a))]) ++ List.replicate (2 - (lg_sl ([.ref (aK 0), .int (nI (97 + a))])).length) Slot.unset).toArray = ls at hl ⊢
  have hl : lv_has ls 2 [(0, .ref (aK 0)), (1, .int (nI (97 + a)))] := hl
  refine lv_aload_n hx hb dJ0_indexOf_0f7a4_0 rfl (lv_at hl 0 rfl) ?_
  refine lv_iload_n hx hb dJ0_indexOf_0f7a4_1 rfl (lv_at hl 1 rfl) ?_
  refine lv_iconst (v := 0) hx hb dJ0_indexOf_0f7a4_2 (by decide) ?_
  refine zcij (zrV (As := [.int (nI (97 + a)), .int 0]) (rest := []) ⟨hx, hb, hml, hown, hts⟩ (zVj hE hkp ⟨hgr, fun q h1 _ => hkp q h1, fun _ h9 => nomatch h9⟩) (c_J0_indexOf_7cf53 (a := a) (by omega)) (cwV 2 hts gJ0_indexOf_0f7a4_J0_indexOf_7cf53 rfl rfl rfl hdv_J0_indexOf_7cf53 ⟨Nat.le_of_ble_eq_true rfl, Nat.le_of_ble_eq_true rfl⟩) rfl rfl hl.1 rfl (lv_room (Nat.le_of_ble_eq_true rfl)) dJ0_indexOf_0f7a4_3 ⟨Nat.le_of_ble_eq_true rfl, Nat.le_of_ble_eq_true rfl⟩) hS (fun H locs hk9 hz9 hS => ?_)
  have hkp := fun q (hq : q < s.heap.size) => (hk9 q (Nat.lt_of_lt_of_le hq hgr)).trans (hkp q hq)
  have hgr := Nat.le_trans hgr hz9
  exact W.iret (v := (nI (zix a))) hx hb hr (fun t ht hW => ⟨⟨_, (), rfl, rfl, trivial⟩, hS.F ht⟩) hS.2.2 dJ0_indexOf_0f7a4_6

set_option maxHeartbeats 1000000 in
set_option maxRecDepth 100000 in
theorem c_X5_nearTo {l : Launch} {B kr kp : Nat} {D : va_G} {cI cJ cZ : ClassId} {ws : va_W} {a : Nat} {b : Nat}   (ha : a < 26) (hb9 : b < 26) : Met l yX5_nearTo wsX5_nearTo ({ frames := 4, cells := 0, slots := 0, locals := 91 }) (zPc B kr kp D (zTy cI cJ cZ) ws [.int (nI a), .int (nI b)]) (zQi B D ws (zb (zst (nI a) (nI b)))) 0 0 (zAb B) := by
  refine Met.ofW (cc := cX5_nearTo) (maxL := 6) (ret := (some .boolean)) (by decide) rfl ?_
  intro p e s m args below meth c s₁ B0 hml hv
  obtain ⟨rfl, hP, hD, hK, hE, hB⟩ := hv
  have hx := B0.exec
  have hb := B0.bytes
  have hr := B0.returns
  have hts := atoms_spec (ws := wsX5_nearTo) B0.pre
  have hown : s.vm.findClass RX5 = some m.cls := findClass_of_methodNamed B0.named
  have hlocks := B0.notSynchronized
  have hA : ∀ q : Nat, s.heap.size ≤ q → zAb B q := fun q hq => Nat.le_trans hB hq
  have hS : va_S (zAb B) s.heap s.heap [] := va_S.rf
  have hgr : s.heap.size ≤ s.heap.size := Nat.le_refl _
  have hl := lv_entry ([.int (nI a), .int (nI b)]) (n := 6) (Nat.le_of_ble_eq_true rfl)
  rw [lg_entry_eq]
  generalize (lg_sl ([.int (nI a), .int (nI b)]) ++ List.replicate (6 - (lg_sl ([.int (nI a), .int (nI b)])).length) Slot.unset).toArray = ls at hl ⊢
  have hl : lv_has ls 6 [(0, .int (nI a)), (1, .int (nI b))] := hl
  have hP : va_P D vwCl ws s.heap := hP
  have hD : va_D (zAb B) ws := hD
  obtain ⟨aK, aV, hsR, hsS, hsZ⟩ := hE.2.2.2.2.2.2
  have hR9 := zRs.of hsS hsZ
  have hkp : ∀ q : Nat, q < s.heap.size → s.heap[q]? = s.heap[q]? := fun _ _ => rfl
  have hza := zix_lt a ha
  have hzb := zix_lt b hb9
  refine va_ldcS hx hb hown hsR dX5_nearTo_0 ?_
  refine lv_bipush (v := 97) hx hb dX5_nearTo_2 (by decide) ?_
  refine lv_iload_n hx hb dX5_nearTo_4 rfl (lv_at hl 0 rfl) ?_
  refine lv_iadd hx hb dX5_nearTo_5 ?_
  refine lv_topi (fun v_1 ev_1 => ?_)
  obtain rfl : v_1 = (nI (97 + a)) := ev_1.trans (nI_add 97 a)
  refine zcij (zrV (As := [.int (nI (97 + a))]) (rest := []) ⟨hx, hb, hml, hown, hts⟩ (zVj hR9 hkp ⟨hgr, fun q h1 _ => hkp q h1, fun _ h9 => nomatch h9⟩) (c_J0_indexOf_0f7a4 (a := a) (ha)) (cwV 1 hts gX5_nearTo_J0_indexOf_0f7a4 rfl rfl rfl hdv_J0_indexOf_0f7a4 ⟨Nat.le_of_ble_eq_true rfl, Nat.le_of_ble_eq_true rfl⟩) rfl rfl hl.1 rfl (lv_room (Nat.le_of_ble_eq_true rfl)) dX5_nearTo_6 ⟨Nat.le_of_ble_eq_true rfl, Nat.le_of_ble_eq_true rfl⟩) hS (fun H locs hk9 hz9 hS => ?_)
  have hP := hP.kept (fun k q hk => hk9 _ (vx_lt hP hk))
  have hkp := fun q (hq : q < s.heap.size) => (hk9 q (Nat.lt_of_lt_of_le hq hgr)).trans (hkp q hq)
  have hgr := Nat.le_trans hgr hz9
  refine lv_istore_n (lv' := [(2, .int (nI (zix a))), (0, .int (nI a)), (1, .int (nI b))]) hx hb dX5_nearTo_9 rfl hl (by decide) rfl (fun ls hl => ?_)
  refine va_ldcS hx hb hown hsR dX5_nearTo_10 ?_
  refine lv_bipush (v := 97) hx hb dX5_nearTo_12 (by decide) ?_
  refine lv_iload_n hx hb dX5_nearTo_14 rfl (lv_at hl 2 rfl) ?_
  refine lv_iadd hx hb dX5_nearTo_15 ?_
  refine lv_topi (fun v_2 ev_2 => ?_)
  obtain rfl : v_2 = (nI (97 + b)) := ev_2.trans (nI_add 97 b)
  refine zcij (zrV (As := [.int (nI (97 + b))]) (rest := []) ⟨hx, hb, hml, hown, hts⟩ (zVj hR9 hkp ⟨hgr, fun q h1 _ => hkp q h1, fun _ h9 => nomatch h9⟩) (c_J0_indexOf_0f7a4 (a := b) (hb9)) (cwV 1 hts gX5_nearTo_J0_indexOf_0f7a4 rfl rfl rfl hdv_J0_indexOf_0f7a4 ⟨Nat.le_of_ble_eq_true rfl, Nat.le_of_ble_eq_true rfl⟩) rfl rfl hl.1 rfl (lv_room (Nat.le_of_ble_eq_true rfl)) dX5_nearTo_16 ⟨Nat.le_of_ble_eq_true rfl, Nat.le_of_ble_eq_true rfl⟩) hS (fun H locs hk9 hz9 hS => ?_)
  have hP := hP.kept (fun k q hk => hk9 _ (vx_lt hP hk))
  have hkp := fun q (hq : q < s.heap.size) => (hk9 q (Nat.lt_of_lt_of_le hq hgr)).trans (hkp q hq)
  have hgr := Nat.le_trans hgr hz9
  refine lv_istore_n (lv' := [(3, .int (nI (zix b))), (2, .int (nI (zix a))), (0, .int (nI a)), (1, .int (nI b))]) hx hb dX5_nearTo_19 rfl hl (by decide) rfl (fun ls hl => ?_)
  refine lv_iload_n hx hb dX5_nearTo_20 rfl (lv_at hl 1 rfl) ?_
  refine lv_bipush (v := 11) hx hb dX5_nearTo_21 (by decide) ?_
  refine lv_idiv hx hb dX5_nearTo_23 (by decide) ?_
  rw [show (nI (zix a)) / 11 = nI ((zix a) / 11) from pk_div (a := (zix a)) (d := 11) (by omega) (by omega) (by omega)]
  refine lv_iload_n hx hb dX5_nearTo_24 rfl (lv_at hl 0 rfl) ?_
  refine lv_bipush (v := 11) hx hb dX5_nearTo_25 (by decide) ?_
  refine lv_idiv hx hb dX5_nearTo_27 (by decide) ?_
  rw [show (nI (zix b)) / 11 = nI ((zix b) / 11) from pk_div (a := (zix b)) (d := 11) (by omega) (by omega) (by omega)]
  refine lv_isub hx hb dX5_nearTo_28 ?_
  refine va_mabs hx hb (hml.trans hl.1.symm) hown (hts (.methodLink RX5 91 Lib.Math.abs.name) (List.mem_of_getElem? (i := 1) rfl)) (hts (.static Lib.Math.abs.name) (List.mem_of_getElem? (i := 2) rfl)) (hts (.initialized "java/lang/Math") (List.mem_of_getElem? (i := 3) rfl)) (hts (.code Lib.Math.abs.name Lib.Math.abs.code 1 (some .int)) (List.mem_of_getElem? (i := 4) rfl)) (Nat.le_of_ble_eq_true rfl) (Nat.le_of_ble_eq_true rfl) (Nat.zero_le _) (Nat.zero_le _) dX5_nearTo_29 ?_
  refine lv_istore (lv' := [(4, .int (zab ((nI ((zix a) / 11)) - (nI ((zix b) / 11))))), (3, .int (nI (zix b))), (2, .int (nI (zix a))), (0, .int (nI a)), (1, .int (nI b))]) hx hb dX5_nearTo_32 hl (by decide) rfl (fun ls hl => ?_)
  refine lv_iload_n hx hb dX5_nearTo_34 rfl (lv_at hl 2 rfl) ?_
  refine lv_bipush (v := 11) hx hb dX5_nearTo_35 (by decide) ?_
  refine lv_irem hx hb dX5_nearTo_37 (by decide) ?_
  rw [show (nI (zix a)) - (nI (zix a)) / 11 * 11 = nI ((zix a) % 11) from pk_rem (a := (zix a)) (d := 11) (by omega) (by omega) (by omega)]
  refine lv_iload_n hx hb dX5_nearTo_38 rfl (lv_at hl 1 rfl) ?_
  refine lv_bipush (v := 11) hx hb dX5_nearTo_39 (by decide) ?_
  refine lv_irem hx hb dX5_nearTo_41 (by decide) ?_
  rw [show (nI (zix b)) - (nI (zix b)) / 11 * 11 = nI ((zix b) % 11) from pk_rem (a := (zix b)) (d := 11) (by omega) (by omega) (by omega)]
  refine lv_isub hx hb dX5_nearTo_42 ?_
  refine va_mabs hx hb (hml.trans hl.1.symm) hown (hts (.methodLink RX5 91 Lib.Math.abs.name) (List.mem_of_getElem? (i := 1) rfl)) (hts (.static Lib.Math.abs.name) (List.mem_of_getElem? (i := 2) rfl)) (hts (.initialized "java/lang/Math") (List.mem_of_getElem? (i := 3) rfl)) (hts (.code Lib.Math.abs.name Lib.Math.abs.code 1 (some .int)) (List.mem_of_getElem? (i := 4) rfl)) (Nat.le_of_ble_eq_true rfl) (Nat.le_of_ble_eq_true rfl) (Nat.zero_le _) (Nat.zero_le _) dX5_nearTo_43 ?_
  refine lv_istore (lv' := [(5, .int (zab ((nI ((zix a) % 11)) - (nI ((zix b) % 11))))), (4, .int (zab ((nI ((zix a) / 11)) - (nI ((zix b) / 11))))), (3, .int (nI (zix b))), (2, .int (nI (zix a))), (0, .int (nI a)), (1, .int (nI b))]) hx hb dX5_nearTo_46 hl (by decide) rfl (fun ls hl => ?_)
  refine lv_iload hx hb dX5_nearTo_48 (lv_at hl 1 rfl) ?_
  refine lv_if_ne (tgt := 67) hx hb dX5_nearTo_50 (by decide) (fun c_3 => ?_) (fun c_3 => ?_)
  · skip
    refine lv_iload hx hb dX5_nearTo_67 (lv_at hl 1 rfl) ?_
    refine lv_iconst (v := 1) hx hb dX5_nearTo_69 (by decide) ?_
    refine lv_icmp_ne (tgt := 83) hx hb dX5_nearTo_70 (by decide) (fun c_4 => ?_) (fun c_4 => ?_)
    · skip
      refine lv_iconst (v := 0) hx hb dX5_nearTo_83 (by decide) ?_
      exact W.zret (v := 0) hx hb hr rfl (fun t ht hW => ⟨⟨_, (), rfl, zb_f ((zst_ix a ha b hb9).trans ((if_neg c_3).trans (by rw [decide_eq_false c_4, Bool.false_and]))), by rw [ht]; exact hP, hD⟩, hS.F ht⟩) hS.2.2 dX5_nearTo_84
    · skip
      refine lv_iload hx hb dX5_nearTo_73 (lv_at hl 0 rfl) ?_
      refine lv_iconst (v := 1) hx hb dX5_nearTo_75 (by decide) ?_
      refine lv_icmp_gt (tgt := 83) hx hb dX5_nearTo_76 (by decide) (fun c_5 => ?_) (fun c_5 => ?_)
      · skip
        refine lv_iconst (v := 0) hx hb dX5_nearTo_83 (by decide) ?_
        exact W.zret (v := 0) hx hb hr rfl (fun t ht hW => ⟨⟨_, (), rfl, zb_f ((zst_ix a ha b hb9).trans ((if_neg c_3).trans (by rw [decide_eq_false (Int32.not_le.mpr c_5), Bool.and_false]))), by rw [ht]; exact hP, hD⟩, hS.F ht⟩) hS.2.2 dX5_nearTo_84
      · skip
        refine lv_iconst (v := 1) hx hb dX5_nearTo_79 (by decide) ?_
        refine lv_goto (tgt := 84) hx hb dX5_nearTo_80 (by decide) ?_
        exact W.zret (v := 1) hx hb hr rfl (fun t ht hW => ⟨⟨_, (), rfl, zb_t ((zst_ix a ha b hb9).trans ((if_neg c_3).trans (by rw [decide_eq_true c_4, decide_eq_true (Int32.not_lt.mp c_5)]; rfl))), by rw [ht]; exact hP, hD⟩, hS.F ht⟩) hS.2.2 dX5_nearTo_84
  · skip
    refine lv_iload hx hb dX5_nearTo_53 (lv_at hl 0 rfl) ?_
    refine lv_iconst (v := 1) hx hb dX5_nearTo_55 (by decide) ?_
    refine lv_icmp_ne (tgt := 63) hx hb dX5_nearTo_56 (by decide) (fun c_6 => ?_) (fun c_6 => ?_)
    · skip
      refine lv_iconst (v := 0) hx hb dX5_nearTo_63 (by decide) ?_
      refine lv_goto (tgt := 84) hx hb dX5_nearTo_64 (by decide) ?_
      exact W.zret (v := 0) hx hb hr rfl (fun t ht hW => ⟨⟨_, (), rfl, zb_f ((zst_ix a ha b hb9).trans ((if_pos c_3).trans (decide_eq_false c_6))), by rw [ht]; exact hP, hD⟩, hS.F ht⟩) hS.2.2 dX5_nearTo_84
    · skip
      refine lv_iconst (v := 1) hx hb dX5_nearTo_59 (by decide) ?_
      refine lv_goto (tgt := 84) hx hb dX5_nearTo_60 (by decide) ?_
      exact W.zret (v := 1) hx hb hr rfl (fun t ht hW => ⟨⟨_, (), rfl, zb_t ((zst_ix a ha b hb9).trans ((if_pos c_3).trans (decide_eq_true c_6))), by rw [ht]; exact hP, hD⟩, hS.F ht⟩) hS.2.2 dX5_nearTo_84
