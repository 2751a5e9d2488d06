/-! what the law finds at its entry -/
def zFl : List Cond := flatC (Jvm.Cond.and given_1 narrow_1)
theorem zfl_row : ∀ j, j < 26 → Cond.eq (.elem (.static RX4 "KEY_ROW" "[I") (.int (Int32.ofNat j))) (.int (zKR j)) ∈ zFl := by decide +kernel
theorem zfl_place : ∀ j, j < 26 → Cond.eq (.elem (.static RX4 "KEY_PLACE" "[I") (.int (Int32.ofNat j))) (.int (zKP j)) ∈ zFl := by decide +kernel
theorem zfl_len : ∀ q ∈ ["KEY_ROW", "KEY_PLACE"], Cond.eq (.length (.static RX4 q "[I")) (.int (Int32.ofNat 26)) ∈ zFl ∧ Cond.arrayOf (.static RX4 q "[I") .int ∈ zFl := by decide +kernel
theorem zfl_nc : ∀ q ∈ zNc, Cond.not (.castable q.1 q.2) ∈ zFl := by decide +kernel
theorem zfl_ref : Cond.isRef (.static Bundle.tN "UNASSIGNED_STACK" Bundle.steD) ∈ zFl ∧ Cond.isRef (.static Bundle.tN "SUPPRESSED_SENTINEL" Bundle.listD) ∈ zFl ∧ Cond.eq (.static "java/lang/String" "COMPACT_STRINGS" "Z") (.int 1) ∈ zFl := by decide +kernel
theorem zfl_str : ∀ q ∈ zStr, Cond.exactly (.string RX4 q.1) "java/lang/String" ∈ zFl := by decide +kernel
theorem zfl_rows : Cond.exactly (.string RX5 84) "java/lang/String" ∈ zFl ∧ Cond.eq (.field (.string RX5 84) "java/lang/String" "coder" "B") (.int 0) ∈ zFl ∧ Cond.arrayOf (.field (.string RX5 84) "java/lang/String" "value" "[B") .byte ∈ zFl ∧ Cond.eq (.length (.field (.string RX5 84) "java/lang/String" "value" "[B")) (.int (Int32.ofNat 29)) ∈ zFl := by decide +kernel
theorem zfl_byte : ∀ j, j < 29 → Cond.eq (.elem (.field (.string RX5 84) "java/lang/String" "value" "[B") (.int (Int32.ofNat j))) (.int (zBy.getD j 0)) ∈ zFl := by decide +kernel
theorem ztb_nest : ∀ w ∈ zNest, w ∈ lw_tbl ∧ w.onTables = true := by decide +kernel
theorem ztb_cast : ∀ X ∈ zCast, Cond.castable X X ∈ lw_tbl := by decide +kernel
theorem ztb_dec : ∀ X ∈ zDec, Cond.declares X ∈ lw_tbl := by decide +kernel
theorem ztb_lay : ∀ q ∈ ["KEY_ROW", "KEY_PLACE"], Cond.laysStatic RX4 q "[I" ∈ lw_tbl := by decide +kernel
theorem ztb_ini : ∀ q ∈ [RX4, Bundle.tN, "java/lang/String"], Cond.initialized q ∈ lw_tbl := by decide +kernel
theorem ztb_thr : Cond.laysStatic Bundle.tN "UNASSIGNED_STACK" Bundle.steD ∈ lw_tbl ∧ Cond.laysStatic Bundle.tN "SUPPRESSED_SENTINEL" Bundle.listD ∈ lw_tbl ∧ Cond.laysStatic "java/lang/String" "COMPACT_STRINGS" "Z" ∈ lw_tbl := by decide +kernel
theorem ztb_str : ∀ q ∈ zStr, Cond.stringRef RX4 q.1 q.2 ∈ lw_tbl := by decide +kernel
theorem ztb_rows : Cond.stringRef RX5 84 "qwertyuiop asdfghjkl  zxcvbnm" ∈ lw_tbl := by decide +kernel
theorem ztb_arr : Cond.arrayClass .int ∈ lw_tbl ∧ Cond.arrayClass .long ∈ lw_tbl ∧ Cond.arrayClass .boolean ∈ lw_tbl := by decide +kernel
theorem ztb_inst : Cond.instantiable RX0 7 ∈ lw_tbl ∧ Cond.instantiable RX1 3 ∈ lw_tbl ∧ Cond.instantiable RX2 11 ∈ lw_tbl ∧ Cond.instantiable RX3 2 ∈ lw_tbl ∧ Cond.instantiable RX4 6 ∈ lw_tbl ∧ Cond.instantiable RX5 20 ∈ lw_tbl := by decide +kernel
section ZSTART
variable {p : Program} {s : State} {m : MethodId} {meth : Method} {c : Code} {b L : Nat} {xs : Nat → Int32}
theorem law_table {q : String} {f : Nat → Int32} (hs : ∀ w ∈ zFl, w.before #[Value.ref b] s = true) (hq : q ∈ ["KEY_ROW", "KEY_PLACE"]) (hf : ∀ j, j < 26 → Cond.eq (.elem (.static RX4 q "[I") (.int (Int32.ofNat j))) (.int (f j)) ∈ zFl) (hts : ∀ w ∈ lw_tbl, w.before #[Value.ref b] s = true) :
    ∃ t : Nat, va_Z RX4 q "[I" (.ref t) (zAb s.heap.size) s s.heap ∧ t < s.heap.size ∧ va_T .int t 26 (fun k => .int (f k)) (zAb s.heap.size) s s.heap := by
  have hA : ∀ a : Nat, a < s.heap.size → ¬ zAb s.heap.size a := fun a ha => Nat.not_le.mpr ha
  obtain ⟨t, ht, hT⟩ := va_Tof (tm := .static RX4 q "[I") (ty := .int) (N := 26) (f := fun k => .int (f k)) (A := zAb s.heap.size) (by decide) (hs _ (zfl_len q hq).2) (va_eqt (hs _ (zfl_len q hq).1)) (fun j hj => va_eqt (hs _ (hf j hj))) hA
  exact ⟨t, va_Zref (hts _ (ztb_lay q hq)) (hts _ (ztb_ini RX4 (by decide +kernel))) ht hA, Nat.not_le.mp hT.out, hT⟩
theorem law_zE (C0 : lw_At p s m meth c b L xs) : ∃ kr kp, zE s.heap.size kr kp s s.heap := by
  obtain ⟨-, -, -, -, -, hts, -, -, -, hgv⟩ := C0
  have hs : ∀ w ∈ zFl, w.before #[Value.ref b] s = true := flat_of_before _ hgv
  have hA : ∀ a : Nat, a < s.heap.size → ¬ zAb s.heap.size a := fun a ha => Nat.not_le.mpr ha
  obtain ⟨kr, hr1, hr2, hr3⟩ := law_table (q := "KEY_ROW") hs (by decide +kernel) zfl_row hts
  obtain ⟨kp, hp1, hp2, hp3⟩ := law_table (q := "KEY_PLACE") hs (by decide +kernel) zfl_place hts
  obtain ⟨aK, aV, hS9, hr9⟩ := vk_Sof (N := 1) (tm := fun _ => .string RX5 84) (len := [29]) (byt := [zBy]) (A := zAb s.heap.size) (s := s) (args := #[Value.ref b]) (fun i hi => by obtain rfl := Nat.lt_one_iff.mp hi; decide) (fun _ _ => hs _ zfl_rows.1) (fun _ _ => hs _ zfl_rows.2.1) (fun _ _ => hs _ zfl_rows.2.2.1)
    (fun i hi => by obtain rfl := Nat.lt_one_iff.mp hi; exact hs _ zfl_rows.2.2.2) (fun i hi j hj => by obtain rfl := Nat.lt_one_iff.mp hi; exact hs _ (zfl_byte j hj)) (fun i j hi hj hij => absurd (show i = j by omega) hij) hA
  refine ⟨kr, kp, fun w hw => va_Nw.of (ztb_nest w hw).2 (hts w (ztb_nest w hw).1), ⟨fun X hX => va_Nw.of rfl (hts _ (ztb_cast X hX)), fun X hX => va_Nw.of rfl (hts _ (ztb_dec X hX)), fun q hq => va_Nc.of (hs _ (zfl_nc q hq))⟩, ⟨hr1, hp1⟩, ⟨⟨hr2, hr3⟩, ⟨hp2, hp3⟩⟩,
    ⟨vx_Zqof (hts _ ztb_thr.1) (hts _ (ztb_ini _ (by decide +kernel))) (hs _ zfl_ref.1) hA, vx_Zqof (hts _ ztb_thr.2.1) (hts _ (ztb_ini _ (by decide +kernel))) (hs _ zfl_ref.2.1) hA⟩, fun q hq => ?_, aK, aV, vk_R.of (hts _ ztb_rows) (hr9 0 (by decide)), hS9, va_Zof (hts _ ztb_thr.2.2) (hts _ (ztb_ini _ (by decide +kernel))) (va_eqt (hs _ zfl_ref.2.2)) hA⟩
  obtain ⟨a, c9, cA, kA, q1, -⟩ := Cond.exactly_spec (args := #[Value.ref b]) (first := s) (o := none) (s := s) (idx := []) (t := .string RX4 q.1) (cls := "java/lang/String") (hs _ (zfl_str q hq))
  exact ⟨a, vk_R.of (hts _ (ztb_str q hq)) q1⟩
theorem law_arr {ty : FieldType} (h : (Cond.arrayClass ty).before #[Value.ref b] s = true) : ∃ cA, ArrOfT s cA ty ∧ s.vm.findClass ("[" ++ ty.toString) = some cA := by
  obtain ⟨cA, kA, comp, h1, h2, h3⟩ := Cond.arrayClass_spec h
  exact ⟨cA, fun n z => ⟨fun k h => (by cases h), kA, h2, comp, h3⟩, h1⟩
theorem law_K (C0 : lw_At p s m meth c b L xs) : ∃ (D : va_G) (cI cJ cZ : ClassId), va_K D vwCl (zTy cI cJ cZ) s := by
  obtain ⟨-, -, -, -, -, hts, -, -, -, -⟩ := C0
  obtain ⟨i0, i1, i2, i3, i4, i5⟩ := ztb_inst
  obtain ⟨c0, s0, h0⟩ := u_known (C := RX0) (T := TX0) (N := 7) (n := 7) hts inX0 (hts _ i0)
  obtain ⟨c1, s1, h1⟩ := u_known (C := RX1) (T := TX1) (N := 3) (n := 3) hts inX1 (hts _ i1)
  obtain ⟨c2, s2, h2⟩ := u_known (C := RX2) (T := TX2) (N := 11) (n := 11) hts inX2 (hts _ i2)
  obtain ⟨c3, s3, h3⟩ := u_known (C := RX3) (T := TX3) (N := 2) (n := 2) hts inX3 (hts _ i3)
  obtain ⟨c4, s4, h4⟩ := u_known (C := RX4) (T := TX4) (N := 6) (n := 6) hts inX4 (hts _ i4)
  obtain ⟨c5, s5, h5⟩ := u_known (C := RX5) (T := TX5) (N := 20) (n := 20) hts inX5 (hts _ i5)
  obtain ⟨cI, a1, b1⟩ := law_arr (hts _ ztb_arr.1)
  obtain ⟨cJ, a2, b2⟩ := law_arr (hts _ ztb_arr.2.1)
  obtain ⟨cZ, a3, b3⟩ := law_arr (hts _ ztb_arr.2.2)
  refine ⟨(fun k => if k = 0 then c0 else if k = 1 then c1 else if k = 2 then c2 else if k = 3 then c3 else if k = 4 then c4 else c5, fun k => if k = 0 then s0 else if k = 1 then s1 else if k = 2 then s2 else if k = 3 then s3 else if k = 4 then s4 else s5), cI, cJ, cZ, fun k q hq => ?_, fun k q hq => ?_⟩
  · match k, hq with
    | 0, hq => cases hq; exact h0
    | 1, hq => cases hq; exact h1
    | 2, hq => cases hq; exact h2
    | 3, hq => cases hq; exact h3
    | 4, hq => cases hq; exact h4
    | 5, hq => cases hq; exact h5
    | k + 6, hq => simp [vwCl] at hq
  · match k, hq with
    | 0, hq => cases hq; exact ⟨a1, b1⟩
    | 1, hq => cases hq; exact ⟨a2, b2⟩
    | 2, hq => cases hq; exact ⟨a3, b3⟩
    | k + 3, hq => simp at hq
theorem law_hls (l : Launch) (hflags : l.flags = flags0) : l.stackTraces = false := by
  unfold Launch.stackTraces
  rw [hflags]
  decide +kernel
end ZSTART
theorem zInv_0 : zInv 0 0 (fun _ => 0) (fun _ => 0) (fun _ => 0) (fun _ => 0) (fun _ => 0) false 0 0 0 0 0 0 (fun _ => 0) (fun _ => 0) (fun _ => 0) 0 12 0 0 (fun _ => 0) :=
  ⟨⟨Nat.zero_le _, fun k hk => absurd hk (Nat.not_lt_zero k)⟩, ⟨Nat.zero_le _, Nat.zero_le _, Nat.zero_le _, Nat.zero_le _, Nat.zero_le _⟩, (fun q => Bool.noConfusion q), fun k hk => absurd hk (Nat.not_lt_zero k), fun k hk => absurd hk (Nat.not_lt_zero k), ⟨by decide, by decide⟩, ⟨fun k hk => absurd hk (Nat.not_lt_zero k), by decide, by decide, by decide, by decide⟩,
   fun k hk => absurd hk (Nat.not_lt_zero k), ⟨nI_0.symm, nI_0.symm, by decide⟩, fun p _ => ⟨0, Nat.le_refl _, nI_0.symm⟩⟩
