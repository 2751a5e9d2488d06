/-! the reference's history grows: a new row, the old one's numbers in it -/
theorem zcA_int {D : va_G} {cI cJ cZ cA : ClassId} {s : State} (hK : va_K D vwCl (zTy cI cJ cZ) s) (h9 : va_K D vwCl (zTy cI cJ cZ ++ [(cA, .int)]) s) : cI = cA :=
  Option.some.inj ((va_nm_int (hK.2 0 _ rfl).2).symm.trans (va_nm_int (h9.2 3 _ rfl).2))
theorem zcA_long {D : va_G} {cI cJ cZ cA : ClassId} {s : State} (hK : va_K D vwCl (zTy cI cJ cZ) s) (h9 : va_K D vwCl (zTy cI cJ cZ ++ [(cA, .long)]) s) : cJ = cA :=
  Option.some.inj ((va_nm_long (hK.2 1 _ rfl).2).symm.trans (va_nm_long (h9.2 3 _ rfl).2))
theorem zcA_bool {D : va_G} {cI cJ cZ cA : ClassId} {s : State} (hK : va_K D vwCl (zTy cI cJ cZ) s) (h9 : va_K D vwCl (zTy cI cJ cZ ++ [(cA, .boolean)]) s) : cZ = cA :=
  Option.some.inj ((va_nm_boolean (hK.2 2 _ rfl).2).symm.trans (va_nm_boolean (h9.2 3 _ rfl).2))
def zh9 (h : Nat → Nat) (q : Nat) : Nat → Nat := fun k => if k = 9 then q else h k
def zh3 (f : Nat → Int32) (co a b c : Nat) : Nat → Int32 := upd (upd (upd f (3 * co) (nI a)) (3 * co + 1) (nI b)) (3 * co + 2) (nI c)
abbrev zyn (g : Bool) (yn : Nat) : Nat := zsel g (2 * yn) yn
abbrev zyh (g : Bool) (yh : Nat → Int32) (yn : Nat) : Nat → Int32 := zsel g (va_cpy yh (fun _ => 0) 0 0 yn) yh
/-- the class's digest, whole -/
theorem zmx_def (d x : Int64) : d * 31 + x = zmx d x := rfl
