section
/-! why the printed witness of this row can't compile: a start without the array class of StackTraceElement doesn't meet the Statement's premises, for 'castable' of a class that isn't there has no value, and 'not' of none isn't true -/
theorem z_noClass {a : Array Value} {U : State} (h : U.vm.findClass "[Ljava/lang/StackTraceElement;" = none) : (Jvm.Cond.and given_1 narrow_1).before a U = false := by
  cases hb : (Jvm.Cond.and given_1 narrow_1).before a U with
  | false => rfl
  | true =>
    have hs := flat_of_before _ hb
    have hc : (Cond.not (Cond.castable "[Ljava/lang/StackTraceElement;" "java/lang/String")).before a U = true := hs _ (by decide +kernel)
    simp [Cond.before, Cond.holds, Cond.value, h] at hc
end
section
/-! a trial of the whole round: not kept -/
theorem i_vc : Claimed_1_1 ∧ Claimed_1_2 := sorry
end
