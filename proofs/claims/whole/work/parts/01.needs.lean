set_option maxHeartbeats 4000000 in
set_option maxRecDepth 100000 in
/-- EVIDENCE for REPORT.md, 'TRANSLATOR': the statement's own premise holds in no start in which the array class of java/lang/StackTraceElement isn't among the machine's classes; the printed witness' start has no such class -/
theorem nx_needs {args : Array Value} {s : State} (h : (Jvm.Cond.and given_1 narrow_1).before args s = true) : (s.vm.findClass "[Ljava/lang/StackTraceElement;").isSome = true := by
  have hs := flat_of_before _ h
  have hc : (Cond.not (Cond.castable "[Ljava/lang/StackTraceElement;" "java/util/List")).before args s = true := hs _ (by decide +kernel)
  cases hf : s.vm.findClass "[Ljava/lang/StackTraceElement;" with
  | none => simp [Cond.before, Cond.holds, Cond.value, hf] at hc
  | some c => rfl
