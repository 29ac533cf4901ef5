/-! Evidence for REPORT.md, TRANSLATOR 1: no start whose classes don't name the array class of StackTraceElement meets narrow_1_1. -/
theorem nw_left {args : Array Value} {s : State} {a b : Jvm.Cond} (h : (Jvm.Cond.and a b).before args s = true) : a.before args s = true := by
  rw [Cond.before_and, Bool.and_eq_true] at h; exact h.1
theorem nw_right {args : Array Value} {s : State} {a b : Jvm.Cond} (h : (Jvm.Cond.and a b).before args s = true) : b.before args s = true := by
  rw [Cond.before_and, Bool.and_eq_true] at h; exact h.2
theorem nw_pair {args : Array Value} {s : State} (h : narrow_1_1.before args s = true) :
    (Jvm.Cond.not (Jvm.Cond.castable "[Ljava/lang/StackTraceElement;" "java/lang/Integer")).before args s = true := by
  unfold narrow_1_1 at h
  exact nw_left (nw_right (nw_left (nw_right (nw_left (nw_left (nw_left (nw_right h)))))))
theorem nw_poison {args : Array Value} {s : State} (hn : s.vm.findClass "[Ljava/lang/StackTraceElement;" = none) :
    narrow_1_1.before args s = false := by
  cases h : narrow_1_1.before args s with
  | false => rfl
  | true =>
    have h1 := nw_pair h
    simp [Cond.before, Cond.holds, Cond.value, hn] at h1
