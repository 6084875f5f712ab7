/-- what the Statement takes as given needs the class of the rows of StackTraceElement among the classes of the start -/
theorem pw_needs {a : Array Value} {s : State} (h : (Jvm.Cond.and given_1 narrow_1).before a s = true) : ∃ c : ClassId, s.vm.findClass "[Ljava/lang/StackTraceElement;" = some c := by
  have h1 := flat_of_before _ h (Cond.not (Cond.castable "[Ljava/lang/StackTraceElement;" "java/lang/Integer")) (by decide +kernel)
  cases hc : s.vm.findClass "[Ljava/lang/StackTraceElement;" with
  | some c => exact ⟨c, rfl⟩
  | none => simp [Cond.before, Cond.holds, Cond.value, hc] at h1
/-- so a start without that class meets the premises of no run -/
theorem pw_none {a : Array Value} {s : State} (h : s.vm.findClass "[Ljava/lang/StackTraceElement;" = none) : (Jvm.Cond.and given_1 narrow_1).before a s = false := by
  cases hb : (Jvm.Cond.and given_1 narrow_1).before a s with
  | false => rfl
  | true =>
    obtain ⟨c, hc⟩ := pw_needs hb
    rw [h] at hc
    cases hc
