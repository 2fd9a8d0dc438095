theorem selects_priv {C : String} {y z : MethodName} {s : State} {args : Array Value} (hy : y.cls ≠ "java/lang/invoke/MethodHandle" ∧ y.cls ≠ "java/lang/invoke/VarHandle") (hcl : y.cls = z.cls)
    (hz : (Cond.selects C z z).before args s = true) (hpriv : (Cond.privateMethod y).before args s = true) (hinst : (Cond.instanceMethod y).before args s = true) : (Cond.selects C y y).before args s = true := by
  obtain ⟨mk, methM, hnamed, hmethM, -, -⟩ := Cond.instanceMethod_spec hinst
  have hfound : s.methodFound? y.cls y.name y.desc = some mk := State.methodFound?_of_named hnamed hy
  cases hc : s.vm.findClass C with
  | none => simp [Cond.before, Cond.holds, Cond.value, hc] at hz
  | some c =>
    cases hr : s.methodFound? z.cls z.name z.desc with
    | none => simp [Cond.before, Cond.holds, Cond.value, hc, hr] at hz
    | some r =>
      cases hm : s.methodNamed? z with
      | none => simp [Cond.before, Cond.holds, Cond.value, hc, hr, hm] at hz
      | some m =>
        have e1 : mk.cls = m.cls := Option.some.inj ((findClass_of_methodNamed hnamed).symm.trans ((congrArg s.vm.findClass hcl).trans (findClass_of_methodNamed hm)))
        have hsel : selectMethod {} s.vm c mk = .method mk := selectMethod_private hmethM (Cond.privateMethod_at hpriv mk methM hnamed hmethM)
        cases hk : s.vm.classes[m.cls]? with
        | none =>
          cases hsm : selectMethod {} s.vm c r <;> simp [Cond.before, Cond.holds, Cond.value, hc, hr, hm, hsm, hk] at hz
        | some k =>
          have hni : k.isInterface = false := by
            cases hi : k.isInterface with
            | false => rfl
            | true => cases hsm : selectMethod {} s.vm c r <;> simp [Cond.before, Cond.holds, Cond.value, hc, hr, hm, hsm, hk, hi] at hz
          simp only [Cond.before, Cond.holds, Cond.value, hc, hfound, hnamed, hsel, e1, hk]
          simp
          exact hni
