/-! a private method of an abstract class, on a receiver of a class below it -/
theorem zz_selP {args : Array Value} {s : State} {y : MethodName} {C : String} {N : Nat} (hins : (Cond.instantiable C N).before args s = true) (hsame : (Cond.sameMethod y.cls y.cls y.name y.desc).before args s = true) (hpriv : (Cond.privateMethod y).before args s = true) (hinst : (Cond.instanceMethod y).before args s = true) : (Cond.selects C y y).before args s = true := by
  obtain ⟨c, k, hc, hk, -, -, -, -⟩ := Cond.instantiable_spec hins
  obtain ⟨cn, ck, r1, hcn, hck, hni, hf, hn1⟩ := Cond.sameMethod_found hsame
  obtain ⟨mk, methM, hnamed, hmethM, -, -⟩ := Cond.instanceMethod_spec hinst
  have e1 : r1 = mk := Option.some.inj (hn1.symm.trans hnamed)
  subst e1
  have hcls : r1.cls = cn := Option.some.inj ((findClass_of_methodNamed hnamed).symm.trans hcn)
  have hsel : selectMethod {} s.vm c r1 = .method r1 := selectMethod_private hmethM (Cond.privateMethod_at hpriv r1 methM hnamed hmethM)
  simp only [Cond.before, Cond.holds, Cond.value, hc, hf, hnamed, hsel, hcls, hck]
  simp; exact hni
theorem zsp_X1 : Cond.selects RX1 ⟨RX3, "startReleasing", "()V"⟩ ⟨RX3, "startReleasing", "()V"⟩ ∈ zz_T := zz_memS (by simp [zz_sp]) (by decide +kernel)
theorem zsp_X2 : Cond.selects RX2 ⟨RX3, "startReleasing", "()V"⟩ ⟨RX3, "startReleasing", "()V"⟩ ∈ zz_T := zz_memS (by simp [zz_sp]) (by decide +kernel)
