/-! the law's wrappers: what they need of the machine -/
theorem met_ofWH {l : Launch} {y : MethodName} {ws ws' : List Cond} {rm : Room} {Pc : Array Value → State → Prop} {Qc : Array Value → State → Outcome → State → Prop} {mc ms : Nat} {free : Addr → Prop} {cc : ByteArray} {maxL : Nat} {ret : Option FieldType} {hh : List (Nat × Nat × Nat × Nat)}
    (hy : plainName y.cls = true) (hw : ws = Cond.codeWith y cc maxL ret hh :: ws')
    (body : ∀ p e s m args below meth c s₁, BodyLoose p l y (headSpec ws rm) cc maxL ret e s m args below meth c s₁ → c.maxLocals = maxL → Pc args s →
      W p l e (headSpec ws rm).room s m args below meth c s.heap [] 0 0 (MQ below Qc args s mc ms free) (entryFrame m args maxL)) : Met l y ws rm Pc Qc mc ms free := by
  refine MetFree.of_bodyS (code := cc) (maxLocals := maxL) (ret := ret) hy ?_ ?_
  · intro args s m h hn
    obtain ⟨m9, meth, c, hn9, h1, h2, h3, h4, -, h5, h6, -⟩ := Cond.codeWith_spec (atoms_spec (ws := ws) h _ (by rw [hw]; exact List.mem_cons_self))
    cases hn.symm.trans hn9
    exact ⟨meth, c, h1, h2, h3, h4, h5, h6⟩
  · intro p e s m args below meth c s₁ B hml hP _
    have hh0 : s₁.heap = s.heap := by rw [B.state]; rfl
    obtain ⟨t, a1, o, b1, b2, b3⟩ := body p e s m args below meth c s₁ B hml hP s₁ hh0 (Stand.of_body B)
    exact ⟨t, o, a1, b1, b2, ⟨b3.1, b3.2⟩⟩
theorem XW_blind {base : Nat} {U : State} {g : JFrame} {mk : MethodId} {a : Array Value} (h : XW base U) : XW base (U.calling g mk a) := by
  obtain ⟨h1, h2, h3, h4, h5⟩ := h
  refine ⟨fun k hk => ?_, vx_Zq.moved (u := U) (U := U.calling g mk a) (Vm.Alike.refl U.vm) h2, vx_Zq.moved (u := U) (U := U.calling g mk a) (Vm.Alike.refl U.vm) h3, fun X hX => va_Nw.same rfl (u := U) rfl (h4 X hX), fun Y hY => va_Nw.same rfl (u := U) rfl (h5 Y hY)⟩
  obtain ⟨sa, hs⟩ := h1 k hk
  exact ⟨sa, vk_R.same (u := U) rfl hs⟩
theorem XW_mv {base : Nat} {s U : State} {H : Heap} (h : XW base s) (hk : ∀ a : Nat, a < s.heap.size → ¬ base ≤ a → H[a]? = s.heap[a]?) (hU : U.heap = H) (hW : s.WarmedH U.vm) : XW base U := by
  obtain ⟨h1, h2, h3, h4, h5⟩ := h
  refine ⟨fun k hk => ?_, ?_, ?_, fun X hX => va_Nw.warmC hW (h4 X hX), fun Y hY => va_Nw.warmD hW (h5 Y hY)⟩
  · obtain ⟨sa, hs⟩ := h1 k hk
    exact ⟨sa, hs.warm hW⟩
  · rw [hU]; exact vx_Zq.moved hW.alike (h2.kept hk)
  · rw [hU]; exact vx_Zq.moved hW.alike (h3.kept hk)
theorem pX_blind {D : va_G} {tys : List (ClassId × FieldType)} {ws : va_W} {base sz : Nat} {av : List Value} : FrameBlind (va_Pc av (pX D tys ws base sz)) := fun a U g mk q => ⟨q.1, q.2.1, q.2.2.1, va_K.moved (u := U) (U := U.calling g mk a) (Vm.Alike.refl U.vm) q.2.2.2.1, q.2.2.2.2.1, NW.blind q.2.2.2.2.2.1, q.2.2.2.2.2.2.1, XW_blind q.2.2.2.2.2.2.2⟩
theorem pXV {D : va_G} {tys : List (ClassId × FieldType)} {ws wc : va_W} {s : State} {As : List Value} {b q0 ci base : Nat} {q : vw_C} {fs : List Value} (hK : va_K D vwCl tys s) (hP : va_P D vwCl ws s.heap) (hD : va_D (fun q => base ≤ q) ws) (hN : NW s) (hbs : base ≤ s.heap.size) (hXW : XW base s) (is : List Nat) (hs : is.map (fun i => ws[i]?) = wc.map some) (nd : va_nd is = true) (hc : vwCl[ci]? = some q) (he : ws[q0]? = some (b, .inr (ci, fs))) : PreV s s.heap q.1 b (va_Pc (.ref b :: As) (pX D tys wc base s.heap.size)) As :=
  ⟨pX_blind, va_recv hK hP hc he, fun U hU hW => ⟨rfl, by rw [hU], by rw [hU]; exact P_map hP is hs, va_K.moved hW.alike hK, hD.sub is nd hs, NW.moved hW hN, hbs, XW_mv hXW (fun _ _ _ => rfl) hU hW⟩⟩
/-- the pairs of which the first is no second -/
def NCl : List (String × String) := [("java/lang/IndexOutOfBoundsException", "java/lang/IllegalArgumentException"), ("java/lang/IndexOutOfBoundsException", "java/lang/IllegalStateException"), ("java/lang/IllegalArgumentException", "java/lang/IndexOutOfBoundsException"), ("java/lang/IllegalArgumentException", "java/lang/IllegalStateException"), ("java/lang/IllegalStateException", "java/lang/IndexOutOfBoundsException"), ("java/lang/IllegalStateException", "java/lang/IllegalArgumentException")]
def NC (U : State) : Prop := ∀ q ∈ NCl, va_Nc q.1 q.2 U
def tyL (cI cZ cS cJ : ClassId) : List (ClassId × FieldType) := [(cI, .int), (cZ, .boolean), (cS, .object RX5), (cJ, .long)]
/-- the law's row of one long -/
def wOt (cJ : ClassId) (ao : Nat) (f : Nat → Int64) : va_W := [(ao, .inl (cJ, 1, .inr (.inl f)))]
def pL (D : va_G) (cI cZ cS cJ : ClassId) (ws : va_W) (base sz : Nat) : State → Prop := fun U => pX D (tyL cI cZ cS cJ) ws base sz U ∧ NC U
theorem pL_blind {D : va_G} {cI cZ cS cJ : ClassId} {ws : va_W} {base sz : Nat} {av : List Value} : FrameBlind (va_Pc av (pL D cI cZ cS cJ ws base sz)) := fun a U g mk q => ⟨q.1, (pX_blind (av := av) a U g mk ⟨q.1, q.2.1⟩).2, fun r hr => va_Nc.moved (u := U) (U := U.calling g mk a) (Vm.Alike.refl U.vm) (q.2.2 r hr)⟩
/-- what a wrapper answers -/
def wrp (ks : List Int32) (c r k : Int32) (o : Int64) : Prop := (c = 0 ∧ k = 0 ∧ o = r.toInt64) ∨ ∃ i : Nat, ks[i]? = some c ∧ k = nI (i + 1)
