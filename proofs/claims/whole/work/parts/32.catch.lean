/-! A throw that the method's own table takes: the search through the rows, one by one, each row's class being linked as it is met -/
section LXC
/-- one row that covers the place and names a class: taken or passed, and the class's link noted -/
theorem lx_one {Q : Handler → Pre} {E : CtlPost} {e : Env} {d : Bool} {acts : List Action} {S : State} {f : JFrame} {a : Addr} {x : ExceptionTableEntry} {t : List ExceptionTableEntry} {k : ClassId} {cell : Cell}
    (hx : covers x f.pc = true) (h0 : x.catchType ≠ 0) (hl : S.vm.ClassLinks e.platform f.method.cls x.catchType k) (hcell : S.heap[a]? = some cell) (hobj : ∀ i, cell.vm ≠ .statics i)
    (h1 : ∃ i, S.vm.classes[cell.cls]? = some i) (h2 : ∃ i, S.vm.classes[k]? = some i) :
    wp (findHandler.go f a (x :: t)) Q E e d acts S ↔ if S.vm.assignable cell.cls k = true then Q (.found x.handlerPc) d acts (S.setVm (S.vm.noted f.method.cls x.catchType (.cls k))) else wp (findHandler.go f a t) Q E e d acts (S.setVm (S.vm.noted f.method.cls x.catchType (.cls k))) := by
  obtain ⟨g1, g2⟩ := (resolveClass_links e.toSetting hl).op (op := VmOp.resolveClass f.method.cls x.catchType) rfl
  have al : S.vm.Alike (S.vm.noted f.method.cls x.catchType (.cls k)) := (Vm.Alike.refl S.vm).noted _ _ _
  obtain ⟨i1, h1⟩ := h1
  obtain ⟨i2, h2⟩ := h2
  obtain ⟨j1, h1', -⟩ := al.2.2 _ _ h1
  obtain ⟨j2, h2', -⟩ := al.2.2 _ _ h2
  rw [← al.assignable]
  simp only [covers] at hx
  cases hq : (S.vm.noted f.method.cls x.catchType (.cls k)).assignable cell.cls k <;> simp [findHandler.go, hx, h0, g1, g2, hcell, hobj, h1', h2', hq, VmOp.dirties, VmOp.acts]
/-- what a row does with an object of the class b: 'takes' says whether -/
def lx_row (pl : Platform) (s : State) (d : ClassId) (b : ClassId) (pc : Nat) (takes : Bool) (x : ExceptionTableEntry) : Prop := covers x pc = true ∧ x.catchType ≠ 0 ∧ ∃ k, s.vm.ClassLinks pl d x.catchType k ∧ s.vm.assignable b k = takes
theorem lx_go {e : Env} {s : State} {f : JFrame} {a : Addr} {cell : Cell} (hobj : ∀ i, cell.vm ≠ .statics i) (hb : ∃ i, s.vm.classes[cell.cls]? = some i) {x : ExceptionTableEntry} (suf : List ExceptionTableEntry) (hx : lx_row e.platform s f.method.cls cell.cls f.pc true x) :
    ∀ (pre : List ExceptionTableEntry) (S : State), s.WarmedH S.vm → S.heap[a]? = some cell → (∀ z ∈ pre, lx_row e.platform s f.method.cls cell.cls f.pc false z) →
      ∃ v, s.WarmedH v ∧ ∀ (Q : Handler → Pre) (E : CtlPost) (d : Bool) (acts : List Action), wp (findHandler.go f a (pre ++ x :: suf)) Q E e d acts S ↔ Q (.found x.handlerPc) d acts (S.setVm v) := by
  have step : ∀ {z : ExceptionTableEntry} {tk : Bool} {S : State}, lx_row e.platform s f.method.cls cell.cls f.pc tk z → s.WarmedH S.vm → S.heap[a]? = some cell →
      ∃ v, s.WarmedH v ∧ ∀ (t : List ExceptionTableEntry) (Q : Handler → Pre) (E : CtlPost) (d : Bool) (acts : List Action), wp (findHandler.go f a (z :: t)) Q E e d acts S ↔ if tk = true then Q (.found z.handlerPc) d acts (S.setVm v) else wp (findHandler.go f a t) Q E e d acts (S.setVm v) := by
    intro z tk S hz hW hcell
    obtain ⟨hc, h0, k, hl, hq⟩ := hz
    obtain ⟨i, hb⟩ := hb
    obtain ⟨i', hb', -⟩ := hW.alike.2.2 _ _ hb
    obtain ⟨dk, _, _, kt, hd, _, _, _, _, hkt, _, hopen⟩ := hl.here
    obtain ⟨kt', hkt', -⟩ := hW.alike.2.2 _ _ hkt
    refine ⟨_, hW.noted hd hopen (State.rightAt_cls hl), fun t Q E d acts => ?_⟩
    rw [lx_one hc h0 (hW.classLinks hl) hcell hobj ⟨i', hb'⟩ ⟨kt', hkt'⟩, hW.alike.assignable, hq]
  intro pre
  induction pre with
  | nil =>
    intro S hW hcell _
    obtain ⟨v, hv, hq⟩ := step hx hW hcell
    exact ⟨v, hv, fun Q E d acts => by rw [List.nil_append, hq, if_pos rfl]⟩
  | cons y ys ih =>
    intro S hW hcell hp
    obtain ⟨v, hv, hq⟩ := step (hp y List.mem_cons_self) hW hcell
    obtain ⟨v', hv', hq'⟩ := ih (S.setVm v) hv hcell (fun z hz => hp z (List.mem_cons_of_mem _ hz))
    refine ⟨v', hv', fun Q E d acts => ?_⟩
    rw [List.cons_append, hq, if_neg (by decide)]
    exact hq' Q E d acts
variable {p : Program} {l : Launch} {e : Env} {R : Room} {s : State} {m : MethodId} {args : Array Value} {below : List Frame} {meth : Method} {c : Code} {H : Heap} {locs : List Loc} {cells slots : Nat} {Q : State → Prop} {ls : Array Slot} {rest : List Value} {pc : Nat}
theorem lx_catch {own name : String} {E : String} {ce : Cell} {q : Addr} (hown : s.vm.findClass own = some m.cls) (pre : List ExceptionTableEntry) (x : ExceptionTableEntry) (suf : List ExceptionTableEntry) (htab : c.exceptionTable.toList = pre ++ x :: suf)
    (hpass : ∀ z ∈ pre, covers z pc = true ∧ z.catchType ≠ 0 ∧ ∃ nm : String, (Cond.classLink own z.catchType nm).before args s = true ∧ va_Nc E nm s) (hx : covers x pc = true) (h0 : x.catchType ≠ 0)
    (hlink : (Cond.classLink own x.catchType name).before args s = true) (hcast : (Cond.castable E name).before args s = true) (hcell : H[q]? = some ce) (hv : ce.vm = .none) (hcl : s.vm.findClass E = some ce.cls)
    (kk : W p l e R s m args below meth c H locs cells slots Q (F0 m x.handlerPc ls [.ref q])) : vx_W p l e R s m args below meth c H locs cells slots Q (F0 m pc ls rest) q := by
  intro T hT X
  have hpl : e.platform.magicAccessors = ({} : Platform).magicAccessors := by rw [X.admits.platform]
  obtain ⟨b, k, hb, hk, hfit⟩ := Cond.castable_spec hcast
  cases Option.some.inj (hb.symm.trans hcl)
  have rowx : lx_row e.platform s m.cls ce.cls pc true x := by
    obtain ⟨k', hk', hcl'⟩ := Cond.classLink_spec hown hlink e.platform hpl
    cases Option.some.inj (hk.symm.trans hk')
    exact ⟨hx, h0, _, hcl', hfit⟩
  have rows : ∀ z ∈ pre, lx_row e.platform s m.cls ce.cls pc false z := by
    intro z hz
    obtain ⟨hc, hz0, nm, hl1, hn1⟩ := hpass z hz
    obtain ⟨k', hk', hcl'⟩ := Cond.classLink_spec hown hl1 e.platform hpl
    obtain ⟨a8, b8, g1, g2, g3⟩ := hn1
    cases Option.some.inj (g1.symm.trans hcl)
    cases Option.some.inj (g2.symm.trans hk')
    exact ⟨hc, hz0, _, hcl', g3⟩
  have hkn : ∃ i, s.vm.classes[ce.cls]? = some i := by
    obtain ⟨i, hi, -⟩ := Vm.findClass_spec hcl
    exact ⟨i, hi⟩
  obtain ⟨v, hW, hq⟩ := lx_go (e := e) (s := s) (f := F0 m pc ls rest) (a := q) (cell := ce) (fun i => by rw [hv]; intro h9; cases h9) hkn suf rowx pre ((T.setTop (F0 m pc ls rest)).pushFrame (.throwing q))
    (by rw [Jvm.Stand.throwing_vm]; exact X.warmed) (by rw [Jvm.Stand.throwing_heap, hT]; exact hcell) rows
  obtain ⟨t, a1, b1⟩ := kk (T.setVm v) hT (X.noted hW)
  refine ⟨t, ?_, b1⟩
  have hA : At T (F0 m pc ls rest).method c below := X.here
  obtain ⟨hgo, hw⟩ := hA.throwing q
  refine Steps.head hgo hw ?_
  have hmeth : ((T.setTop (F0 m pc ls rest)).pushFrame (.throwing q)).vm.method? m = some meth := by rw [Jvm.Stand.throwing_vm]; exact X.method'
  have key : (stepThrowing e ((T.setTop (F0 m pc ls rest)).pushFrame (.throwing q)) q (.java (F0 m pc ls rest) :: T.frames.tail)).Is ((((T.setTop (F0 m pc ls rest)).pushFrame (.throwing q)).setVm v).setFrames (.java { F0 m pc ls rest with pc := x.handlerPc, stack := [.ref q] } :: T.frames.tail)) [] := by
    simp only [stepThrowing, searchFrame, vmDo]
    generalize hr : Sem.go _ e false [] ((T.setTop (F0 m pc ls rest)).pushFrame (.throwing q)) = res
    obtain ⟨as, rfl, ha⟩ := Sem.eq_ok_of hr (a := Handler.found x.handlerPc) (s' := ((T.setTop (F0 m pc ls rest)).pushFrame (.throwing q)).setVm v) (acts' := [])
      (by simp [Jvm.W.findHandler_eq (f := F0 m pc ls rest) hmeth X.code, htab, hq])
    exact ⟨rfl, ha⟩
  rw [stepThread_throwing (frames_entered hA.top _), key.1]
  obtain ⟨g0, hg0⟩ := Option.isSome_iff_exists.mp hA.top
  obtain ⟨r, hr⟩ := State.topJava?_eq_some.mp hg0
  have hr' : (T.setVm v).frames = .java g0 :: r := hr
  have e1 : ∀ (u : State) (F G : List Frame), ((u.setFrames F).setVm v).setFrames G = (u.setVm v).setFrames G := by
    intro u F G
    rw [show (u.setFrames F).setVm v = (u.setVm v).setFrames F from rfl, State.setFrames_setFrames]
  rw [State.setTop_of_frames _ hr'] at a1
  rw [hr, List.tail_cons, State.pushFrame, e1, State.setTop_of_frames _ hr, e1]
  exact a1
end LXC
