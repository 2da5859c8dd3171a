-- EXCEPTIONS: the search through a table whose rows must be resolved; caught by the caller
theorem tx_row {Q : Handler → Pre} {E : CtlPost} {e : Env} {d : Bool} {acts : List Action} {s : State} {f : JFrame} {a : Addr} {x : ExceptionTableEntry} {t : List ExceptionTableEntry} {c : ClassId} {cell : Cell} {k1 k2 : Class} (hx : covers x f.pc = true) (h0 : x.catchType ≠ 0)
    (hl : s.vm.ClassLinks e.platform f.method.cls x.catchType c) (hcell : s.heap[a]? = some cell) (hobj : ∀ k, cell.vm ≠ .statics k) (hk : s.vm.classes[cell.cls]? = some k1) (hc : s.vm.classes[c]? = some k2) :
    wp (findHandler.go f a (x :: t)) Q E e d acts s ↔ if s.vm.assignable cell.cls c = true then Q (.found x.handlerPc) d acts (s.setVm (s.vm.noted f.method.cls x.catchType (.cls c))) else wp (findHandler.go f a t) Q E e d acts (s.setVm (s.vm.noted f.method.cls x.catchType (.cls c))) := by
  have hx2 : (decide (x.startPc ≤ f.pc) && decide (f.pc < x.endPc)) = true := hx
  obtain ⟨r1, r2⟩ := (resolveClass_links e.toSetting hl).op (op := VmOp.resolveClass f.method.cls x.catchType) rfl
  have hal : s.vm.Alike (s.vm.noted f.method.cls x.catchType (.cls c)) := (Vm.Alike.refl s.vm).noted _ _ _
  obtain ⟨k3, q3, -⟩ := hal.2.2 _ _ hk
  obtain ⟨k4, q4, -⟩ := hal.2.2 _ _ hc
  have hA : (s.vm.noted f.method.cls x.catchType (.cls c)).assignable cell.cls c = s.vm.assignable cell.cls c := by rw [hal.assignable]
  cases hfit : s.vm.assignable cell.cls c with
  | true =>
    rw [hfit] at hA
    simp [findHandler.go, hx2, h0, r1, r2, hcell, hobj, q3, q4, hA, VmOp.dirties, VmOp.acts]
  | false =>
    rw [hfit] at hA
    simp [findHandler.go, hx2, h0, r1, r2, hcell, hobj, q3, q4, hA, VmOp.dirties, VmOp.acts]
/-- a row that covers the place and names a class: it takes the exception, or it doesn't -/
def txR (pl : Platform) (s₀ : State) (f : JFrame) (cell : Cell) (b : Bool) (x : ExceptionTableEntry) : Prop := covers x f.pc = true ∧ x.catchType ≠ 0 ∧ ∃ c, s₀.vm.ClassLinks pl f.method.cls x.catchType c ∧ s₀.vm.assignable cell.cls c = b
theorem tx_rows {e : Env} {s₀ : State} {f : JFrame} {a : Addr} {cell : Cell} {k0 : Class} (hobj : ∀ k, cell.vm ≠ .statics k) (hk0 : s₀.vm.classes[cell.cls]? = some k0) {x : ExceptionTableEntry} {suf : List ExceptionTableEntry} (hx : txR e.platform s₀ f cell true x) :
    ∀ (pre : List ExceptionTableEntry) (S : State), s₀.WarmedH S.vm → S.heap[a]? = some cell → (∀ y ∈ pre, txR e.platform s₀ f cell false y) → ∃ vm', s₀.WarmedH vm' ∧ ∀ (Q : Handler → Pre) (E : CtlPost) (d : Bool) (acts : List Action), wp (findHandler.go f a (pre ++ x :: suf)) Q E e d acts S ↔ Q (.found x.handlerPc) d acts (S.setVm vm')
  | [], S, hW, hcell, _ => by
    obtain ⟨x1, x2, c, x3, x4⟩ := hx
    obtain ⟨dk, _, _, kt, hd, _, _, _, _, hkt, _, hopen⟩ := x3.here
    obtain ⟨k1, h1, -⟩ := hW.alike.2.2 _ _ hk0
    obtain ⟨k2, h2, -⟩ := hW.alike.2.2 _ _ hkt
    refine ⟨_, hW.noted hd hopen (State.rightAt_cls x3), fun Q E d acts => ?_⟩
    rw [List.nil_append, tx_row x1 x2 (hW.classLinks x3) hcell hobj h1 h2, if_pos (by rw [hW.alike.assignable]; exact x4)]
  | y :: ys, S, hW, hcell, hp => by
    obtain ⟨y1, y2, c, y3, y4⟩ := hp y List.mem_cons_self
    obtain ⟨dk, _, _, kt, hd, _, _, _, _, hkt, _, hopen⟩ := y3.here
    obtain ⟨k1, h1, -⟩ := hW.alike.2.2 _ _ hk0
    obtain ⟨k2, h2, -⟩ := hW.alike.2.2 _ _ hkt
    obtain ⟨vm', hW', hq⟩ := tx_rows hobj hk0 hx ys (S.setVm (S.vm.noted f.method.cls y.catchType (.cls c))) (hW.noted hd hopen (State.rightAt_cls y3)) hcell (fun z hz => hp z (List.mem_cons_of_mem _ hz))
    refine ⟨vm', hW', fun Q E d acts => ?_⟩
    rw [List.cons_append, tx_row y1 y2 (hW.classLinks y3) hcell hobj h1 h2, if_neg (by rw [hW.alike.assignable, y4]; decide)]
    exact hq Q E d acts
theorem tx_step {e : Env} {s : State} {a : Addr} {f : JFrame} {r : List Frame} {pc : Nat} {vm' : Vm} (hfind : ∀ (Q : Handler → Pre) (E : CtlPost) (d : Bool) (acts : List Action), wp (findHandler f a) Q E e d acts s ↔ Q (.found pc) d acts (s.setVm vm')) :
    (stepThrowing e s a (.java f :: r)).Is ((s.setVm vm').setFrames (.java { f with pc := pc, stack := [.ref a] } :: r)) [] := by
  simp only [stepThrowing, searchFrame, vmDo]
  generalize hr : Sem.go _ e false [] s = res
  obtain ⟨as, rfl, ha⟩ := Sem.eq_ok_of hr (a := Handler.found pc) (s' := s.setVm vm') (acts' := []) (by simp [hfind _ _ _ _])
  exact ⟨rfl, ha⟩
theorem tx_steps {tb : Tables} {e : Env} {s target : State} {g : JFrame} {c : Code} {below : List Frame} {a : Addr} (h : At s g.method c below) {pc : Nat} {vm' : Vm}
    (hfind : ∀ (Q : Handler → Pre) (E : CtlPost) (d : Bool) (acts : List Action), wp (findHandler g a) Q E e d acts ((s.setTop g).pushFrame (.throwing a)) ↔ Q (.found pc) d acts (((s.setTop g).pushFrame (.throwing a)).setVm vm')) (hrest : Steps tb e below ((s.setVm vm').setTop { g with pc := pc, stack := [.ref a] }) target) :
    Steps tb e below ((s.setTop g).pushFrame (.throwing a)) target := by
  obtain ⟨hgo, hw⟩ := h.throwing a
  refine Steps.head hgo hw ?_
  rw [stepThread_throwing (frames_entered h.top _), (tx_step (s := (s.setTop g).pushFrame (.throwing a)) hfind).1]
  obtain ⟨g₀, hg⟩ := Option.isSome_iff_exists.mp h.top
  obtain ⟨r, hr⟩ := State.topJava?_eq_some.mp hg
  have hr' : (s.setVm vm').frames = .java g₀ :: r := hr
  have hfs : ∀ (u : State) (F G : List Frame), ((u.setFrames F).setVm vm').setFrames G = (u.setVm vm').setFrames G := fun u F G => by
    rw [show (u.setFrames F).setVm vm' = (u.setVm vm').setFrames F from rfl, State.setFrames_setFrames]
  rw [State.setTop_of_frames _ hr'] at hrest
  rw [hr, List.tail_cons, State.pushFrame, hfs, State.setTop_of_frames _ hr, hfs]
  exact hrest
section TXC
variable {p : Program} {l : Launch} {e : Env} {R : Room} {s : State} {m : MethodId} {args : Array Value} {below : List Frame} {meth : Method} {c : Code} {H : Heap} {locs : List Loc} {cells slots : Nat} {Q : State → Prop} {pc : Nat} {ls : Array Slot} {rest : List Value}
/-- caught here by the row x -/
theorem tx_catch {q : Addr} {ce : Cell} {k0 : Class} (pre : List ExceptionTableEntry) (x : ExceptionTableEntry) (suf : List ExceptionTableEntry) (hsplit : c.exceptionTable.toList = pre ++ x :: suf) (hpass : ∀ z ∈ pre, txR e.platform s (F0 m pc ls rest) ce false z) (hx : txR e.platform s (F0 m pc ls rest) ce true x)
    (hcell : H[q]? = some ce) (hv : ce.vm = .none) (hk : s.vm.classes[ce.cls]? = some k0) (kk : W p l e R s m args below meth c H locs cells slots Q (F0 m x.handlerPc ls [.ref q])) : vx_W p l e R s m args below meth c H locs cells slots Q (F0 m pc ls rest) q := by
  intro T hT X
  obtain ⟨vm', hW', hq⟩ := tx_rows (e := e) (s₀ := s) (f := F0 m pc ls rest) (a := q) (cell := ce) (fun k h => by rw [hv] at h; cases h) hk hx (suf := suf) pre ((T.setTop (F0 m pc ls rest)).pushFrame (.throwing q)) X.warmed (by show T.heap[q]? = some ce; rw [hT]; exact hcell) hpass
  obtain ⟨t, a1, b1⟩ := kk (T.setVm vm') hT (X.noted hW')
  refine ⟨t, tx_steps X.here (fun Q E d acts => ?_) a1, b1⟩
  rw [W.findHandler_eq X.method' X.code, hsplit]
  exact hq Q E d acts
end TXC
