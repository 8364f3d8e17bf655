
/-! THE CLAIM OUT OF ONE WALK OF THE LAW'S BODY. Your part is whole_start (and what it stands on); all else here is the same for every law, but numbers. -/
def R_law : String := "NineRiverLaw"
def lw_P (b : Addr) (xs : List Int32) (args : Array Value) (s : State) : Prop := args = #[.ref b] ∧ s.IntsAt b xs ∧ xs.length ≤ 3584 ∧ (Jvm.Cond.and given_1 narrow_1).before args s = true
def lw_Q (_ : Array Value) (s : State) (o : Outcome) (t : State) : Prop := o = .returned (some (.int 1)) ∧ Framed s o t [] 600000 7302250
def lw_Z (below : List Frame) (a : Array Value) (s : State) : State → Prop := fun t => ∃ o, t.status = .running ∧ Ended t below o ∧ lw_Q a s o t
/-- the law's own end, with 1 on the stack, nothing written that was there before, its room as the claim has it -/
theorem lw_ret {p : Program} {l : Launch} {e : Env} {s : State} {m : MethodId} {below : List Frame} {meth : Method} {c : Code} {b : Nat} (hx : p.tables.exec = Jvm.exec) (hb : c.code = code) (hr : meth.sig.returnType = ret) (hlocks : meth.locks = false) {pc : Nat} {H : Heap} {ls : Array Slot} (hdg : decode code pc = .ok (.ireturn, 1)) : W p l e room_1 s m #[Value.ref b] below meth c H [] 600000 7302250 (lw_Z below #[Value.ref b] s) (F0 m pc ls [.int 1]) := by
  intro T hT X
  obtain ⟨fs, hret, hrun, hended, hW, hframe⟩ := X.leave (v := some (.int 1)) (hlocks := hlocks) (fun h => by rw [hr] at h; cases h)
  have hmeth' : T.vm.method? m = some meth := X.method'
  refine ⟨T.setFrames fs, ?_, .returned (some (.int 1)), hrun, hended, rfl, ⟨_, rfl⟩, hW, hframe⟩
  jvm_step X.here [X.here.top, hx, hb, hdg, hmeth', hr, ret, narrow_b1]
  (try refine ⟨rfl, ?_⟩); (try refine ⟨rfl, ?_⟩)
  first | (intro acts; rw [hret _ acts rfl rfl rfl]) | rw [hret _ _ rfl rfl rfl]
  exact Steps.refl _
/-- what holds at the law's entry: the machine, the code, the tables' words (any of lw_tbl by 'hts w (by decide +kernel)'), the script of L ints xs at the cell b, what the Statement gives of the start (any of its parts by flat_of_before) -/
def lw_At (p : Program) (s : State) (m : MethodId) (meth : Method) (c : Code) (b L : Nat) (xs : Nat → Int32) : Prop :=
  p.tables.exec = Jvm.exec ∧ c.code = code ∧ meth.sig.returnType = ret ∧ c.maxLocals = 4 ∧ s.vm.findClass R_law = some m.cls ∧ (∀ w ∈ lw_tbl, w.before #[Value.ref b] s = true) ∧ va_X b L xs s s.heap ∧ b < s.heap.size ∧ meth.locks = false ∧ (Jvm.Cond.and given_1 narrow_1).before #[Value.ref b] s = true
def LCx (E : Nat → Nat) (D : va_G) (adK adV : Nat → Nat) (s : State) : Prop := th_N s ∧ va_K D vwCl (th_tys E) s ∧ WS adK adV (LWa s) s s.heap ∧ th_CL E s ∧ th_AO s
theorem LCx_eq {E E' : Nat → Nat} {D : va_G} {adK adV : Nat → Nat} {s : State} (h : ∀ j : Nat, j < 6 → E' j = E j) (X : LCx E D adK adV s) : LCx E' D adK adV s := by
  obtain ⟨a, b, c, d, e⟩ := X
  exact ⟨a, by rw [tys_eq h]; exact b, c, ⟨d.1, by rw [h 0 (by decide)]; exact d.2⟩, e⟩
theorem TI_eq {E E' : Nat → Nat} {Gc : th_G} {xa nn sz : Nat} (hE : ∀ k : Nat, k < 32 + 8 * sz → E' k = E k) (hsz : ∀ (q : Nat) (k : th_K), Gc q = some k → q < sz) (h : TI E Gc xa nn) : TI E' Gc xa nn := by
  obtain ⟨sa, t, a1, a2, a3, a4, a5, a6, a7, j0, j1, d⟩ := h
  have b4 := hsz _ _ a4
  have b5 := hsz _ _ a5
  have b6 := hsz _ _ a6
  have b7 := hsz _ _ a7
  have hj : ∀ j, j < 2 → TJ E Gc sa t nn j → TJ E' Gc sa t nn j := fun j hj z => by
    rcases z with ⟨z1, z2⟩ | ⟨b1, z, u, b2, b3, b4, b5, b6, b7, b8⟩
    · exact Or.inl ⟨by rw [hE _ (by omega)]; exact z1, by rw [hE _ (by omega)]; exact z2⟩
    · have := hsz _ _ b5
      have := hsz _ _ b6
      exact Or.inr ⟨by rw [hE _ (by omega)]; exact b1, z, u, by rw [hE _ (by omega)]; exact b2, by rw [hE _ (by omega)]; exact b3, by rw [hE _ (by omega), hE _ (by omega)]; exact b4, b5, b6, b7, b8⟩
  refine ⟨sa, t, by rw [hE _ (by omega)]; exact a1, by rw [hE _ (by omega)]; exact a2, by rw [hE _ (by omega), hE _ (by omega)]; exact a3, a4, a5, a6, a7, hj 0 (by omega) j0, hj 1 (by omega) j1, fun z z' u u' h1 h2 h3 h4 => ?_⟩
  rw [hE _ (by omega)] at h1 h2
  have nz : ∀ (j z : Nat), TJ E Gc sa t nn j → E (32 + j + 8 * nn) = z + 1 → z < sz := fun j z hz h9 => by
    rcases hz with ⟨q1, _⟩ | ⟨_, y, _, q1, _, _, q2, _⟩
    · omega
    · have : y = z := by omega
      rw [← this]
      exact hsz _ _ q2
  have m1 := nz 0 z j0 h1
  have m2 := nz 1 z' j1 h2
  rw [hE _ (by omega)] at h3 h4
  exact d z z' u u' h1 h2 h3 h4
theorem ea_norm {E : Nat → Nat} {D : va_G} {adK adV : Nat → Nat} {s : State} {xa ma nn : Nat} {Gc Gm : th_G} {H : Heap} {locs : List Loc} (X : LCx E D adK adV s) (hW : LWs E D s xa ma Gc Gm nn H locs) (hT : TI E Gc xa nn) : ∃ E' : Nat → Nat, (∀ k : Nat, 32 + 8 * H.size ≤ k → E' k = 0) ∧ LCx E' D adK adV s ∧ LWs E' D s xa ma Gc Gm nn H locs ∧ TI E' Gc xa nn := by
  obtain ⟨E', h1, h2⟩ : ∃ E' : Nat → Nat, (∀ k : Nat, k < 32 + 8 * H.size → E' k = E k) ∧ ∀ k : Nat, 32 + 8 * H.size ≤ k → E' k = 0 := ⟨fun k => if k < 32 + 8 * H.size then E k else 0, fun k h => if_pos h, fun k h => if_neg (by omega)⟩
  have hsz : ∀ (q : Nat) (k : th_K), Gc q = some k → q < H.size := fun q k h => th_lt hW.1 h
  exact ⟨E', h2, LCx_eq (fun j hj => h1 j (by omega)) X, ⟨th_eq (fun j hj => h1 j (by omega)) (fun a j hj ⟨k, hk⟩ _ => h1 _ (by have := hsz _ _ hk; omega)) hW.1, hW.2.1, tm_eq (fun j hj => h1 j (by omega)) hW.2.2.1, hW.2.2.2⟩, TI_eq h1 hsz hT⟩
theorem lw_tb {w : Cond} (hw : w ∈ TB) {args : Array Value} {s : State} (h : ∀ w ∈ lw_tbl, w.before args s = true) : ∀ v ∈ tb w, v.before args s = true := fun v hv => by
  rcases List.mem_cons.mp hv with rfl | hv
  · exact h _ (List.mem_filter.mp hw).1
  · exact h _ (List.mem_filter.mp hv).1
theorem lw_nA {E : Nat → Nat} {D : va_G} {s : State} {xa ma : Nat} {Gc Gm : th_G} {n : Nat} {H : Heap} {locs : List Loc} (h : LWs E D s xa ma Gc Gm n H locs) : ∀ q, nA Gc H.size q → LWa s q := fun q z => by
  rcases z with ⟨k', z⟩ | z
  · exact h.2.2.2.2.1 q k' z
  · exact Nat.le_trans h.2.2.2.2.2.2.2.1 z
theorem lw_prim {args : Array Value} {s : State} {ty : FieldType} (h : (Cond.arrayClass ty).before args s = true) : ∃ cA, ArrOfT s cA ty ∧ s.vm.findClass ("[" ++ ty.toString) = some cA := by
  obtain ⟨cA, kA, comp, h1, h2, h3⟩ := Cond.arrayClass_spec h
  exact ⟨cA, fun n z => ⟨fun k h => (by cases h), kA, h2, comp, h3⟩, h1⟩
theorem lw_obj {args : Array Value} {s : State} {C : String} (h : (Cond.arrayOver (.object C)).before args s = true) : ∃ cA, ArrOfT s cA (.object C) ∧ va_RA s cA (.object C) := by
  obtain ⟨comp, cA, kA, h1, -, h2, h3, h4⟩ := Cond.arrayOver_spec h
  exact ⟨cA, fun n z => ⟨fun k h => (by cases h), kA, h2, comp, h3⟩, kA, comp, h2, h3, h1, h4⟩

