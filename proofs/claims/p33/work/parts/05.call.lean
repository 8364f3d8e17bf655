theorem goodIn_r0 {big : List Cond} (ws : List Cond) (ps : List Nat) (hp : ws = ps.filterMap (fun i => big[i]?)) : ∀ w ∈ ws, w ∈ big := fun w hw => by
  rw [hp] at hw
  obtain ⟨i, -, hi⟩ := List.mem_filterMap.mp hw
  exact List.mem_of_getElem? hi
/-! ===== one table of words for every method; contracts over typed heaps; calls ===== -/
def TB : List Cond := lw_tbl.filter goodWord
abbrev tb (w : Cond) : List Cond := w :: TB
theorem tw (i : Nat) {w : Cond} (h : tables_1[i]? = some w) (g : goodWord w = true) : w ∈ TB := List.mem_filter.mpr ⟨List.mem_append_right _ (List.mem_of_getElem? h), g⟩
theorem tv (i : Nat) {w : Cond} (h : (k2_sels lw_privs)[i]? = some w) (g : goodWord w = true) : w ∈ TB := List.mem_filter.mpr ⟨List.mem_append_left _ (List.mem_of_getElem? h), g⟩
theorem tb_c {w v : Cond} (h : w ∈ TB) : w ∈ tb v := List.mem_cons_of_mem _ h
theorem tb_g {w : Cond} (h : w ∈ TB) : (w.onTables && w.keeps) = true ∨ ∃ ty, w = .arrayClass ty := good_of_word (List.mem_filter.mp h).2
theorem tb_G {w v : Cond} (h : w ∈ TB) : GoodIn (tb v) (tb w) := fun u hu => by
  rcases List.mem_cons.mp hu with rfl | hu
  · exact ⟨tb_c h, tb_g h⟩
  · exact ⟨tb_c hu, tb_g hu⟩
theorem tb_V {w v : Cond} {own C : String} {index : Nat} {y : MethodName} (h1 : Cond.methodLink own index y ∈ TB) (h2 : Cond.instanceMethod y ∈ TB) (h3 : Cond.selects C y y ∈ TB) (h4 : Cond.initialized C ∈ TB) (h5 : w ∈ TB) : GoodIn (tb v) (wsV own index C y (tb w)) := fun u hu => by
  unfold wsV at hu
  rcases List.mem_append.mp hu with hu | hu
  · simp only [List.mem_cons, List.not_mem_nil, or_false] at hu
    rcases hu with rfl | rfl | rfl | rfl
    · exact ⟨tb_c h1, tb_g h1⟩
    · exact ⟨tb_c h2, tb_g h2⟩
    · exact ⟨tb_c h3, tb_g h3⟩
    · exact ⟨tb_c h4, tb_g h4⟩
  · exact tb_G h5 u hu
theorem tb_S {w v : Cond} {own : String} {index : Nat} {y : MethodName} (h1 : Cond.methodLink own index y ∈ TB) (h2 : Cond.static y ∈ TB) (h4 : Cond.initialized y.cls ∈ TB) (h5 : w ∈ TB) : GoodIn (tb v) (va_wsS own index y (tb w)) := fun u hu => by
  unfold va_wsS at hu
  rcases List.mem_append.mp hu with hu | hu
  · simp only [List.mem_cons, List.not_mem_nil, or_false] at hu
    rcases hu with rfl | rfl | rfl
    · exact ⟨tb_c h1, tb_g h1⟩
    · exact ⟨tb_c h2, tb_g h2⟩
    · exact ⟨tb_c h4, tb_g h4⟩
  · exact tb_G h5 u hu
/-- the links within the nest -/
def th_N (U : State) : Prop := (∀ (a : String) (i : Nat) (b n d h : String), Cond.fieldLinkNest a i b n d h ∈ lw_tbl → va_Nw (.fieldLinkNest a i b n d h) U) ∧ ∀ (a : String) (i : Nat) (x : MethodName) (h : String), Cond.methodLinkNest a i x h ∈ lw_tbl → va_Nw (.methodLinkNest a i x h) U
theorem th_N.warm {s U : State} (hW : s.WarmedH U.vm) (h : th_N s) : th_N U := ⟨fun a i b n d q hq => (h.1 a i b n d q hq).warmF hW, fun a i x q hq => (h.2 a i x q hq).warmM hW⟩
theorem th_N.same {u U : State} (hv : u.vm = U.vm) (h : th_N u) : th_N U := ⟨fun a i b n d q hq => (h.1 a i b n d q hq).same rfl hv, fun a i x q hq => (h.2 a i x q hq).same rfl hv⟩
def th_P (E : Nat → Nat) (D : va_G) (G : th_G) : State → Prop := fun U => th_I (okC E) D G [] U.heap ∧ th_N U ∧ va_K D vwCl (th_tys E) U
theorem th_blind {E : Nat → Nat} {D : va_G} {G : th_G} {av : List Value} : FrameBlind (va_Pc av (th_P E D G)) := fun a U g mk q => ⟨q.1, q.2.1, th_N.same (u := U) rfl q.2.2.1, va_K.moved (u := U) (U := U.calling g mk a) (Vm.Alike.refl U.vm) q.2.2.2⟩
theorem th_blindH {av : List Value} {H : Heap} : FrameBlind (va_Pc av (fun U => U.heap = H ∧ th_N U)) := fun a U g mk q => ⟨q.1, q.2.1, th_N.same (u := U) rfl q.2.2⟩
/-- contracts: an int, nothing, a reference or null; and those that leave the heap as it is -/
abbrev QI (E : Nat → Nat) (D : va_G) (G : th_G) (post : Int32 → Prop) : Array Value → State → Outcome → State → Prop := va_Qi (fun r (_ : Unit) => post r) (fun _ => th_P E D G) (th_A G)
abbrev QV (E : Nat → Nat) (D : va_G) (G : th_G) : Array Value → State → Outcome → State → Prop := va_Qv (fun (_ : Unit) => True) (fun _ => th_P E D G) (th_A G)
abbrev QQ (E : Nat → Nat) (D : va_G) (G : th_G) (post : Option Nat → Prop) : Array Value → State → Outcome → State → Prop := va_Qq (fun r (_ : Unit) => post r) (fun _ => th_P E D G) (th_A G)
abbrev QS (H : Heap) (post : Int32 → Prop) : Array Value → State → Outcome → State → Prop := va_Qi (fun r (_ : Unit) => post r) (fun _ t => t.heap = H) (fun _ => False)
abbrev PS (H : Heap) : State → Prop := fun U => U.heap = H ∧ th_N U
abbrev rm (d : Nat) : Room := { frames := d, cells := 0, slots := 0, locals := 40 * d }
section THC
variable {p : Program} {l : Launch} {e : Env} {R : Room} {s : State} {m : MethodId} {args : Array Value} {below : List Frame} {meth : Method} {c : Code} {H : Heap} {locs : List Loc} {cells slots : Nat} {Q : State → Prop}
variable {cc : ByteArray} {pc nL : Nat} {ls : Array Slot} {rest st0 As : List Value} {H0 : Heap} {D : va_G} {E : Nat → Nat} {G : th_G} {b : Nat} {A0 : Nat → Prop}
variable {own C host : String} {index n maxL ci d : Nat} {y : MethodName} {bytes : ByteArray} {ret : Option FieldType} {cw : Cond} {T : u_T} {N : Nat}
theorem th_cVi {post : Int32 → Prop} (F : CallFix p m c cc nL s args (tb cw) own) (hM : Met l y (tb (.code y bytes maxL ret)) (rm d) (va_Pc (.ref b :: As) (th_P E D G)) (QI E D G post) 0 0 (th_A G))
    (h1 : Cond.methodLink own index y ∈ TB) (h2 : Cond.instanceMethod y ∈ TB) (h3 : Cond.selects C y y ∈ TB) (h4 : Cond.initialized C ∈ TB) (h5 : Cond.code y bytes maxL ret ∈ TB)
    (hd : y.cls = C ∧ y.cls ≠ "java/lang/invoke/MethodHandle" ∧ y.cls ≠ "java/lang/invoke/VarHandle" ∧ (parseMethodDescriptor y.desc).map (fun d => d.parameters.length) = some n) (hR : d + 1 ≤ R.frames ∧ 8 + (maxL + 11) + 40 * d ≤ R.locals)
    (hI : th_I (okC E) D G [] H) (hN : th_N s) (hK : va_K D vwCl (th_tys E) s) (hS : va_S (th_A G) H0 H locs) (hO : ∃ fs, va_at D vwCl (b, .inr (ci, fs)) H) (hc : vwCl[ci]? = some (C, T, N))
    (hn : As.length = n) (hsize : ls.size = nL) (hst : st0 = As.reverse ++ .ref b :: rest) (hrm : (rest.map fun v => v.category).sum ≤ 8) (hdg : decode cc pc = .ok (.invokevirtual index, 3)) (hcs : cells ≤ R.cells ∧ slots ≤ R.slots)
    (kk : ∀ (r : Int32) (H1 : Heap) (locs1 : List Loc), post r → th_I (okC E) D G [] H1 → va_S (th_A G) H0 H1 locs1 → W p l e R s m args below meth c H1 locs1 cells slots Q (F0 m (pc + 3) ls (.int r :: rest))) : W p l e R s m args below meth c H locs cells slots Q (F0 m pc ls st0) := by
  obtain ⟨fs, hO⟩ := hO
  exact va_calli (va_runV (As := As) (rest := rest) F hM (cwV n F.2.2.2.2 (tb_V h1 h2 h3 h4 h5) rfl rfl rfl hd hR) ⟨th_blind, va_recv hK (th_one hO) hc (q0 := 0) rfl, fun U hU hW => ⟨rfl, by rw [hU]; exact hI, hN.warm hW, va_K.moved hW.alike hK⟩⟩ rfl hn hsize hst (lv_room hrm) hdg hcs) hS (fun q _ h => h) (fun q h => h) (fun r u t H1 locs1 ht hvm hw hB hz hk hS => kk r H1 locs1 hw (by rw [← ht]; exact hB.1) hS)
theorem th_cVv (F : CallFix p m c cc nL s args (tb cw) own) (hM : Met l y (tb (.code y bytes maxL ret)) (rm d) (va_Pc (.ref b :: As) (th_P E D G)) (QV E D G) 0 0 (th_A G))
    (h1 : Cond.methodLink own index y ∈ TB) (h2 : Cond.instanceMethod y ∈ TB) (h3 : Cond.selects C y y ∈ TB) (h4 : Cond.initialized C ∈ TB) (h5 : Cond.code y bytes maxL ret ∈ TB)
    (hd : y.cls = C ∧ y.cls ≠ "java/lang/invoke/MethodHandle" ∧ y.cls ≠ "java/lang/invoke/VarHandle" ∧ (parseMethodDescriptor y.desc).map (fun d => d.parameters.length) = some n) (hR : d + 1 ≤ R.frames ∧ 8 + (maxL + 11) + 40 * d ≤ R.locals)
    (hI : th_I (okC E) D G [] H) (hN : th_N s) (hK : va_K D vwCl (th_tys E) s) (hS : va_S (th_A G) H0 H locs) (hO : ∃ fs, va_at D vwCl (b, .inr (ci, fs)) H) (hc : vwCl[ci]? = some (C, T, N))
    (hn : As.length = n) (hsize : ls.size = nL) (hst : st0 = As.reverse ++ .ref b :: rest) (hrm : (rest.map fun v => v.category).sum ≤ 8) (hdg : decode cc pc = .ok (.invokevirtual index, 3)) (hcs : cells ≤ R.cells ∧ slots ≤ R.slots)
    (kk : ∀ (H1 : Heap) (locs1 : List Loc), th_I (okC E) D G [] H1 → va_S (th_A G) H0 H1 locs1 → W p l e R s m args below meth c H1 locs1 cells slots Q (F0 m (pc + 3) ls rest)) : W p l e R s m args below meth c H locs cells slots Q (F0 m pc ls st0) := by
  obtain ⟨fs, hO⟩ := hO
  exact va_callv (va_runV (As := As) (rest := rest) F hM (cwV n F.2.2.2.2 (tb_V h1 h2 h3 h4 h5) rfl rfl rfl hd hR) ⟨th_blind, va_recv hK (th_one hO) hc (q0 := 0) rfl, fun U hU hW => ⟨rfl, by rw [hU]; exact hI, hN.warm hW, va_K.moved hW.alike hK⟩⟩ rfl hn hsize hst (lv_room hrm) hdg hcs) hS (fun q _ h => h) (fun q h => h) (fun u t H1 locs1 ht hvm hw hB hz hk hS => kk H1 locs1 (by rw [← ht]; exact hB.1) hS)
theorem th_cVq {post : Option Nat → Prop} (F : CallFix p m c cc nL s args (tb cw) own) (hM : Met l y (tb (.code y bytes maxL ret)) (rm d) (va_Pc (.ref b :: As) (th_P E D G)) (QQ E D G post) 0 0 (th_A G))
    (h1 : Cond.methodLink own index y ∈ TB) (h2 : Cond.instanceMethod y ∈ TB) (h3 : Cond.selects C y y ∈ TB) (h4 : Cond.initialized C ∈ TB) (h5 : Cond.code y bytes maxL ret ∈ TB)
    (hd : y.cls = C ∧ y.cls ≠ "java/lang/invoke/MethodHandle" ∧ y.cls ≠ "java/lang/invoke/VarHandle" ∧ (parseMethodDescriptor y.desc).map (fun d => d.parameters.length) = some n) (hR : d + 1 ≤ R.frames ∧ 8 + (maxL + 11) + 40 * d ≤ R.locals)
    (hI : th_I (okC E) D G [] H) (hN : th_N s) (hK : va_K D vwCl (th_tys E) s) (hS : va_S (th_A G) H0 H locs) (hO : ∃ fs, va_at D vwCl (b, .inr (ci, fs)) H) (hc : vwCl[ci]? = some (C, T, N))
    (hn : As.length = n) (hsize : ls.size = nL) (hst : st0 = As.reverse ++ .ref b :: rest) (hrm : (rest.map fun v => v.category).sum ≤ 8) (hdg : decode cc pc = .ok (.invokevirtual index, 3)) (hcs : cells ≤ R.cells ∧ slots ≤ R.slots)
    (kk : ∀ (r : Option Nat) (H1 : Heap) (locs1 : List Loc), post r → th_I (okC E) D G [] H1 → va_S (th_A G) H0 H1 locs1 → W p l e R s m args below meth c H1 locs1 cells slots Q (F0 m (pc + 3) ls (va_rf r :: rest))) : W p l e R s m args below meth c H locs cells slots Q (F0 m pc ls st0) := by
  obtain ⟨fs, hO⟩ := hO
  exact va_callq (va_runV (As := As) (rest := rest) F hM (cwV n F.2.2.2.2 (tb_V h1 h2 h3 h4 h5) rfl rfl rfl hd hR) ⟨th_blind, va_recv hK (th_one hO) hc (q0 := 0) rfl, fun U hU hW => ⟨rfl, by rw [hU]; exact hI, hN.warm hW, va_K.moved hW.alike hK⟩⟩ rfl hn hsize hst (lv_room hrm) hdg hcs) hS (fun q _ h => h) (fun q h => h) (fun r u t H1 locs1 ht hvm hw hB hz hk hS => kk r H1 locs1 hw (by rw [← ht]; exact hB.1) hS)
theorem th_cSs {post : Int32 → Prop} (F : CallFix p m c cc nL s args (tb cw) own) (hM : Met l y (tb (.code y bytes maxL ret)) (rm d) (va_Pc As (PS H)) (QS H post) 0 0 (fun _ => False))
    (h1 : Cond.methodLink own index y ∈ TB) (h2 : Cond.static y ∈ TB) (h4 : Cond.initialized y.cls ∈ TB) (h5 : Cond.code y bytes maxL ret ∈ TB)
    (hd : y.cls ≠ "java/lang/invoke/MethodHandle" ∧ y.cls ≠ "java/lang/invoke/VarHandle" ∧ (parseMethodDescriptor y.desc).map (fun d => d.parameters.length) = some n) (hR : d + 1 ≤ R.frames ∧ 8 + (maxL + 11) + 40 * d ≤ R.locals)
    (hN : th_N s) (hS : va_S A0 H0 H locs)
    (hn : As.length = n) (hsize : ls.size = nL) (hst : st0 = As.reverse ++ rest) (hrm : (rest.map fun v => v.category).sum ≤ 8) (hdg : decode cc pc = .ok (.invokestatic index, 3)) (hcs : cells ≤ R.cells ∧ slots ≤ R.slots)
    (kk : ∀ (r : Int32) (locs1 : List Loc), post r → va_S A0 H0 H locs1 → W p l e R s m args below meth c H locs1 cells slots Q (F0 m (pc + 3) ls (.int r :: rest))) : W p l e R s m args below meth c H locs cells slots Q (F0 m pc ls st0) :=
  va_calli (va_runS (As := As) (rest := rest) F hM (va_cwS n F.2.2.2.2 (tb_S h1 h2 h4 h5) rfl rfl rfl hd hR) ⟨th_blindH, fun U hU hW => ⟨rfl, hU, hN.warm hW⟩⟩ rfl hn hsize hst (lv_room hrm) hdg hcs) hS (fun q _ h => h.elim) (fun q h => h.elim) (fun r u t H1 locs1 ht hvm hw hB hz hk hS1 => by
    have e : H1 = H := ht.symm.trans hB
    rw [e] at hS1 ⊢
    exact kk r locs1 hw hS1)
theorem th_cSv (F : CallFix p m c cc nL s args (tb cw) own) (hM : Met l y (tb (.code y bytes maxL ret)) (rm d) (va_Pc As (th_P E D G)) (QV E D G) 0 0 (th_A G))
    (h1 : Cond.methodLink own index y ∈ TB) (h2 : Cond.static y ∈ TB) (h4 : Cond.initialized y.cls ∈ TB) (h5 : Cond.code y bytes maxL ret ∈ TB)
    (hd : y.cls ≠ "java/lang/invoke/MethodHandle" ∧ y.cls ≠ "java/lang/invoke/VarHandle" ∧ (parseMethodDescriptor y.desc).map (fun d => d.parameters.length) = some n) (hR : d + 1 ≤ R.frames ∧ 8 + (maxL + 11) + 40 * d ≤ R.locals)
    (hI : th_I (okC E) D G [] H) (hN : th_N s) (hK : va_K D vwCl (th_tys E) s) (hS : va_S (th_A G) H0 H locs)
    (hn : As.length = n) (hsize : ls.size = nL) (hst : st0 = As.reverse ++ rest) (hrm : (rest.map fun v => v.category).sum ≤ 8) (hdg : decode cc pc = .ok (.invokestatic index, 3)) (hcs : cells ≤ R.cells ∧ slots ≤ R.slots)
    (kk : ∀ (H1 : Heap) (locs1 : List Loc), th_I (okC E) D G [] H1 → va_S (th_A G) H0 H1 locs1 → W p l e R s m args below meth c H1 locs1 cells slots Q (F0 m (pc + 3) ls rest)) : W p l e R s m args below meth c H locs cells slots Q (F0 m pc ls st0) :=
  va_callv (va_runS (As := As) (rest := rest) F hM (va_cwS n F.2.2.2.2 (tb_S h1 h2 h4 h5) rfl rfl rfl hd hR) ⟨th_blind, fun U hU hW => ⟨rfl, by rw [hU]; exact hI, hN.warm hW, va_K.moved hW.alike hK⟩⟩ rfl hn hsize hst (lv_room hrm) hdg hcs) hS (fun q _ h => h) (fun q h => h) (fun u t H1 locs1 ht hvm hw hB hz hk hS => kk H1 locs1 (by rw [← ht]; exact hB.1) hS)
theorem th_cSN {post : Int32 → Prop} (F : CallFix p m c cc nL s args (tb cw) own) (hM : Met l y (tb (.code y bytes maxL ret)) (rm d) (va_Pc As (PS H)) (QS H post) 0 0 (fun _ => False))
    (h1 : Cond.methodLinkNest own index y host ∈ lw_tbl) (h2 : Cond.static y ∈ TB) (h4 : Cond.initialized y.cls ∈ TB) (h5 : Cond.code y bytes maxL ret ∈ TB)
    (hd : y.cls ≠ "java/lang/invoke/MethodHandle" ∧ y.cls ≠ "java/lang/invoke/VarHandle" ∧ (parseMethodDescriptor y.desc).map (fun d => d.parameters.length) = some n) (hR : d + 1 ≤ R.frames ∧ 8 + (maxL + 11) + 40 * d ≤ R.locals)
    (hN : th_N s) (hS : va_S A0 H0 H locs)
    (hn : As.length = n) (hsize : ls.size = nL) (hst : st0 = As.reverse ++ rest) (hrm : (rest.map fun v => v.category).sum ≤ 8) (hdg : decode cc pc = .ok (.invokestatic index, 3)) (hcs : cells ≤ R.cells ∧ slots ≤ R.slots)
    (kk : ∀ (r : Int32) (locs1 : List Loc), post r → va_S A0 H0 H locs1 → W p l e R s m args below meth c H locs1 cells slots Q (F0 m (pc + 3) ls (.int r :: rest))) : W p l e R s m args below meth c H locs cells slots Q (F0 m pc ls st0) :=
  va_calli (va_runSN (As := As) (rest := rest) F hM ⟨va_cnB n F.2.2.2.2 (tb_G h5) rfl rfl rfl (hN.2 _ _ _ _ h1) (F.2.2.2.2 _ (tb_c h4)) hd hR, F.2.2.2.2 _ (tb_c h2), trivial⟩ ⟨th_blindH, fun U hU hW => ⟨rfl, hU, hN.warm hW⟩⟩ rfl hn hsize hst (lv_room hrm) hdg hcs) hS (fun q _ h => h.elim) (fun q h => h.elim) (fun r u t H1 locs1 ht hvm hw hB hz hk hS1 => by
    have e : H1 = H := ht.symm.trans hB
    rw [e] at hS1 ⊢
    exact kk r locs1 hw hS1)
theorem th_getN (hexec : p.tables.exec = Jvm.exec) (hb : c.code = cc) {ref : String} {Ts : List Cond} {tys : List (ClassId × FieldType)} {a : Nat} (hts : ∀ w ∈ Ts, w.before args s = true) (hin : ∀ w ∈ u_ws C T N, w ∈ Ts) (hown : s.vm.findClass own = some m.cls) (hK : va_K D vwCl tys s) (hN : th_N s) {fs : List Value} (hO : va_at D vwCl (a, .inr (ci, fs)) H) (hc : vwCl[ci]? = some (C, T, N)) (k : Nat) (hk : k < N) (hlink : Cond.fieldLinkNest own index ref (T k).2.1 (T k).2.2.1 host ∈ lw_tbl) (hsame : (T k).1 = ref) {v : Value} (hv : fs[k]? = some v) (hdg : decode cc pc = .ok (.getfield index, 3))
    (kk : W p l e R s m args below meth c H locs cells slots Q (F0 m (pc + 3) ls (v :: rest))) : W p l e R s m args below meth c H locs cells slots Q (F0 m pc ls (.ref a :: rest)) :=
  va_getN (D := D) (ci := ci) (v := v) (C := C) (T := T) (N := N) hexec hb hts hin hown hK (th_one hO) 0 rfl hc k hk ((hN.1 _ _ _ _ _ _ hlink).use rfl) (fun _ h9 => by rw [← hsame]; exact h9) hv hdg kk
theorem th_putN (hexec : p.tables.exec = Jvm.exec) (hb : c.code = cc) {ref : String} {Ts : List Cond} {tys : List (ClassId × FieldType)} {a : Nat} (hts : ∀ w ∈ Ts, w.before args s = true) (hin : ∀ w ∈ u_ws C T N, w ∈ Ts) (ty0 : Nat → FieldType) (hty : ∀ k, k < N → parseFieldDescriptor (T k).2.2.1 = some (ty0 k)) (hnm : ∀ a, a < N → ∀ b, b < N → a ≠ b → (T a).2.1 ≠ (T b).2.1) (hown : s.vm.findClass own = some m.cls) (hK : va_K D vwCl tys s) (hN : th_N s) {fs : List Value} (hO : va_at D vwCl (a, .inr (ci, fs)) H) (hS0 : va_S A0 H0 H locs) (hA : A0 a) (hc : vwCl[ci]? = some (C, T, N)) (k : Nat) (hk : k < N) (hlink0 : Cond.fieldLinkNest own index ref (T k).2.1 (T k).2.2.1 host ∈ lw_tbl) (hsame : (T k).1 = ref) (hfin : (T k).2.2.2 = false) {ty : FieldType} {v : Value} (hd : parseFieldDescriptor (T k).2.2.1 = some ty) (hn : narrow ty v = v) (hfit : fits ty v = true) (hl : k < fs.length)
    (hdg : decode cc pc = .ok (.putfield index, 3)) (kk : ∀ (H1 : Heap) (locs1 : List Loc), va_at D vwCl (a, .inr (ci, fs.set k v)) H1 → (∀ q : Nat, q ≠ a → H1[q]? = H[q]?) → va_S A0 H0 H1 locs1 → W p l e R s m args below meth c H1 locs1 cells slots Q (F0 m (pc + 3) ls rest)) : W p l e R s m args below meth c H locs cells slots Q (F0 m pc ls (v :: .ref a :: rest)) := by
  have hlink : (Cond.fieldLinkNest own index ref (T k).2.1 (T k).2.2.1 host).before args s = true := (hN.1 _ _ _ _ _ _ hlink0).use rfl
  have hap := va_apart (own := own) hts hin ty0 hty hnm hK hc
  obtain ⟨r, h1, cell, q1, q2, q3, q4⟩ := hO
  have hr : r = (C, T, N) := Option.some.inj (h1.symm.trans hc)
  subst hr
  obtain ⟨hS, hfc, kC, hkC, hkind⟩ := hK.1 ci _ hc
  obtain ⟨cf, kf, fi, f, hi, hsl⟩ := hS k hk
  have hlay := hts _ (hin _ (u_in_lay hk))
  unfold u_lay at hlay
  rw [if_neg (by rw [hfin]; decide)] at hlay
  have hst := (u_facts hfc hkC (u_lays hts hin hk) hi).1
  have h6 := u_store hfc hkC hkind hlay hi hd hn hfit
  refine va_WputK hexec hb (f := f) hown hlink (by rw [← hsame]; exact hi) hst (by rw [q2]; exact h6) q1 q3 (by rw [hsl]; exact k2_hasslot (q4 k hk)) rfl rfl hdg fun H' e1 e2 e3 => ?_
  rw [hsl] at e1 ⊢
  exact kk H' _ ⟨_, hc, t_OB.to (V := updV (vp_V fs) k v) ⟨_, e1, q2, q3, t_set q4 hap hk v⟩ (fun j _ => vp_updV_set hl v j)⟩ e3 (hS0.put e2 e3 hA)
theorem th_cViE {E' : Nat → Nat} {post : Int32 → Prop} (F : CallFix p m c cc nL s args (tb cw) own) (hM : Met l y (tb (.code y bytes maxL ret)) (rm d) (va_Pc (.ref b :: As) (th_P E D G)) (QI E' D G post) 0 0 (th_A G))
    (h1 : Cond.methodLink own index y ∈ TB) (h2 : Cond.instanceMethod y ∈ TB) (h3 : Cond.selects C y y ∈ TB) (h4 : Cond.initialized C ∈ TB) (h5 : Cond.code y bytes maxL ret ∈ TB)
    (hd : y.cls = C ∧ y.cls ≠ "java/lang/invoke/MethodHandle" ∧ y.cls ≠ "java/lang/invoke/VarHandle" ∧ (parseMethodDescriptor y.desc).map (fun d => d.parameters.length) = some n) (hR : d + 1 ≤ R.frames ∧ 8 + (maxL + 11) + 40 * d ≤ R.locals)
    (hI : th_I (okC E) D G [] H) (hN : th_N s) (hK : va_K D vwCl (th_tys E) s) (hKE : va_K D vwCl (th_tys E') s) (hS : va_S (th_A G) H0 H locs) (hO : ∃ fs, va_at D vwCl (b, .inr (ci, fs)) H) (hc : vwCl[ci]? = some (C, T, N))
    (hn : As.length = n) (hsize : ls.size = nL) (hst : st0 = As.reverse ++ .ref b :: rest) (hrm : (rest.map fun v => v.category).sum ≤ 8) (hdg : decode cc pc = .ok (.invokevirtual index, 3)) (hcs : cells ≤ R.cells ∧ slots ≤ R.slots)
    (kk : ∀ (r : Int32) (H1 : Heap) (locs1 : List Loc) (E2 : Nat → Nat), E2 = E' → post r → th_I (okC E2) D G [] H1 → va_K D vwCl (th_tys E2) s → va_S (th_A G) H0 H1 locs1 → W p l e R s m args below meth c H1 locs1 cells slots Q (F0 m (pc + 3) ls (.int r :: rest))) : W p l e R s m args below meth c H locs cells slots Q (F0 m pc ls st0) := by
  obtain ⟨fs, hO⟩ := hO
  exact va_calli (va_runV (As := As) (rest := rest) F hM (cwV n F.2.2.2.2 (tb_V h1 h2 h3 h4 h5) rfl rfl rfl hd hR) ⟨th_blind, va_recv hK (th_one hO) hc (q0 := 0) rfl, fun U hU hW => ⟨rfl, by rw [hU]; exact hI, hN.warm hW, va_K.moved hW.alike hK⟩⟩ rfl hn hsize hst (lv_room hrm) hdg hcs) hS (fun q _ h => h) (fun q h => h) (fun r u t H1 locs1 ht hvm hw hB hz hk hS => kk r H1 locs1 _ rfl hw (by rw [← ht]; exact hB.1) hKE hS)
theorem th_cVvE {E' : Nat → Nat} (F : CallFix p m c cc nL s args (tb cw) own) (hM : Met l y (tb (.code y bytes maxL ret)) (rm d) (va_Pc (.ref b :: As) (th_P E D G)) (QV E' D G) 0 0 (th_A G))
    (h1 : Cond.methodLink own index y ∈ TB) (h2 : Cond.instanceMethod y ∈ TB) (h3 : Cond.selects C y y ∈ TB) (h4 : Cond.initialized C ∈ TB) (h5 : Cond.code y bytes maxL ret ∈ TB)
    (hd : y.cls = C ∧ y.cls ≠ "java/lang/invoke/MethodHandle" ∧ y.cls ≠ "java/lang/invoke/VarHandle" ∧ (parseMethodDescriptor y.desc).map (fun d => d.parameters.length) = some n) (hR : d + 1 ≤ R.frames ∧ 8 + (maxL + 11) + 40 * d ≤ R.locals)
    (hI : th_I (okC E) D G [] H) (hN : th_N s) (hK : va_K D vwCl (th_tys E) s) (hKE : va_K D vwCl (th_tys E') s) (hS : va_S (th_A G) H0 H locs) (hO : ∃ fs, va_at D vwCl (b, .inr (ci, fs)) H) (hc : vwCl[ci]? = some (C, T, N))
    (hn : As.length = n) (hsize : ls.size = nL) (hst : st0 = As.reverse ++ .ref b :: rest) (hrm : (rest.map fun v => v.category).sum ≤ 8) (hdg : decode cc pc = .ok (.invokevirtual index, 3)) (hcs : cells ≤ R.cells ∧ slots ≤ R.slots)
    (kk : ∀ (H1 : Heap) (locs1 : List Loc) (E2 : Nat → Nat), E2 = E' → th_I (okC E2) D G [] H1 → va_K D vwCl (th_tys E2) s → va_S (th_A G) H0 H1 locs1 → W p l e R s m args below meth c H1 locs1 cells slots Q (F0 m (pc + 3) ls rest)) : W p l e R s m args below meth c H locs cells slots Q (F0 m pc ls st0) := by
  obtain ⟨fs, hO⟩ := hO
  exact va_callv (va_runV (As := As) (rest := rest) F hM (cwV n F.2.2.2.2 (tb_V h1 h2 h3 h4 h5) rfl rfl rfl hd hR) ⟨th_blind, va_recv hK (th_one hO) hc (q0 := 0) rfl, fun U hU hW => ⟨rfl, by rw [hU]; exact hI, hN.warm hW, va_K.moved hW.alike hK⟩⟩ rfl hn hsize hst (lv_room hrm) hdg hcs) hS (fun q _ h => h) (fun q h => h) (fun u t H1 locs1 ht hvm hw hB hz hk hS => kk H1 locs1 _ rfl (by rw [← ht]; exact hB.1) hKE hS)
end THC
abbrev PK (E : Nat → Nat) (D : va_G) (H : Heap) : State → Prop := fun U => U.heap = H ∧ th_N U ∧ va_K D vwCl (th_tys E) U
theorem th_blindK {E : Nat → Nat} {D : va_G} {av : List Value} {H : Heap} : FrameBlind (va_Pc av (PK E D H)) := fun a U g mk q => ⟨q.1, q.2.1, th_N.same (u := U) rfl q.2.2.1, va_K.moved (u := U) (U := U.calling g mk a) (Vm.Alike.refl U.vm) q.2.2.2⟩
theorem th_cVs {p : Program} {l : Launch} {e : Env} {R : Room} {s : State} {m : MethodId} {args : Array Value} {below : List Frame} {meth : Method} {c : Code} {H : Heap} {locs : List Loc} {cells slots : Nat} {Q : State → Prop} {cc : ByteArray} {pc nL : Nat} {ls : Array Slot} {rest st0 As : List Value} {H0 : Heap} {D : va_G} {E : Nat → Nat} {b : Nat} {A0 : Nat → Prop} {own C : String} {index n maxL ci d : Nat} {y : MethodName} {bytes : ByteArray} {ret : Option FieldType} {cw : Cond} {T : u_T} {N : Nat}
    {post : Int32 → Prop} (F : CallFix p m c cc nL s args (tb cw) own) (hM : Met l y (tb (.code y bytes maxL ret)) (rm d) (va_Pc (.ref b :: As) (PK E D H)) (QS H post) 0 0 (fun _ => False))
    (h1 : Cond.methodLink own index y ∈ TB) (h2 : Cond.instanceMethod y ∈ TB) (h3 : Cond.selects C y y ∈ TB) (h4 : Cond.initialized C ∈ TB) (h5 : Cond.code y bytes maxL ret ∈ TB)
    (hd : y.cls = C ∧ y.cls ≠ "java/lang/invoke/MethodHandle" ∧ y.cls ≠ "java/lang/invoke/VarHandle" ∧ (parseMethodDescriptor y.desc).map (fun d => d.parameters.length) = some n) (hR : d + 1 ≤ R.frames ∧ 8 + (maxL + 11) + 40 * d ≤ R.locals)
    (hN : th_N s) (hK : va_K D vwCl (th_tys E) s) (hS : va_S A0 H0 H locs) (hO : ∃ fs, va_at D vwCl (b, .inr (ci, fs)) H) (hc : vwCl[ci]? = some (C, T, N))
    (hn : As.length = n) (hsize : ls.size = nL) (hst : st0 = As.reverse ++ .ref b :: rest) (hrm : (rest.map fun v => v.category).sum ≤ 8) (hdg : decode cc pc = .ok (.invokevirtual index, 3)) (hcs : cells ≤ R.cells ∧ slots ≤ R.slots)
    (kk : ∀ (r : Int32) (locs1 : List Loc), post r → va_S A0 H0 H locs1 → W p l e R s m args below meth c H locs1 cells slots Q (F0 m (pc + 3) ls (.int r :: rest))) : W p l e R s m args below meth c H locs cells slots Q (F0 m pc ls st0) := by
  obtain ⟨fs, hO⟩ := hO
  exact va_calli (va_runV (As := As) (rest := rest) F hM (cwV n F.2.2.2.2 (tb_V h1 h2 h3 h4 h5) rfl rfl rfl hd hR) ⟨th_blindK, va_recv hK (th_one hO) hc (q0 := 0) rfl, fun U hU hW => ⟨rfl, hU, hN.warm hW, va_K.moved hW.alike hK⟩⟩ rfl hn hsize hst (lv_room hrm) hdg hcs) hS (fun q _ h => h.elim) (fun q h => h.elim) (fun r u t H1 locs1 ht hvm hw hB hz hk hS1 => by
    have e : H1 = H := ht.symm.trans hB
    rw [e] at hS1 ⊢
    exact kk r locs1 hw hS1)
theorem th_zn {v : Int32} (h : v.toInt = 0 ∨ v.toInt = 1) : narrow .boolean (.int v) = .int v := by
  rcases h with h | h
  · have e : v = 0 := Int32.toInt_inj.mp (by rw [h]; decide)
    subst e; decide
  · have e : v = 1 := Int32.toInt_inj.mp (by rw [h]; decide)
    subst e; decide
theorem th_zf {v : Int32} (h : v.toInt = 0 ∨ v.toInt = 1) : fits .boolean (.int v) = true := by
  rcases h with h | h
  · have e : v = 0 := Int32.toInt_inj.mp (by rw [h]; decide)
    subst e; decide
  · have e : v = 1 := Int32.toInt_inj.mp (by rw [h]; decide)
    subst e; decide
theorem inT0 {v : Cond} : ∀ w ∈ u_ws RX0 TX0 3, w ∈ tb v := fun w h => tb_c (List.mem_filter.mpr ⟨List.mem_append_right _ ((goodIn_r0 _ [181, 183, 185] (by decide +kernel)) w h), (List.all_eq_true.mp (show (u_ws RX0 TX0 3).all goodWord = true by decide +kernel)) w h⟩)
theorem inT1 {v : Cond} : ∀ w ∈ u_ws RX1 TX1 11, w ∈ tb v := fun w h => tb_c (List.mem_filter.mpr ⟨List.mem_append_right _ ((goodIn_r0 _ [247, 249, 251, 253, 255, 257, 259, 261, 263, 265, 267] (by decide +kernel)) w h), (List.all_eq_true.mp (show (u_ws RX1 TX1 11).all goodWord = true by decide +kernel)) w h⟩)
theorem inT2 {v : Cond} : ∀ w ∈ u_ws RX2 TX2 4, w ∈ tb v := fun w h => tb_c (List.mem_filter.mpr ⟨List.mem_append_right _ ((goodIn_r0 _ [775, 777, 779, 781] (by decide +kernel)) w h), (List.all_eq_true.mp (show (u_ws RX2 TX2 4).all goodWord = true by decide +kernel)) w h⟩)
theorem inT3 {v : Cond} : ∀ w ∈ u_ws RX3 TX3 12, w ∈ tb v := fun w h => tb_c (List.mem_filter.mpr ⟨List.mem_append_right _ ((goodIn_r0 _ [141, 143, 145, 147, 149, 151, 153, 155, 157, 159, 161, 163] (by decide +kernel)) w h), (List.all_eq_true.mp (show (u_ws RX3 TX3 12).all goodWord = true by decide +kernel)) w h⟩)
theorem inT4 {v : Cond} : ∀ w ∈ u_ws RX4 TX4 3, w ∈ tb v := fun w h => tb_c (List.mem_filter.mpr ⟨List.mem_append_right _ ((goodIn_r0 _ [48, 50, 52] (by decide +kernel)) w h), (List.all_eq_true.mp (show (u_ws RX4 TX4 3).all goodWord = true by decide +kernel)) w h⟩)
theorem inT5 {v : Cond} : ∀ w ∈ u_ws RX5 TX5 6, w ∈ tb v := fun w h => tb_c (List.mem_filter.mpr ⟨List.mem_append_right _ ((goodIn_r0 _ [282, 284, 286, 288, 290, 292] (by decide +kernel)) w h), (List.all_eq_true.mp (show (u_ws RX5 TX5 6).all goodWord = true by decide +kernel)) w h⟩)
theorem inT6 {v : Cond} : ∀ w ∈ u_ws RX6 TX6 14, w ∈ tb v := fun w h => tb_c (List.mem_filter.mpr ⟨List.mem_append_right _ ((goodIn_r0 _ [93, 95, 97, 99, 101, 103, 105, 107, 109, 111, 113, 115, 117, 119] (by decide +kernel)) w h), (List.all_eq_true.mp (show (u_ws RX6 TX6 14).all goodWord = true by decide +kernel)) w h⟩)
theorem inT7 {v : Cond} : ∀ w ∈ u_ws RX7 TX7 7, w ∈ tb v := fun w h => tb_c (List.mem_filter.mpr ⟨List.mem_append_right _ ((goodIn_r0 _ [196, 198, 200, 202, 204, 206, 208] (by decide +kernel)) w h), (List.all_eq_true.mp (show (u_ws RX7 TX7 7).all goodWord = true by decide +kernel)) w h⟩)
theorem inT8 {v : Cond} : ∀ w ∈ u_ws RX8 TX8 6, w ∈ tb v := fun w h => tb_c (List.mem_filter.mpr ⟨List.mem_append_right _ ((goodIn_r0 _ [307, 309, 311, 313, 315, 317] (by decide +kernel)) w h), (List.all_eq_true.mp (show (u_ws RX8 TX8 6).all goodWord = true by decide +kernel)) w h⟩)
theorem inT9 {v : Cond} : ∀ w ∈ u_ws RX9 TX9 4, w ∈ tb v := fun w h => tb_c (List.mem_filter.mpr ⟨List.mem_append_right _ ((goodIn_r0 _ [221, 223, 225, 227] (by decide +kernel)) w h), (List.all_eq_true.mp (show (u_ws RX9 TX9 4).all goodWord = true by decide +kernel)) w h⟩)
theorem inT10 {v : Cond} : ∀ w ∈ u_ws RX10 TX10 6, w ∈ tb v := fun w h => tb_c (List.mem_filter.mpr ⟨List.mem_append_right _ ((goodIn_r0 _ [332, 334, 336, 338, 340, 342] (by decide +kernel)) w h), (List.all_eq_true.mp (show (u_ws RX10 TX10 6).all goodWord = true by decide +kernel)) w h⟩)
theorem inT11 {v : Cond} : ∀ w ∈ u_ws RX11 TX11 17, w ∈ tb v := fun w h => tb_c (List.mem_filter.mpr ⟨List.mem_append_right _ ((goodIn_r0 _ [362, 364, 366, 368, 370, 372, 374, 376, 378, 380, 382, 384, 386, 388, 390, 392, 394] (by decide +kernel)) w h), (List.all_eq_true.mp (show (u_ws RX11 TX11 17).all goodWord = true by decide +kernel)) w h⟩)
theorem inT12 {v : Cond} : ∀ w ∈ u_ws RX12 TX12 52, w ∈ tb v := fun w h => tb_c (List.mem_filter.mpr ⟨List.mem_append_right _ ((goodIn_r0 _ [1285, 1287, 1289, 1291, 1293, 1295, 1297, 1299, 1301, 1303, 1305, 1307, 1309, 1311, 1313, 1315, 1317, 1319, 1321, 1323, 1325, 1327, 1329, 1331, 1333, 1335, 1337, 1339, 1341, 1343, 1345, 1347, 1349, 1351, 1353, 1355, 1357, 1359, 1361, 1363, 1365, 1367, 1369, 1371, 1373, 1375, 1377, 1379, 1381, 1383, 1385, 1387] (by decide +kernel)) w h), (List.all_eq_true.mp (show (u_ws RX12 TX12 52).all goodWord = true by decide +kernel)) w h⟩)
