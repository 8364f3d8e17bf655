section THX
variable {p : Program} {l : Launch} {e : Env} {R : Room} {s : State} {m : MethodId} {args : Array Value} {below : List Frame} {meth : Method} {c : Code} {H : Heap} {locs : List Loc} {cells slots : Nat} {Q : State → Prop}
variable {cc : ByteArray} {pc nL : Nat} {ls : Array Slot} {rest st0 As : List Value} {H0 : Heap} {D : va_G} {E : Nat → ClassId} {G : th_G} {b : Nat} {A0 : Nat → Prop}
variable {own C host : String} {index n maxL ci d : Nat} {y : MethodName} {bytes : ByteArray} {ret : Option FieldType} {cw : Cond} {T : u_T} {N : Nat}
theorem th_xVi {post : Int32 → Prop} (F : CallFix p m c cc nL s args (tb cw) own) (hM : Met l y (tb (.code y bytes maxL ret)) (rm d) (va_Pc (.ref b :: As) (th_P E D G)) (QI E D G post) 0 0 (th_A G))
    (h1 : Cond.methodLink own index y ∈ TB) (h2 : Cond.instanceMethod y ∈ TB) (h3 : Cond.selects C y y ∈ TB) (h4 : Cond.initialized C ∈ TB) (h5 : Cond.code y bytes maxL ret ∈ TB)
    (hd : y.cls = C ∧ y.cls ≠ "java/lang/invoke/MethodHandle" ∧ y.cls ≠ "java/lang/invoke/VarHandle" ∧ (parseMethodDescriptor y.desc).map (fun d => d.parameters.length) = some n) (hR : d + 1 ≤ R.frames ∧ 8 + (maxL + 11) + 40 * d ≤ R.locals)
    (hI : th_I (okC E) D G [] H) (hN : th_N s) (hK : va_K D vwCl (th_tys E) s) (hS : va_S A0 H0 H locs) (hAG : ∀ (r : Nat) (k' : th_K), G r = some k' → A0 r) (hO : ∃ fs, va_at D vwCl (b, .inr (ci, fs)) H) (hc : vwCl[ci]? = some (C, T, N))
    (hn : As.length = n) (hsize : ls.size = nL) (hst : st0 = As.reverse ++ .ref b :: rest) (hrm : (rest.map fun v => v.category).sum ≤ 8) (hdg : decode cc pc = .ok (.invokevirtual index, 3)) (hcs : cells ≤ R.cells ∧ slots ≤ R.slots)
    (kk : ∀ (r : Int32) (H1 : Heap) (locs1 : List Loc), post r → th_I (okC E) D G [] H1 → va_S A0 H0 H1 locs1 → W p l e R s m args below meth c H1 locs1 cells slots Q (F0 m (pc + 3) ls (.int r :: rest))) : W p l e R s m args below meth c H locs cells slots Q (F0 m pc ls st0) := by
  obtain ⟨fs, hO⟩ := hO
  exact va_calli (va_runV (As := As) (rest := rest) F hM (cwV n F.2.2.2.2 (tb_V h1 h2 h3 h4 h5) rfl rfl rfl hd hR) ⟨th_blind, va_recv hK (th_one hO) hc (q0 := 0) rfl, fun U hU hW => ⟨rfl, by rw [hU]; exact hI, hN.warm hW, va_K.moved hW.alike hK⟩⟩ rfl hn hsize hst (lv_room hrm) hdg hcs) hS (fun q _ h => by obtain ⟨k', h⟩ := h; exact hAG q k' h) (fun q h => by obtain ⟨k', h⟩ := h; exact hAG q k' h) (fun r u t H1 locs1 ht hvm hw hB hz hk hS => kk r H1 locs1 hw (by rw [← ht]; exact hB.1) hS)
theorem th_xVv (F : CallFix p m c cc nL s args (tb cw) own) (hM : Met l y (tb (.code y bytes maxL ret)) (rm d) (va_Pc (.ref b :: As) (th_P E D G)) (QV E D G) 0 0 (th_A G))
    (h1 : Cond.methodLink own index y ∈ TB) (h2 : Cond.instanceMethod y ∈ TB) (h3 : Cond.selects C y y ∈ TB) (h4 : Cond.initialized C ∈ TB) (h5 : Cond.code y bytes maxL ret ∈ TB)
    (hd : y.cls = C ∧ y.cls ≠ "java/lang/invoke/MethodHandle" ∧ y.cls ≠ "java/lang/invoke/VarHandle" ∧ (parseMethodDescriptor y.desc).map (fun d => d.parameters.length) = some n) (hR : d + 1 ≤ R.frames ∧ 8 + (maxL + 11) + 40 * d ≤ R.locals)
    (hI : th_I (okC E) D G [] H) (hN : th_N s) (hK : va_K D vwCl (th_tys E) s) (hS : va_S A0 H0 H locs) (hAG : ∀ (r : Nat) (k' : th_K), G r = some k' → A0 r) (hO : ∃ fs, va_at D vwCl (b, .inr (ci, fs)) H) (hc : vwCl[ci]? = some (C, T, N))
    (hn : As.length = n) (hsize : ls.size = nL) (hst : st0 = As.reverse ++ .ref b :: rest) (hrm : (rest.map fun v => v.category).sum ≤ 8) (hdg : decode cc pc = .ok (.invokevirtual index, 3)) (hcs : cells ≤ R.cells ∧ slots ≤ R.slots)
    (kk : ∀ (H1 : Heap) (locs1 : List Loc), th_I (okC E) D G [] H1 → va_S A0 H0 H1 locs1 → W p l e R s m args below meth c H1 locs1 cells slots Q (F0 m (pc + 3) ls rest)) : W p l e R s m args below meth c H locs cells slots Q (F0 m pc ls st0) := by
  obtain ⟨fs, hO⟩ := hO
  exact va_callv (va_runV (As := As) (rest := rest) F hM (cwV n F.2.2.2.2 (tb_V h1 h2 h3 h4 h5) rfl rfl rfl hd hR) ⟨th_blind, va_recv hK (th_one hO) hc (q0 := 0) rfl, fun U hU hW => ⟨rfl, by rw [hU]; exact hI, hN.warm hW, va_K.moved hW.alike hK⟩⟩ rfl hn hsize hst (lv_room hrm) hdg hcs) hS (fun q _ h => by obtain ⟨k', h⟩ := h; exact hAG q k' h) (fun q h => by obtain ⟨k', h⟩ := h; exact hAG q k' h) (fun u t H1 locs1 ht hvm hw hB hz hk hS => kk H1 locs1 (by rw [← ht]; exact hB.1) hS)
end THX
def nA (G : th_G) (sz : Nat) : Nat → Prop := fun q => th_A G q ∨ sz ≤ q
abbrev QMI (E : Nat → ClassId) (D : va_G) (Gi : th_G) (sz : Nat) (post : Int32 → Prop) : Array Value → State → Outcome → State → Prop := va_Qi (fun (r : Int32) (G' : th_G) => post r ∧ gle Gi G' ∧ ∀ (r : Nat) (k' : th_K), G' r = some k' → Gi r = some k' ∨ sz ≤ r) (fun G' => th_P E D G') (nA Gi sz)
theorem nA_new {Gi G : th_G} {sz : Nat} (hAG : ∀ (r : Nat) (k' : th_K), G r = some k' → nA Gi sz r) (hle : gle Gi G) {r : Nat} {k' : th_K} (h : G r = some k') : Gi r = some k' ∨ sz ≤ r := by
  rcases hAG r k' h with ⟨k2, h2⟩ | h2
  · cases (hle r k2 h2).symm.trans h
    exact Or.inl h2
  · exact Or.inr h2
theorem nA_gu {G : th_G} {a sz : Nat} {k k0 : th_K} (h : G a = some k0) : nA (gu G a k) sz = nA G sz := by
  unfold nA
  rw [gu_A h]
