section THX
variable {p : Program} {l : Launch} {e : Env} {R : Room} {s : State} {m : MethodId} {args : Array Value} {below : List Frame} {meth : Method} {c : Code} {H : Heap} {locs : List Loc} {cells slots : Nat} {Q : State → Prop}
variable {cc : ByteArray} {pc nL : Nat} {ls : Array Slot} {rest st0 As : List Value} {H0 : Heap} {D : va_G} {E : Nat → Nat} {G : th_G} {b : Nat} {A0 : Nat → Prop}
variable {own C host : String} {index n maxL ci d : Nat} {y : MethodName} {bytes : ByteArray} {ret : Option FieldType} {cw : Cond} {T : u_T} {N : Nat}
theorem th_xVi {post : Int32 → Prop} (F : CallFix p m c cc nL s args (tb cw) own) (hM : Met l y (tb (.code y bytes maxL ret)) (rm d) (va_Pc (.ref b :: As) (th_P E D G)) (QI E D G post) 0 0 (th_A G))
    (h1 : Cond.methodLink own index y ∈ TB) (h2 : Cond.instanceMethod y ∈ TB) (h3 : Cond.selects C y y ∈ TB) (h4 : Cond.initialized C ∈ TB) (h5 : Cond.code y bytes maxL ret ∈ TB)
    (hd : y.cls = C ∧ y.cls ≠ "java/lang/invoke/MethodHandle" ∧ y.cls ≠ "java/lang/invoke/VarHandle" ∧ (parseMethodDescriptor y.desc).map (fun d => d.parameters.length) = some n) (hR : d + 1 ≤ R.frames ∧ 8 + (maxL + 11) + 40 * d ≤ R.locals)
    (hI : th_I (okC E) D G [] H) (hN : th_N s) (hK : va_K D vwCl (th_tys E) s) (hS : va_S A0 H0 H locs) (hAG : ∀ (r : Nat) (k' : th_K), G r = some k' → A0 r) (hO : ∃ fs, va_at D vwCl (b, .inr (ci, fs)) H) (hc : vwCl[ci]? = some (C, T, N))
    (hn : As.length = n) (hsize : ls.size = nL) (hst : st0 = As.reverse ++ .ref b :: rest) (hrm : (rest.map fun v => v.category).sum ≤ 8) (hdg : decode cc pc = .ok (.invokevirtual index, 3)) (hcs : cells ≤ R.cells ∧ slots ≤ R.slots)
    (kk : ∀ (r : Int32) (H1 : Heap) (locs1 : List Loc), post r → th_I (okC E) D G [] H1 → va_S A0 H0 H1 locs1 → W p l e R s m args below meth c H1 locs1 cells slots Q (F0 m (pc + 3) ls (.int r :: rest))) : W p l e R s m args below meth c H locs cells slots Q (F0 m pc ls st0) := by
  obtain ⟨fs, hO⟩ := hO
  exact va_calli (va_runV (As := As) (rest := rest) F hM (cwV n F.2.2.2.2 (tb_V h1 h2 h3 h4 h5) rfl rfl rfl hd hR) ⟨th_blind, va_recv hK (th_one hO) hc (q0 := 0) rfl, fun U hU hW => ⟨rfl, by rw [hU]; exact hI, hN.warm hW, va_K.moved hW.alike hK⟩⟩ rfl hn hsize hst (lv_room hrm) hdg hcs) hS (fun q _ h => by obtain ⟨k', h⟩ := h; exact hAG q k' h) (fun q h => by obtain ⟨k', h⟩ := h; exact hAG q k' h) (fun r u t H1 locs1 ht hvm hw hB hz hk hS => kk r H1 locs1 hw (by rw [← ht]; exact hB.1) hS)
theorem th_xVv (F : CallFix p m c cc nL s args (tb cw) own) (hM : Met l y (tb (.code y bytes maxL ret)) (rm d) (va_Pc (.ref b :: As) (th_P E D G)) (QV E D G) 0 0 (th_A G))
    (h1 : Cond.methodLink own index y ∈ TB) (h2 : Cond.instanceMethod y ∈ TB) (h3 : Cond.selects C y y ∈ TB) (h4 : Cond.initialized C ∈ TB) (h5 : Cond.code y bytes maxL ret ∈ TB)
    (hd : y.cls = C ∧ y.cls ≠ "java/lang/invoke/MethodHandle" ∧ y.cls ≠ "java/lang/invoke/VarHandle" ∧ (parseMethodDescriptor y.desc).map (fun d => d.parameters.length) = some n) (hR : d + 1 ≤ R.frames ∧ 8 + (maxL + 11) + 40 * d ≤ R.locals)
    (hI : th_I (okC E) D G [] H) (hN : th_N s) (hK : va_K D vwCl (th_tys E) s) (hS : va_S A0 H0 H locs) (hAG : ∀ (r : Nat) (k' : th_K), G r = some k' → A0 r) (hO : ∃ fs, va_at D vwCl (b, .inr (ci, fs)) H) (hc : vwCl[ci]? = some (C, T, N))
    (hn : As.length = n) (hsize : ls.size = nL) (hst : st0 = As.reverse ++ .ref b :: rest) (hrm : (rest.map fun v => v.category).sum ≤ 8) (hdg : decode cc pc = .ok (.invokevirtual index, 3)) (hcs : cells ≤ R.cells ∧ slots ≤ R.slots)
    (kk : ∀ (H1 : Heap) (locs1 : List Loc), th_I (okC E) D G [] H1 → va_S A0 H0 H1 locs1 → W p l e R s m args below meth c H1 locs1 cells slots Q (F0 m (pc + 3) ls rest)) : W p l e R s m args below meth c H locs cells slots Q (F0 m pc ls st0) := by
  obtain ⟨fs, hO⟩ := hO
  exact va_callv (va_runV (As := As) (rest := rest) F hM (cwV n F.2.2.2.2 (tb_V h1 h2 h3 h4 h5) rfl rfl rfl hd hR) ⟨th_blind, va_recv hK (th_one hO) hc (q0 := 0) rfl, fun U hU hW => ⟨rfl, by rw [hU]; exact hI, hN.warm hW, va_K.moved hW.alike hK⟩⟩ rfl hn hsize hst (lv_room hrm) hdg hcs) hS (fun q _ h => by obtain ⟨k', h⟩ := h; exact hAG q k' h) (fun q h => by obtain ⟨k', h⟩ := h; exact hAG q k' h) (fun u t H1 locs1 ht hvm hw hB hz hk hS => kk H1 locs1 (by rw [← ht]; exact hB.1) hS)
theorem th_xVvE {E' : Nat → Nat} (F : CallFix p m c cc nL s args (tb cw) own) (hM : Met l y (tb (.code y bytes maxL ret)) (rm d) (va_Pc (.ref b :: As) (th_P E D G)) (QV E' D G) 0 0 (th_A G))
    (h1 : Cond.methodLink own index y ∈ TB) (h2 : Cond.instanceMethod y ∈ TB) (h3 : Cond.selects C y y ∈ TB) (h4 : Cond.initialized C ∈ TB) (h5 : Cond.code y bytes maxL ret ∈ TB)
    (hd : y.cls = C ∧ y.cls ≠ "java/lang/invoke/MethodHandle" ∧ y.cls ≠ "java/lang/invoke/VarHandle" ∧ (parseMethodDescriptor y.desc).map (fun d => d.parameters.length) = some n) (hR : d + 1 ≤ R.frames ∧ 8 + (maxL + 11) + 40 * d ≤ R.locals)
    (hI : th_I (okC E) D G [] H) (hN : th_N s) (hK : va_K D vwCl (th_tys E) s) (hKE : va_K D vwCl (th_tys E') s) (hS : va_S A0 H0 H locs) (hAG : ∀ (r : Nat) (k' : th_K), G r = some k' → A0 r) (hO : ∃ fs, va_at D vwCl (b, .inr (ci, fs)) H) (hc : vwCl[ci]? = some (C, T, N))
    (hn : As.length = n) (hsize : ls.size = nL) (hst : st0 = As.reverse ++ .ref b :: rest) (hrm : (rest.map fun v => v.category).sum ≤ 8) (hdg : decode cc pc = .ok (.invokevirtual index, 3)) (hcs : cells ≤ R.cells ∧ slots ≤ R.slots)
    (kk : ∀ (H1 : Heap) (locs1 : List Loc) (E2 : Nat → Nat), E2 = E' → th_I (okC E2) D G [] H1 → va_K D vwCl (th_tys E2) s → va_S A0 H0 H1 locs1 → W p l e R s m args below meth c H1 locs1 cells slots Q (F0 m (pc + 3) ls rest)) : W p l e R s m args below meth c H locs cells slots Q (F0 m pc ls st0) := by
  obtain ⟨fs, hO⟩ := hO
  exact va_callv (va_runV (As := As) (rest := rest) F hM (cwV n F.2.2.2.2 (tb_V h1 h2 h3 h4 h5) rfl rfl rfl hd hR) ⟨th_blind, va_recv hK (th_one hO) hc (q0 := 0) rfl, fun U hU hW => ⟨rfl, by rw [hU]; exact hI, hN.warm hW, va_K.moved hW.alike hK⟩⟩ rfl hn hsize hst (lv_room hrm) hdg hcs) hS (fun q _ h => by obtain ⟨k', h⟩ := h; exact hAG q k' h) (fun q h => by obtain ⟨k', h⟩ := h; exact hAG q k' h) (fun u t H1 locs1 ht hvm hw hB hz hk hS => kk H1 locs1 _ rfl (by rw [← ht]; exact hB.1) hKE hS)
end THX
def nA (G : th_G) (sz : Nat) : Nat → Prop := fun q => th_A G q ∨ sz ≤ q
abbrev QMI (E : Nat → Nat) (D : va_G) (Gi : th_G) (sz : Nat) (post : Int32 → Prop) : Array Value → State → Outcome → State → Prop := va_Qi (fun (r : Int32) (G' : th_G) => post r ∧ gle Gi G' ∧ ∀ (r : Nat) (k' : th_K), G' r = some k' → Gi r = some k' ∨ sz ≤ r) (fun G' => th_P E D G') (nA Gi sz)
theorem nA_new {Gi G : th_G} {sz : Nat} (hAG : ∀ (r : Nat) (k' : th_K), G r = some k' → nA Gi sz r) (hle : gle Gi G) {r : Nat} {k' : th_K} (h : G r = some k') : Gi r = some k' ∨ sz ≤ r := by
  rcases hAG r k' h with ⟨k2, h2⟩ | h2
  · cases (hle r k2 h2).symm.trans h
    exact Or.inl h2
  · exact Or.inr h2
/-! ===== what the ghosts tell ===== -/
section EAQ
variable {E : Nat → Nat} {D : va_G} {G : th_G} {H : Heap} {h0 n sa t z v : Nat} {g : Nat → Option Nat}
theorem ea_ne {a b t1 t2 m1 m2 : Nat} (ha : G a = some (t1, m1)) (hb : G b = some (t2, m2)) (h : t1 ≠ t2) : a ≠ b := fun z => by
  rw [z, hb] at ha
  cases ha
  exact h rfl
theorem ea_sa (hI : th_I (okC E) D G [] H) (hG0 : G h0 = some (15, n)) (e1 : E (32 + 8 * h0) = sa + 1) : G sa = some (6, 0) ∧ G n = some (3, 2) := by
  obtain ⟨q0, q2, q3, q4, q5, q6, q7, q8, q9, q10, q11, z12, z13, z14, z15, z16, hO, c0, c1, c2, c3, c4, c5, c6, c7, c8, c9, c10, c11, c12, kc⟩ := op_15 hI hG0 List.not_mem_nil
  obtain rfl := eaU_q kc e1
  exact ⟨c0, c1⟩
theorem ea_st (hI : th_I (okC E) D G [] H) (hs : G sa = some (6, 0)) (e2 : E (32 + 8 * sa) = t + 1) : G t = some (4, 42) ∧ sa < t := by
  obtain ⟨q0, q1, q2, q3, q4, q5, q6, q7, q8, q9, z10, z11, z12, z13, hO, c0, c1, c2, c3, c4, c5, c6, c7, c8, c9, c10, kc⟩ := op_6 hI hs List.not_mem_nil
  obtain rfl := eaU_q kc.1 e2
  exact ⟨c6, kc.2⟩
theorem ea_im0 (hI : th_I (okC E) D G [] H) (hn : G n = some (3, 2)) (e : E (32 + 8 * n) = z + 1) : G z = some (6, 0) := by
  obtain ⟨g, h, hg, hi0, hi1⟩ := op_3 hI hn List.not_mem_nil
  exact hg 0 _ (by decide) (hi0.trans (im_rs e))
theorem ea_im1 (hI : th_I (okC E) D G [] H) (hn : G n = some (3, 2)) (e : E (33 + 8 * n) = z + 1) : G z = some (6, 0) := by
  obtain ⟨g, h, hg, hi0, hi1⟩ := op_3 hI hn List.not_mem_nil
  exact hg 1 _ (by decide) (hi1.trans (im_rs e))
theorem ea_learn (hI : th_I (okC E) D G [] H) (hs : G sa = some (6, 0)) : ∃ g : Nat, G g = some (4, 42) ∧ sa < g ∧ th_I (okC (eu E (32 + 8 * sa) (g + 1))) D G [] H := by
  obtain ⟨q0, q1, q2, q3, q4, q5, q6, q7, q8, q9, z10, z11, z12, z13, hO, c0, c1, c2, c3, c4, c5, c6, c7, c8, c9, c10, kc⟩ := op_6 hI hs List.not_mem_nil
  exact ⟨q6, c6, kc.2, ea_close (th_I.weak (a := sa) hI) hs hO ⟨by omega, by omega⟩ (ok_6 c0 c1 c2 c3 c4 c5 c6 c7 c8 c9 c10 ⟨Or.inr (by rw [eu_at]), kc.2⟩)⟩
theorem ea_state (hI : th_I (okC E) D G [] H) (hG0 : G h0 = some (15, n)) : ∃ q : Nat, G q = some (6, 0) ∧ th_I (okC (eu E (32 + 8 * h0) (q + 1))) D G [] H := by
  obtain ⟨q0, q2, q3, q4, q5, q6, q7, q8, q9, q10, q11, z12, z13, z14, z15, z16, hO, c0, c1, c2, c3, c4, c5, c6, c7, c8, c9, c10, c11, c12, kc⟩ := op_15 hI hG0 List.not_mem_nil
  exact ⟨q0, c0, ea_close (th_I.weak (a := h0) hI) hG0 hO ⟨by omega, by omega⟩ (ok_15 c0 c1 c2 c3 c4 c5 c6 c7 c8 c9 c10 c11 c12 (Or.inr (by rw [eu_at])))⟩
theorem ea_k30 (hg : ∀ (j q : Nat), j < 2 → g j = some q → G q = some (6, 0)) (hi1 : g 1 = im_r (E (33 + 8 * n))) (hv : G v = some (6, 0)) : okC (eu E (32 + 8 * n) (v + 1)) G n (3, 2) (.inl (E 5, 2, .inr (.inr (.inr (.inr (va_up g 0 (some v))))))) := by
  have h := ok_3 (E := eu E (32 + 8 * n) (v + 1)) (G := G) (a := n) (n := 2) (g := va_up g 0 (some v)) (th_upS (P := fun q => G q = some (6, 0)) hg hv) ⟨by rw [eu_at, im_rs rfl]; simp [va_up], by rw [eu_ne (by omega), ← hi1]; simp [va_up]⟩
  rw [eu_ne (show 5 ≠ 32 + 8 * n by omega)] at h
  exact h
theorem ea_k31 (hg : ∀ (j q : Nat), j < 2 → g j = some q → G q = some (6, 0)) (hi0 : g 0 = im_r (E (32 + 8 * n))) (hv : G v = some (6, 0)) : okC (eu E (33 + 8 * n) (v + 1)) G n (3, 2) (.inl (E 5, 2, .inr (.inr (.inr (.inr (va_up g 1 (some v))))))) := by
  have h := ok_3 (E := eu E (33 + 8 * n) (v + 1)) (G := G) (a := n) (n := 2) (g := va_up g 1 (some v)) (th_upS (P := fun q => G q = some (6, 0)) hg hv) ⟨by rw [eu_ne (by omega), ← hi0]; simp [va_up], by rw [eu_at, im_rs rfl]; simp [va_up]⟩
  rw [eu_ne (show 5 ≠ 33 + 8 * n by omega)] at h
  exact h
def IMQ (G' : th_G) (E E' : Nat → Nat) (sz n t : Nat) (x : Int32) : Prop := (¬ rg x 0 1 ∧ E' = E) ∨ ∃ j z u : Nat, j < 2 ∧ x.toInt = (j : Int) ∧ E' (32 + j + 8 * n) = z + 1 ∧ E' (32 + 8 * z) = u + 1 ∧ E' (32 + 8 * u) = E (32 + 8 * t) ∧ G' z = some (6, 0) ∧ G' u = some (4, 42) ∧ (∀ k : Nat, k ≠ 32 + j + 8 * n → k ≠ 32 + 8 * z → k ≠ 32 + 8 * u → E' k = E k) ∧ ((E (32 + j + 8 * n) = z + 1 ∧ E (32 + 8 * z) = u + 1) ∨ (E (32 + j + 8 * n) = 0 ∧ sz ≤ z ∧ sz ≤ u))
theorem IMQ_new {sz j q g : Nat} {x : Int32} (hj : j < 2) (hx : x.toInt = (j : Int)) (hz : E (32 + j + 8 * n) = 0) (hq : G q = some (6, 0)) (hg : G g = some (4, 42)) (hsq : sz ≤ q) (hqg : q < g) (hn : n < sz) (ht : t < sz) (htn : t ≠ n) : IMQ G E (eu (eu (eu E (32 + j + 8 * n) (q + 1)) (32 + 8 * q) (g + 1)) (32 + 8 * g) (eu (eu E (32 + j + 8 * n) (q + 1)) (32 + 8 * q) (g + 1) (32 + 8 * t))) sz n t x :=
  Or.inr ⟨j, q, g, hj, hx, by rw [eu_ne (by omega), eu_ne (by omega), eu_at], by rw [eu_ne (by omega), eu_at], by rw [eu_at, eu_ne (by omega), eu_ne (by omega)], hq, hg, fun k k1 k2 k3 => by rw [eu_ne k3, eu_ne k2, eu_ne k1], Or.inr ⟨hz, hsq, by omega⟩⟩
theorem IMQ_old {sz j u : Nat} {x : Int32} (hj : j < 2) (hx : x.toInt = (j : Int)) (hz : E (32 + j + 8 * n) = z + 1) (hu : E (32 + 8 * z) = u + 1) (hGz : G z = some (6, 0)) (hGu : G u = some (4, 42)) (hzu : z ≠ u) (hnu : n ≠ u) : IMQ G E (eu E (32 + 8 * u) (E (32 + 8 * t))) sz n t x :=
  Or.inr ⟨j, z, u, hj, hx, by rw [eu_ne (by omega)]; exact hz, by rw [eu_ne (by omega)]; exact hu, eu_at, hGz, hGu, fun k _ _ k3 => eu_ne k3, Or.inl ⟨hz, hu⟩⟩
end EAQ
abbrev QME (E : Nat → Nat) (D : va_G) (Gi : th_G) (sz n t : Nat) (x : Int32) (post : Int32 → Prop) : Array Value → State → Outcome → State → Prop := va_Qi (fun (r : Int32) (U : th_G × (Nat → Nat)) => post r ∧ gle Gi U.1 ∧ (∀ (r : Nat) (k' : th_K), U.1 r = some k' → Gi r = some k' ∨ sz ≤ r) ∧ IMQ U.1 E U.2 sz n t x) (fun U => th_P U.2 D U.1) (nA Gi sz)
