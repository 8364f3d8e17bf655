/-! ===== the reader alone under a narrower typing: what is called from clause() leaves the number of clauses below 12 ===== -/
def G7 (G : th_G) (a m : Nat) : th_G := fun q => if q = a then some (7, m) else match G q with
  | some (0, n) => some (0, n)
  | _ => none
section G7S
variable {E : Nat → Nat} {D : va_G} {G : th_G} {H H1 : Heap} {a m n : Nat}
theorem G7_a : G7 G a m a = some (7, m) := by simp [G7]
theorem G7_in {q k : Nat} (h : G q = some (0, k)) (ha : G a = some (7, n)) : G7 G a m q = some (0, k) := by
  have hne : q ≠ a := fun z => by subst z; rw [h] at ha; cases ha
  simp [G7, hne, h]
theorem G7_out {q : Nat} {k : th_K} (h : G7 G a m q = some k) : (q = a ∧ k = (7, m)) ∨ (q ≠ a ∧ ∃ j, k = (0, j) ∧ G q = some (0, j)) := by
  by_cases hq : q = a
  · subst hq
    rw [G7_a] at h
    exact Or.inl ⟨rfl, (Option.some.inj h).symm⟩
  · refine Or.inr ⟨hq, ?_⟩
    unfold G7 at h
    rw [if_neg hq] at h
    split at h
    · rename_i j hj
      exact ⟨j, (Option.some.inj h).symm, hj⟩
    · cases h
theorem G7_sub (ha : G a = some (7, n)) : ∀ q, th_A (G7 G a m) q → th_A G q := fun q ⟨k, hk⟩ => by
  rcases G7_out hk with ⟨rfl, -⟩ | ⟨-, j, -, h⟩
  · exact ⟨_, ha⟩
  · exact ⟨_, h⟩
theorem th_G7 {q0 q1 q2 q3 q4 q5 : Nat} {z6 z7 z8 z9 z10 z11 : Int32} (hI : th_I (okC E) D G [a] H) (ha : G a = some (7, n)) (hO : va_at D vwCl (a, .inr (3, [.ref q0, .ref q1, .ref q2, .ref q3, .ref q4, .ref q5, .int z6, .int z7, .int z8, .int z9, .int z10, .int z11])) H)
    (c0 : G q0 = some (0, 12)) (c1 : G q1 = some (0, 25)) (c2 : G q2 = some (0, 400)) (c3 : G q3 = some (0, 401)) (c4 : G q4 = some (0, 401)) (c5 : G q5 = some (0, 401)) (c6 : (0 : Int) ≤ z6.toInt ∧ z6.toInt ≤ 401) (c7 : (0 : Int) ≤ z7.toInt ∧ z7.toInt ≤ (11 : Nat)) (c8 : (0 : Int) ≤ z9.toInt ∧ z9.toInt ≤ 400) : th_I (okC E) D (G7 G a 11) [] H := fun b k hb _ => by
  rcases G7_out hb with ⟨rfl, rfl⟩ | ⟨hne, j, rfl, h⟩
  · exact ⟨_, hO, ok_7 (G7_in c0 ha) (G7_in c1 ha) (G7_in c2 ha) (G7_in c3 ha) (G7_in c4 ha) (G7_in c5 ha) c6 c7 c8 (by decide)⟩
  · obtain ⟨f, h1⟩ := op_0 hI h (fun z => hne (List.mem_singleton.mp z))
    exact ⟨_, h1, ok_0⟩
theorem th_G7b (hI : th_I (okC E) D G [a] H) (hk : ∀ q : Nat, q < H.size → ¬ th_A (G7 G a m) q → H1[q]? = H[q]?) (hI1 : th_I (okC E) D (G7 G a m) [] H1) (ha : G a = some (7, n)) : th_I (okC E) D G [a] H1 := fun b k hb hx => by
  have hne : b ≠ a := fun z => hx (List.mem_singleton.mpr z)
  obtain ⟨e, h1, h2⟩ := hI b k hb hx
  by_cases hA : th_A (G7 G a m) b
  · obtain ⟨k', hk'⟩ := hA
    rcases G7_out hk' with ⟨z, -⟩ | ⟨-, j, rfl, h⟩
    · exact absurd z hne
    · cases hb.symm.trans h
      obtain ⟨f, h3⟩ := op_0 hI1 hk' List.not_mem_nil
      exact ⟨_, h3, ok_0⟩
  · exact ⟨e, h1.kept (hk b h1.lt hA), h2⟩
def c7_at (E : Nat → Nat) (D : va_G) (G : th_G) (a : Nat) (H : Heap) : Prop := ∃ (q0 q1 q2 q3 q4 q5 : Nat) (z6 z7 z8 z9 z10 z11 : Int32), va_at D vwCl (a, .inr (3, [.ref q0, .ref q1, .ref q2, .ref q3, .ref q4, .ref q5, .int z6, .int z7, .int z8, .int z9, .int z10, .int z11])) H ∧ G q0 = some (0, 12) ∧ G q1 = some (0, 25) ∧ G q2 = some (0, 400) ∧ G q3 = some (0, 401) ∧ G q4 = some (0, 401) ∧ G q5 = some (0, 401) ∧ ((0 : Int) ≤ z6.toInt ∧ z6.toInt ≤ 401) ∧ ((0 : Int) ≤ z7.toInt ∧ z7.toInt ≤ (11 : Nat)) ∧ ((0 : Int) ≤ z9.toInt ∧ z9.toInt ≤ 400)
theorem G7_back {q k : Nat} (h : G7 G a m q = some (0, k)) : G q = some (0, k) := by
  rcases G7_out h with ⟨-, z⟩ | ⟨-, j, z, h⟩
  · cases z
  · cases z; exact h
theorem c7_of (hI : th_I (okC E) D (G7 G a 11) [] H) : c7_at E D G a H := by
  obtain ⟨q0, q1, q2, q3, q4, q5, z6, z7, z8, z9, z10, z11, h, c0, c1, c2, c3, c4, c5, c6, c7, c8, -⟩ := op_7 hI G7_a List.not_mem_nil
  exact ⟨q0, q1, q2, q3, q4, q5, z6, z7, z8, z9, z10, z11, h, G7_back c0, G7_back c1, G7_back c2, G7_back c3, G7_back c4, G7_back c5, c6, c7, c8⟩
end G7S
section THC7
variable {p : Program} {l : Launch} {e : Env} {R : Room} {s : State} {m : MethodId} {args : Array Value} {below : List Frame} {meth : Method} {c : Code} {H : Heap} {locs : List Loc} {cells slots : Nat} {Q : State → Prop}
variable {cc : ByteArray} {pc nL : Nat} {ls : Array Slot} {rest st0 As : List Value} {H0 : Heap} {D : va_G} {E : Nat → Nat} {G : th_G} {b nn : Nat}
variable {own : String} {index n maxL d : Nat} {y : MethodName} {bytes : ByteArray} {ret : Option FieldType} {cw : Cond}
theorem th_c7i {post : Int32 → Prop} (F : CallFix p m c cc nL s args (tb cw) own) (hM : Met l y (tb (.code y bytes maxL ret)) (rm d) (va_Pc (.ref b :: As) (th_P E D (G7 G b 11))) (QI E D (G7 G b 11) post) 0 0 (th_A (G7 G b 11)))
    (h1 : Cond.methodLink own index y ∈ TB) (h2 : Cond.instanceMethod y ∈ TB) (h3 : Cond.selects RX3 y y ∈ TB) (h4 : Cond.initialized RX3 ∈ TB) (h5 : Cond.code y bytes maxL ret ∈ TB)
    (hd : y.cls = RX3 ∧ y.cls ≠ "java/lang/invoke/MethodHandle" ∧ y.cls ≠ "java/lang/invoke/VarHandle" ∧ (parseMethodDescriptor y.desc).map (fun d => d.parameters.length) = some n) (hR : d + 1 ≤ R.frames ∧ 8 + (maxL + 11) + 40 * d ≤ R.locals)
    (hI : th_I (okC E) D G [b] H) (hI7 : th_I (okC E) D (G7 G b 11) [] H) (hb : G b = some (7, nn)) (hN : th_N s) (hK : va_K D vwCl (th_tys E) s) (hS : va_S (th_A G) H0 H locs)
    (hn : As.length = n) (hsize : ls.size = nL) (hst : st0 = As.reverse ++ .ref b :: rest) (hrm : (rest.map fun v => v.category).sum ≤ 8) (hdg : decode cc pc = .ok (.invokevirtual index, 3)) (hcs : cells ≤ R.cells ∧ slots ≤ R.slots)
    (kk : ∀ (r : Int32) (H1 : Heap) (locs1 : List Loc), post r → th_I (okC E) D G [b] H1 → c7_at E D G b H1 → va_S (th_A G) H0 H1 locs1 → W p l e R s m args below meth c H1 locs1 cells slots Q (F0 m (pc + 3) ls (.int r :: rest))) : W p l e R s m args below meth c H locs cells slots Q (F0 m pc ls st0) := by
  obtain ⟨fs, hO⟩ := rc_7 hI7 G7_a List.not_mem_nil
  exact va_calli (va_runV (As := As) (rest := rest) F hM (cwV n F.2.2.2.2 (tb_V h1 h2 h3 h4 h5) rfl rfl rfl hd hR) ⟨th_blind, va_recv hK (th_one hO) (ci := 3) rfl (q0 := 0) rfl, fun U hU hW => ⟨rfl, by rw [hU]; exact hI7, hN.warm hW, va_K.moved hW.alike hK⟩⟩ rfl hn hsize hst (lv_room hrm) hdg hcs) hS (fun q _ h => G7_sub hb q h) (fun q h => G7_sub hb q h) (fun r u t H1 locs1 ht hvm hw hB hz hk hS => by
    have h7 : th_I (okC E) D (G7 G b 11) [] H1 := by rw [← ht]; exact hB.1
    exact kk r H1 locs1 hw (th_G7b hI hk h7 hb) (c7_of h7) hS)
theorem th_c7v (F : CallFix p m c cc nL s args (tb cw) own) (hM : Met l y (tb (.code y bytes maxL ret)) (rm d) (va_Pc (.ref b :: As) (th_P E D (G7 G b 11))) (QV E D (G7 G b 11)) 0 0 (th_A (G7 G b 11)))
    (h1 : Cond.methodLink own index y ∈ TB) (h2 : Cond.instanceMethod y ∈ TB) (h3 : Cond.selects RX3 y y ∈ TB) (h4 : Cond.initialized RX3 ∈ TB) (h5 : Cond.code y bytes maxL ret ∈ TB)
    (hd : y.cls = RX3 ∧ y.cls ≠ "java/lang/invoke/MethodHandle" ∧ y.cls ≠ "java/lang/invoke/VarHandle" ∧ (parseMethodDescriptor y.desc).map (fun d => d.parameters.length) = some n) (hR : d + 1 ≤ R.frames ∧ 8 + (maxL + 11) + 40 * d ≤ R.locals)
    (hI : th_I (okC E) D G [b] H) (hI7 : th_I (okC E) D (G7 G b 11) [] H) (hb : G b = some (7, nn)) (hN : th_N s) (hK : va_K D vwCl (th_tys E) s) (hS : va_S (th_A G) H0 H locs)
    (hn : As.length = n) (hsize : ls.size = nL) (hst : st0 = As.reverse ++ .ref b :: rest) (hrm : (rest.map fun v => v.category).sum ≤ 8) (hdg : decode cc pc = .ok (.invokevirtual index, 3)) (hcs : cells ≤ R.cells ∧ slots ≤ R.slots)
    (kk : ∀ (H1 : Heap) (locs1 : List Loc), th_I (okC E) D G [b] H1 → c7_at E D G b H1 → va_S (th_A G) H0 H1 locs1 → W p l e R s m args below meth c H1 locs1 cells slots Q (F0 m (pc + 3) ls rest)) : W p l e R s m args below meth c H locs cells slots Q (F0 m pc ls st0) := by
  obtain ⟨fs, hO⟩ := rc_7 hI7 G7_a List.not_mem_nil
  exact va_callv (va_runV (As := As) (rest := rest) F hM (cwV n F.2.2.2.2 (tb_V h1 h2 h3 h4 h5) rfl rfl rfl hd hR) ⟨th_blind, va_recv hK (th_one hO) (ci := 3) rfl (q0 := 0) rfl, fun U hU hW => ⟨rfl, by rw [hU]; exact hI7, hN.warm hW, va_K.moved hW.alike hK⟩⟩ rfl hn hsize hst (lv_room hrm) hdg hcs) hS (fun q _ h => G7_sub hb q h) (fun q h => G7_sub hb q h) (fun u t H1 locs1 ht hvm hw hB hz hk hS => by
    have h7 : th_I (okC E) D (G7 G b 11) [] H1 := by rw [← ht]; exact hB.1
    exact kk H1 locs1 (th_G7b hI hk h7 hb) (c7_of h7) hS)
end THC7
