/-! ===== the ghost: a field that a call keeps ===== -/
def gu (G : th_G) (a : Nat) (k : th_K) : th_G := fun q => if q = a then some k else G q
theorem gu_at {G : th_G} {a : Nat} {k : th_K} : gu G a k a = some k := if_pos rfl
theorem gu_ne {G : th_G} {a q : Nat} {k : th_K} (h : q ≠ a) : gu G a k q = G q := if_neg h
theorem gu_A {G : th_G} {a : Nat} {k k0 : th_K} (h : G a = some k0) : th_A (gu G a k) = th_A G := by
  funext q
  refine propext ⟨fun z => ?_, fun z => ?_⟩
  · obtain ⟨k', z⟩ := z
    by_cases e : q = a
    · rw [e]; exact ⟨_, h⟩
    · rw [gu_ne e] at z; exact ⟨_, z⟩
  · obtain ⟨k', z⟩ := z
    by_cases e : q = a
    · rw [e]; exact ⟨_, gu_at⟩
    · exact ⟨k', by rw [gu_ne e]; exact z⟩
theorem gu_gu {G : th_G} {a : Nat} {k k0 : th_K} (h : G a = some k0) : gu (gu G a k) a k0 = G := by
  funext q
  by_cases e : q = a
  · rw [e, gu_at, h]
  · rw [gu_ne e, gu_ne e]
theorem mfs_ne : ∀ x ∈ mfs, (match x with | .inl kd => decide (kd.1 ≠ 10) | .inr _ => true) = true := by decide
theorem mOk_gu {G : th_G} {M n0 n1 : Nat} {fs : List Value} (hM : G M = some (10, n0)) (h : mOk G fs) : mOk (gu G M (10, n1)) fs := by
  refine ⟨h.1, fun j hj => ?_⟩
  obtain ⟨v, h1, h2⟩ := h.2 j hj
  refine ⟨v, h1, ?_⟩
  cases hm : mfs[j]? with
  | none => rw [hm] at h2; exact h2
  | some x =>
    rw [hm] at h2
    cases x with
    | inr r => exact h2
    | inl kd =>
      obtain ⟨q, e1, e2⟩ := h2
      have hne : kd.1 ≠ 10 := of_decide_eq_true (mfs_ne _ (List.mem_of_getElem? hm))
      refine ⟨q, e1, ?_⟩
      rw [gu_ne (fun e => by rw [e, hM] at e2; cases e2; exact hne rfl)]
      exact e2
theorem okM_gu {E : Nat → ClassId} {G : th_G} {M n0 n1 : Nat} {k : th_K} {e : va_E} (hM : G M = some (10, n0)) (h : okM E G k e) : okM E (gu G M (10, n1)) k e := by
  obtain ⟨P, hP, h⟩ := h
  refine ⟨P, hP, ?_⟩
  have hm : P ∈ m_all := List.mem_of_getElem? hP
  simp only [m_all, List.mem_cons, List.not_mem_nil, or_false] at hm
  rcases hm with rfl | rfl | rfl | rfl | rfl | rfl | rfl | rfl | rfl | rfl | rfl
  · exact h
  · exact h
  · exact h
  · exact h
  · exact h
  · exact h
  · exact h
  · exact h
  · exact h
  · exact h
  · obtain ⟨fs, h1, h2, h3⟩ := h
    exact ⟨fs, h1, mOk_gu hM h2, h3⟩
theorem nI_nn {z : Int32} (hz : 0 ≤ z.toInt) : nI z.toInt.toNat = z := Int32.toInt_inj.mp (by have := iv_hi z; rw [nI_toInt (by omega)]; omega)
theorem gu_in {E : Nat → ClassId} {D : va_G} {G : th_G} {H : Heap} {M n0 : Nat} {z : Int32} (hI : th_I (okM E) D G [] H) (hM : G M = some (10, n0)) (hz : 0 ≤ z.toInt) (hg : gf D M 51 z H) : th_I (okM E) D (gu G M (10, z.toInt.toNat + 1)) [] H := fun b k hb hx => by
  by_cases e : b = M
  · subst e
    cases gu_at.symm.trans hb
    obtain ⟨fs, hO, hok⟩ := om_10 hI hM List.not_mem_nil
    obtain ⟨fs', h1, h2⟩ := hg
    obtain ⟨v, hv, -⟩ := hok.2 51 (by decide)
    have ev := m_same hO h1 (by decide) hv h2
    exact ⟨_, hO, ok_m10 (mOk_gu hM hok) (fun t et => by rw [hv, ev, show t = z.toInt.toNat by omega, nI_nn hz])⟩
  · rw [gu_ne e] at hb
    obtain ⟨e', h1, h2⟩ := hI b k hb hx
    exact ⟨e', h1, okM_gu hM h2⟩
theorem gu_out {E : Nat → ClassId} {D : va_G} {G : th_G} {H : Heap} {M : Nat} {z : Int32} (hI : th_I (okM E) D (gu G M (10, z.toInt.toNat + 1)) [] H) (hM : G M = some (10, 0)) (hz : 0 ≤ z.toInt) : th_I (okM E) D G [] H ∧ gf D M 51 z H := by
  have hE : gu (gu G M (10, z.toInt.toNat + 1)) M (10, 0) = G := gu_gu hM
  refine ⟨fun b k hb hx => ?_, ?_⟩
  · by_cases e : b = M
    · subst e
      cases hM.symm.trans hb
      obtain ⟨fs, hO, hok⟩ := om_10 hI gu_at List.not_mem_nil
      refine ⟨_, hO, ok_m10 ?_ (fun t et => by omega)⟩
      rw [← hE]
      exact mOk_gu gu_at hok
    · obtain ⟨e', h1, h2⟩ := hI b k (by rw [gu_ne e]; exact hb) hx
      refine ⟨e', h1, ?_⟩
      rw [← hE]
      exact okM_gu gu_at h2
  · obtain ⟨fs, hO, -, hgh⟩ := om_10g hI gu_at List.not_mem_nil
    exact ⟨fs, hO, by rw [hgh _ rfl, nI_nn hz]⟩
section GU
variable {p : Program} {l : Launch} {e : Env} {R : Room} {s : State} {m : MethodId} {args : Array Value} {below : List Frame} {meth : Method} {c : Code} {H : Heap} {locs : List Loc} {cells slots : Nat} {Q : State → Prop}
variable {cc : ByteArray} {pc nL : Nat} {ls : Array Slot} {rest st0 As : List Value} {H0 : Heap} {D : va_G} {E : Nat → ClassId} {G : th_G} {b : Nat}
variable {own : String} {index n maxL d : Nat} {y : MethodName} {bytes : ByteArray} {ret : Option FieldType} {cw : Cond} {X : Heap → Prop} {z : Int32}
theorem mx_iF {Y : Int32 → Heap → Prop} (F : CallFix p m c cc nL s args (tb cw) own) (hM : Met l y (tb (.code y bytes maxL ret)) (rm d) (va_Pc (.ref b :: As) (PX E D (gu G b (10, z.toInt.toNat + 1)) X)) (QXi E D (gu G b (10, z.toInt.toNat + 1)) Y) 0 0 (th_A (gu G b (10, z.toInt.toNat + 1))))
    (h1 : Cond.methodLink own index y ∈ TB) (h2 : Cond.instanceMethod y ∈ TB) (h3 : Cond.selects RX12 y y ∈ TB) (h4 : Cond.initialized RX12 ∈ TB) (h5 : Cond.code y bytes maxL ret ∈ TB)
    (hd : y.cls = RX12 ∧ y.cls ≠ "java/lang/invoke/MethodHandle" ∧ y.cls ≠ "java/lang/invoke/VarHandle" ∧ (parseMethodDescriptor y.desc).map (fun d => d.parameters.length) = some n) (hR : d + 1 ≤ R.frames ∧ 8 + (maxL + 11) + 40 * d ≤ R.locals)
    (hI : th_I (okM E) D G [] H) (hN : th_N s) (hK : va_K D vwCl (th_tys E) s) (hS : va_S (th_A G) H0 H locs) (hO : G b = some (10, 0)) (hz : 0 ≤ z.toInt) (hg : gf D b 51 z H) (hX : X H)
    (hn : As.length = n) (hsize : ls.size = nL) (hst : st0 = As.reverse ++ .ref b :: rest) (hrm : (rest.map fun v => v.category).sum ≤ 8) (hdg : decode cc pc = .ok (.invokevirtual index, 3)) (hcs : cells ≤ R.cells ∧ slots ≤ R.slots)
    (kk : ∀ (r : Int32) (H1 : Heap) (locs1 : List Loc), th_I (okM E) D G [] H1 → gf D b 51 z H1 → Y r H1 → va_S (th_A G) H0 H1 locs1 → W p l e R s m args below meth c H1 locs1 cells slots Q (F0 m (pc + 3) ls (.int r :: rest))) : W p l e R s m args below meth c H locs cells slots Q (F0 m pc ls st0) := by
  have hA : th_A (gu G b (10, z.toInt.toNat + 1)) = th_A G := gu_A hO
  exact mx_i F hM h1 h2 h3 h4 h5 hd hR (gu_in hI hO hz hg) hN hK (by rw [hA]; exact hS) gu_at hX hn hsize hst hrm hdg hcs (fun r H1 locs1 hI1 hY hS1 => kk r H1 locs1 (gu_out hI1 hO hz).1 (gu_out hI1 hO hz).2 hY (by rw [hA] at hS1; exact hS1))
end GU
