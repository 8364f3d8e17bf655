/-! ===== how long the tape is, in the reference ===== -/
theorem mfs_ne : ∀ x ∈ mfs, (match x with | .inl kd => decide (kd.1 ≠ 10) | .inr _ => true) = true := by decide
theorem mOk_gu {G : th_G} {M n0 n1 : Nat} {fs : List Value} (hM : G M = some (10, n0)) (h : mOk G fs) : mOk (gu G M (10, n1)) fs := by
  refine ⟨h.1, fun j hj => ?_⟩
  obtain ⟨v, h1, h2⟩ := h.2 j hj
  refine ⟨v, h1, ?_⟩
  cases hm : mfs[j]? with
  | none => rw [hm] at h2; exact h2
  | some x =>
    rw [hm] at h2
    cases x with
    | inr r => exact h2
    | inl kd =>
      obtain ⟨q, e1, e2⟩ := h2
      have hne : kd.1 ≠ 10 := of_decide_eq_true (mfs_ne _ (List.mem_of_getElem? hm))
      refine ⟨q, e1, ?_⟩
      rw [gu_ne (fun e => by rw [e, hM] at e2; cases e2; exact hne rfl)]
      exact e2
theorem okM_gu {E : Nat → ClassId} {G : th_G} {M n0 n1 : Nat} {k : th_K} {e : va_E} (hM : G M = some (10, n0)) (h : okM E G k e) : okM E (gu G M (10, n1)) k e := by
  obtain ⟨P, hP, h⟩ := h
  refine ⟨P, hP, ?_⟩
  have hm : P ∈ m_all := List.mem_of_getElem? hP
  simp only [m_all, List.mem_cons, List.not_mem_nil, or_false] at hm
  rcases hm with rfl | rfl | rfl | rfl | rfl | rfl | rfl | rfl | rfl | rfl | rfl
  · exact h
  · exact h
  · exact h
  · exact h
  · exact h
  · exact h
  · exact h
  · exact h
  · exact h
  · exact h
  · obtain ⟨fs, h1, h2, h3⟩ := h
    exact ⟨fs, h1, mOk_gu hM h2, h3⟩
theorem mt_put {E : Nat → ClassId} {D : va_G} {G : th_G} {H H1 : Heap} {a n n' : Nat} {e0 : va_E} (hI : th_I (okM E) D G [] H) (ha : G a = some (10, n)) (he : va_at D vwCl (a, e0) H1) (hok : okM E (gu G a (10, n')) (10, n') e0) (oq : ∀ q : Nat, q ≠ a → H1[q]? = H[q]?) : th_I (okM E) D (gu G a (10, n')) [] H1 := fun b k hb hx => by
  by_cases e : b = a
  · subst e
    cases gu_at.symm.trans hb
    exact ⟨_, he, hok⟩
  · rw [gu_ne e] at hb
    obtain ⟨e', h1, h2⟩ := hI b k hb hx
    exact ⟨e', h1.kept (oq b e), okM_gu ha h2⟩
theorem tp_gf {E : Nat → ClassId} {D : va_G} {G : th_G} {X : List Nat} {H : Heap} {M n : Nat} {z : Int32} (hI : th_I (okM E) D G X H) (hM : G M = some (10, n)) (hX : M ∉ X) (hg : gf D M 10 z H) : z = nI n ∧ n ≤ 400 := by
  obtain ⟨fs, hO, -, hc, hl⟩ := om_10g hI hM hX
  obtain ⟨fs', h1, h2⟩ := hg
  exact ⟨Value.int.inj (m_same h1 hO (by decide) h2 hc), hl⟩
def gN (n : Nat) : Nat := if n + 20 ≤ 400 then n + 20 else n
def hN' (n : Nat) (x : Int32) : Nat := if 0 ≤ x.toInt ∧ x.toInt ≤ ((n : Nat) : Int) then x.toInt.toNat else n
section PMT
variable {p : Program} {l : Launch} {e : Env} {R : Room} {s : State} {m : MethodId} {args : Array Value} {below : List Frame} {meth : Method} {c : Code} {H : Heap} {locs : List Loc} {cells slots : Nat} {Q : State → Prop}
variable {cc : ByteArray} {pc nL : Nat} {ls : Array Slot} {rest st0 As : List Value} {A A0 : Nat → Prop} {H0 : Heap} {D : va_G} {E : Nat → ClassId} {G : th_G} {M b n0 : Nat}
variable {own C host : String} {index n maxL ci d : Nat} {y : MethodName} {bytes : ByteArray} {ret : Option FieldType} {cw : Cond} {T : u_T} {N : Nat}
theorem pmT {t : Nat} (hexec : p.tables.exec = Jvm.exec) (hb : c.code = cc) {Ts : List Cond} (hts : ∀ w ∈ Ts, w.before args s = true) (hin : ∀ w ∈ u_ws RX12 TX12 52, w ∈ Ts) (hown : s.vm.findClass own = some m.cls) (hK : va_K D vwCl (th_tys E) s) (hI : th_I (okM E) D G [] H) (hXs : M ∉ ([] : List Nat)) (hM : G M = some (10, n0)) (hS0 : va_S A H0 H locs) (hA : A M) (k : Nat) (hk : k < 52) (hk10 : k = 10) (ht4 : t ≤ 400) (hlink : (Cond.fieldLink own index RX12 (TX12 k).2.1 (TX12 k).2.2.1).before args s = true) (hsame : (TX12 k).1 = RX12) (hfin : (TX12 k).2.2.2 = false) {ty : FieldType} {z : Int32} (hzt : z = nI t) (hd : parseFieldDescriptor (TX12 k).2.2.1 = some ty) (hn : narrow ty (.int z) = .int z) (hfit : fits ty (.int z) = true) {lo hi : Int} (hm : mfs[k]? = some (.inr (lo, hi))) (h1 : lo ≤ z.toInt) (h2 : z.toInt ≤ hi) (hdg : decode cc pc = .ok (.putfield index, 3))
    (kk : ∀ (H1 : Heap) (locs1 : List Loc), th_I (okM E) D (gu G M (10, t)) [] H1 → gP D M k z H H1 → va_S A H0 H1 locs1 → W p l e R s m args below meth c H1 locs1 cells slots Q (F0 m (pc + 3) ls rest)) : W p l e R s m args below meth c H locs cells slots Q (F0 m pc ls (.int z :: .ref M :: rest)) := by
  obtain ⟨fs, hO, hok, hg9⟩ := om_10g hI hM hXs
  refine th_put (C := RX12) (T := TX12) (N := 52) (ty := ty) hexec hb hts hin tyX12 tyX12_ok nmX12 hown hK hO hS0 hA rfl k hk hlink hsame hfin hd hn hfit (by rw [hok.1]; exact hk) hdg (fun H1 locs1 hO1 oq hS1 => ?_)
  refine kk H1 locs1 (mt_put hI hM hO1 (ok_m10 (mOk_gu hM (hok.set hk hm h1 h2)) ⟨by subst hk10; rw [← hzt]; exact List.getElem?_set_self (by rw [hok.1]; decide), ht4⟩) oq) ⟨oq, ⟨_, hO1, List.getElem?_set_self (by rw [hok.1]; exact hk)⟩, fun j w hj2 hj hg => ?_, fun j q hj2 hj hg => ?_⟩ hS1
  · obtain ⟨fs', h3, h4⟩ := hg
    obtain ⟨v, hv, -⟩ := hok.2 j hj2
    have := m_same hO h3 hj2 hv h4
    subst this
    exact ⟨_, hO1, by rw [List.getElem?_set_ne (Ne.symm hj)]; exact hv⟩
  · obtain ⟨fs', h3, h4⟩ := hg
    obtain ⟨v, hv, -⟩ := hok.2 j hj2
    have := m_same hO h3 hj2 hv h4
    subst this
    exact ⟨_, hO1, by rw [List.getElem?_set_ne (Ne.symm hj)]; exact hv⟩
end PMT
section MXG
variable {p : Program} {l : Launch} {e : Env} {R : Room} {s : State} {m : MethodId} {args : Array Value} {below : List Frame} {meth : Method} {c : Code} {H : Heap} {locs : List Loc} {cells slots : Nat} {Q : State → Prop}
variable {cc : ByteArray} {pc nL : Nat} {ls : Array Slot} {rest st0 As : List Value} {A0 : Nat → Prop} {H0 : Heap} {D : va_G} {E : Nat → ClassId} {G : th_G} {b n0 : Nat}
variable {own host : String} {index n maxL d : Nat} {y : MethodName} {bytes : ByteArray} {ret : Option FieldType} {cw : Cond} {X : Heap → Prop}
theorem mx_g {G' : th_G} {Y : Int32 → Heap → Prop} (hGA : th_A G' = th_A G) (F : CallFix p m c cc nL s args (tb cw) own) (hM : Met l y (tb (.code y bytes maxL ret)) (rm d) (va_Pc (.ref b :: As) (PX E D G X)) (QXi E D G' Y) 0 0 (th_A G'))
    (h1 : Cond.methodLink own index y ∈ TB) (h2 : Cond.instanceMethod y ∈ TB) (h3 : Cond.selects RX12 y y ∈ TB) (h4 : Cond.initialized RX12 ∈ TB) (h5 : Cond.code y bytes maxL ret ∈ TB)
    (hd : y.cls = RX12 ∧ y.cls ≠ "java/lang/invoke/MethodHandle" ∧ y.cls ≠ "java/lang/invoke/VarHandle" ∧ (parseMethodDescriptor y.desc).map (fun d => d.parameters.length) = some n) (hR : d + 1 ≤ R.frames ∧ 8 + (maxL + 11) + 40 * d ≤ R.locals)
    (hI : th_I (okM E) D G [] H) (hN : th_N s) (hK : va_K D vwCl (th_tys E) s) (hS : va_S (th_A G) H0 H locs) (hO : G b = some (10, n0)) (hX : X H)
    (hn : As.length = n) (hsize : ls.size = nL) (hst : st0 = As.reverse ++ .ref b :: rest) (hrm : (rest.map fun v => v.category).sum ≤ 8) (hdg : decode cc pc = .ok (.invokevirtual index, 3)) (hcs : cells ≤ R.cells ∧ slots ≤ R.slots)
    (kk : ∀ (r : Int32) (H1 : Heap) (locs1 : List Loc), th_I (okM E) D G' [] H1 → Y r H1 → va_S (th_A G') H0 H1 locs1 → W p l e R s m args below meth c H1 locs1 cells slots Q (F0 m (pc + 3) ls (.int r :: rest))) : W p l e R s m args below meth c H locs cells slots Q (F0 m pc ls st0) := by
  rw [← hGA] at hS
  obtain ⟨fs, hO⟩ := rm_10 hI hO List.not_mem_nil
  exact va_calli (va_runV (As := As) (rest := rest) F hM (cwV n F.2.2.2.2 (tb_V h1 h2 h3 h4 h5) rfl rfl rfl hd hR) ⟨mx_blind, va_recv hK (th_one hO) (q := (RX12, TX12, 52)) rfl (q0 := 0) rfl, fun U hU hW => ⟨rfl, ⟨by rw [hU]; exact hI, hN.warm hW, va_K.moved hW.alike hK⟩, by rw [hU]; exact hX⟩⟩ rfl hn hsize hst (lv_room hrm) hdg hcs) hS (fun q _ h => h) (fun q h => h) (fun r u t H1 locs1 ht hvm hw hB hz hk hS => kk r H1 locs1 (by rw [← ht]; exact hB.1.1) (by rw [← ht, ← hw]; exact hB.2) hS)

end MXG
