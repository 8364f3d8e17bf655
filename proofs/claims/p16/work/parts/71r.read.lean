theorem wp_11 : Cond.selects RX3 yX3_readToken yX3_readToken ∈ TB := tv 11 (by decide +kernel) (by decide +kernel)
theorem wp_14 : Cond.selects RX3 yX3_clause yX3_clause ∈ TB := tv 14 (by decide +kernel) (by decide +kernel)
theorem wd_20 : (Cond.initialized RX2) ∈ TB := tw 20 (by decide +kernel) (by decide +kernel)
theorem wd_648 : (Cond.methodLink RX3 (55 : Nat) Lib.Math.max.name) ∈ TB := tw 648 (by decide +kernel) (by decide +kernel)
theorem wd_649 : (Cond.methodLink RX3 (58 : Nat) yX3_readToken) ∈ TB := tw 649 (by decide +kernel) (by decide +kernel)
theorem wd_651 : (Jvm.Cond.instanceMethod yX3_readToken) ∈ TB := tw 651 (by decide +kernel) (by decide +kernel)
theorem wd_652 : (Cond.code yX3_readToken cX3_readToken 6 (Option.some Jvm.ClassFile.FieldType.int)) ∈ TB := tw 652 (by decide +kernel) (by decide +kernel)
theorem wd_711 : (Cond.methodLink RX3 (70 : Nat) yX3_clause) ∈ TB := tw 711 (by decide +kernel) (by decide +kernel)
theorem wd_713 : (Jvm.Cond.instanceMethod yX3_clause) ∈ TB := tw 713 (by decide +kernel) (by decide +kernel)
theorem wd_714 : (Cond.code yX3_clause cX3_clause 2 (Option.some Jvm.ClassFile.FieldType.boolean)) ∈ TB := tw 714 (by decide +kernel) (by decide +kernel)
theorem wd_747 : (Cond.classLink RX3 (74 : Nat) "NineRiver$Law") ∈ TB := tw 747 (by decide +kernel) (by decide +kernel)
theorem wd_748 : (Cond.instantiable RX2 (4 : Nat)) ∈ TB := tw 748 (by decide +kernel) (by decide +kernel)
theorem wd_749 : (Cond.methodLink RX3 (76 : Nat) yX2_init) ∈ TB := tw 749 (by decide +kernel) (by decide +kernel)
theorem wd_750 : (Jvm.Cond.instanceMethod yX2_init) ∈ TB := tw 750 (by decide +kernel) (by decide +kernel)
theorem wd_751 : (Cond.code yX2_init cX2_init 6 (Option.none : Option Jvm.ClassFile.FieldType)) ∈ TB := tw 751 (by decide +kernel) (by decide +kernel)
/-! ===== calls by one that may change more ===== -/
section SWX
variable {p : Program} {l : Launch} {e : Env} {R : Room} {s : State} {m : MethodId} {args : Array Value} {below : List Frame} {meth : Method} {c : Code} {H : Heap} {locs : List Loc} {cells slots : Nat} {Q : State → Prop}
variable {cc : ByteArray} {pc nL : Nat} {ls : Array Slot} {rest st0 As : List Value} {A0 : Nat → Prop} {D : va_G} {E : Nat → Nat} {G : th_G} {adK adV : Nat → Nat}
variable {own : String} {index n maxL d : Nat} {y : MethodName} {bytes : ByteArray} {ret : Option FieldType} {cw : Cond}
theorem px_Vi {ci N : Nat} {C : String} {T : u_T} {b : Nat} {X : Heap → Prop} {Y : Int32 → Heap → Prop} (F : CallFix p m c cc nL s args (tb cw) own) (hM : Met l y (tb (.code y bytes maxL ret)) (rm d) (va_Pc (.ref b :: As) (PWx E D G adK adV X)) (QCi E D G Y) 0 0 (th_A G))
    (h1 : Cond.methodLink own index y ∈ TB) (h2 : Cond.instanceMethod y ∈ TB) (h3 : Cond.selects C y y ∈ TB) (h4 : Cond.initialized C ∈ TB) (h5 : Cond.code y bytes maxL ret ∈ TB)
    (hd : y.cls = C ∧ y.cls ≠ "java/lang/invoke/MethodHandle" ∧ y.cls ≠ "java/lang/invoke/VarHandle" ∧ (parseMethodDescriptor y.desc).map (fun d => d.parameters.length) = some n) (hR : d + 1 ≤ R.frames ∧ 8 + (maxL + 11) + 40 * d ≤ R.locals)
    (hI : th_I (okC E) D G [] H) (hN : th_N s) (hK : va_K D vwCl (th_tys E) s) (hX : X H) (hWS : WS adK adV A0 s s.heap) (hS : va_S A0 s.heap H locs) (hAG : ∀ (r : Nat) (k' : th_K), G r = some k' → A0 r) (hO : ∃ fs, va_at D vwCl (b, .inr (ci, fs)) H) (hc : vwCl[ci]? = some (C, T, N))
    (hn : As.length = n) (hsize : ls.size = nL) (hst : st0 = As.reverse ++ .ref b :: rest) (hrm : (rest.map fun v => v.category).sum ≤ 8) (hdg : decode cc pc = .ok (.invokevirtual index, 3)) (hcs : cells ≤ R.cells ∧ slots ≤ R.slots)
    (kk : ∀ (r : Int32) (H1 : Heap) (locs1 : List Loc), th_I (okC E) D G [] H1 → Y r H1 → va_S A0 s.heap H1 locs1 → W p l e R s m args below meth c H1 locs1 cells slots Q (F0 m (pc + 3) ls (.int r :: rest))) : W p l e R s m args below meth c H locs cells slots Q (F0 m pc ls st0) := by
  obtain ⟨fs, hO⟩ := hO
  exact va_calli (va_runV (As := As) (rest := rest) F hM (cwV n F.2.2.2.2 (tb_V h1 h2 h3 h4 h5) rfl rfl rfl hd hR) ⟨px_blind, va_recv hK (th_one hO) hc (q0 := 0) rfl, fun U hU hW => ⟨rfl, ⟨⟨by rw [hU]; exact hI, hN.warm hW, va_K.moved hW.alike hK⟩, by rw [hU]; exact ((hWS.kept hS.2.1).narrow (fun q ⟨k', h⟩ => hAG q k' h)).warm hW⟩, by rw [hU]; exact hX⟩⟩ rfl hn hsize hst (lv_room hrm) hdg hcs) hS (fun q _ h => by obtain ⟨k', h⟩ := h; exact hAG q k' h) (fun q h => by obtain ⟨k', h⟩ := h; exact hAG q k' h) (fun r u t H1 locs1 ht hvm hw hB hz hk hS => kk r H1 locs1 (by rw [← ht]; exact hB.1.1) (by rw [← ht, ← hw]; exact hB.2) hS)
end SWX
section MCX
variable {p : Program} {l : Launch} {e : Env} {R : Room} {s : State} {m : MethodId} {args : Array Value} {below : List Frame} {meth : Method} {c : Code} {H : Heap} {locs : List Loc} {cells slots : Nat} {Q : State → Prop}
variable {cc : ByteArray} {pc nL : Nat} {ls : Array Slot} {rest st0 As : List Value} {A0 : Nat → Prop} {H0 : Heap} {D : va_G} {E : Nat → Nat} {G : th_G} {b : Nat}
variable {own host : String} {index n maxL d : Nat} {y : MethodName} {bytes : ByteArray} {ret : Option FieldType} {cw : Cond} {X : Heap → Prop}
theorem nx_iA {Y : Int32 → Heap → Prop} (F : CallFix p m c cc nL s args (tb cw) own) (hM : Met l y (tb (.code y bytes maxL ret)) (rm d) (va_Pc (.ref b :: As) (PCx E D G X)) (QCi E D G Y) 0 0 (th_A G))
    (h1 : Cond.methodLink own index y ∈ TB) (h2 : Cond.instanceMethod y ∈ TB) (h3 : Cond.selects RX3 y y ∈ TB) (h4 : Cond.initialized RX3 ∈ TB) (h5 : Cond.code y bytes maxL ret ∈ TB)
    (hd : y.cls = RX3 ∧ y.cls ≠ "java/lang/invoke/MethodHandle" ∧ y.cls ≠ "java/lang/invoke/VarHandle" ∧ (parseMethodDescriptor y.desc).map (fun d => d.parameters.length) = some n) (hR : d + 1 ≤ R.frames ∧ 8 + (maxL + 11) + 40 * d ≤ R.locals)
    (hI : th_I (okC E) D G [] H) (hN : th_N s) (hK : va_K D vwCl (th_tys E) s) (hS : va_S A0 H0 H locs) (hAG : ∀ (r : Nat) (k' : th_K), G r = some k' → A0 r) (hO : G b = some (7, 12)) (hX : X H)
    (hn : As.length = n) (hsize : ls.size = nL) (hst : st0 = As.reverse ++ .ref b :: rest) (hrm : (rest.map fun v => v.category).sum ≤ 8) (hdg : decode cc pc = .ok (.invokevirtual index, 3)) (hcs : cells ≤ R.cells ∧ slots ≤ R.slots)
    (kk : ∀ (r : Int32) (H1 : Heap) (locs1 : List Loc), th_I (okC E) D G [] H1 → Y r H1 → va_S A0 H0 H1 locs1 → W p l e R s m args below meth c H1 locs1 cells slots Q (F0 m (pc + 3) ls (.int r :: rest))) : W p l e R s m args below meth c H locs cells slots Q (F0 m pc ls st0) := by
  obtain ⟨fs, hO⟩ := rc_7 hI hO List.not_mem_nil
  exact va_calli (va_runV (As := As) (rest := rest) F hM (cwV n F.2.2.2.2 (tb_V h1 h2 h3 h4 h5) rfl rfl rfl hd hR) ⟨nx_blind, va_recv hK (th_one hO) (q := (RX3, TX3, 12)) rfl (q0 := 0) rfl, fun U hU hW => ⟨rfl, ⟨by rw [hU]; exact hI, hN.warm hW, va_K.moved hW.alike hK⟩, by rw [hU]; exact hX⟩⟩ rfl hn hsize hst (lv_room hrm) hdg hcs) hS (fun q _ h => by obtain ⟨k', h⟩ := h; exact hAG q k' h) (fun q h => by obtain ⟨k', h⟩ := h; exact hAG q k' h) (fun r u t H1 locs1 ht hvm hw hB hz hk hS => kk r H1 locs1 (by rw [← ht]; exact hB.1.1) (by rw [← ht, ← hw]; exact hB.2) hS)
theorem nx_vA {Y : Heap → Prop} (F : CallFix p m c cc nL s args (tb cw) own) (hM : Met l y (tb (.code y bytes maxL ret)) (rm d) (va_Pc (.ref b :: As) (PCx E D G X)) (QCv E D G Y) 0 0 (th_A G))
    (h1 : Cond.methodLink own index y ∈ TB) (h2 : Cond.instanceMethod y ∈ TB) (h3 : Cond.selects RX3 y y ∈ TB) (h4 : Cond.initialized RX3 ∈ TB) (h5 : Cond.code y bytes maxL ret ∈ TB)
    (hd : y.cls = RX3 ∧ y.cls ≠ "java/lang/invoke/MethodHandle" ∧ y.cls ≠ "java/lang/invoke/VarHandle" ∧ (parseMethodDescriptor y.desc).map (fun d => d.parameters.length) = some n) (hR : d + 1 ≤ R.frames ∧ 8 + (maxL + 11) + 40 * d ≤ R.locals)
    (hI : th_I (okC E) D G [] H) (hN : th_N s) (hK : va_K D vwCl (th_tys E) s) (hS : va_S A0 H0 H locs) (hAG : ∀ (r : Nat) (k' : th_K), G r = some k' → A0 r) (hO : G b = some (7, 12)) (hX : X H)
    (hn : As.length = n) (hsize : ls.size = nL) (hst : st0 = As.reverse ++ .ref b :: rest) (hrm : (rest.map fun v => v.category).sum ≤ 8) (hdg : decode cc pc = .ok (.invokevirtual index, 3)) (hcs : cells ≤ R.cells ∧ slots ≤ R.slots)
    (kk : ∀ (H1 : Heap) (locs1 : List Loc), th_I (okC E) D G [] H1 → Y H1 → va_S A0 H0 H1 locs1 → W p l e R s m args below meth c H1 locs1 cells slots Q (F0 m (pc + 3) ls (rest))) : W p l e R s m args below meth c H locs cells slots Q (F0 m pc ls st0) := by
  obtain ⟨fs, hO⟩ := rc_7 hI hO List.not_mem_nil
  exact va_callv (va_runV (As := As) (rest := rest) F hM (cwV n F.2.2.2.2 (tb_V h1 h2 h3 h4 h5) rfl rfl rfl hd hR) ⟨nx_blind, va_recv hK (th_one hO) (q := (RX3, TX3, 12)) rfl (q0 := 0) rfl, fun U hU hW => ⟨rfl, ⟨by rw [hU]; exact hI, hN.warm hW, va_K.moved hW.alike hK⟩, by rw [hU]; exact hX⟩⟩ rfl hn hsize hst (lv_room hrm) hdg hcs) hS (fun q _ h => by obtain ⟨k', h⟩ := h; exact hAG q k' h) (fun q h => by obtain ⟨k', h⟩ := h; exact hAG q k' h) (fun u t H1 locs1 ht hvm hw hB hz hk hS => kk H1 locs1 (by rw [← ht]; exact hB.1.1) (by rw [← ht]; exact hB.2) hS)
end MCX
abbrev QLx (E : Nat → Nat) (D : va_G) (Gi : th_G) (sz : Nat) (Y : Option Nat → th_G → Heap → Prop) : Array Value → State → Outcome → State → Prop := va_Qq (fun (r : Option Nat) (U : Option Nat × th_G) => U.1 = r ∧ (∀ q, r = some q → ∃ n, U.2 q = some (5, n)) ∧ gle Gi U.2 ∧ ∀ (r : Nat) (k' : th_K), U.2 r = some k' → Gi r = some k' ∨ sz ≤ r) (fun U t => th_P E D U.2 t ∧ Y U.1 U.2 t.heap) (nA Gi sz)
section CQX
variable {p : Program} {l : Launch} {e : Env} {R : Room} {s : State} {m : MethodId} {args : Array Value} {below : List Frame} {meth : Method} {c : Code} {H : Heap} {locs : List Loc} {cells slots : Nat} {Q : State → Prop}
variable {cc : ByteArray} {pc nL : Nat} {ls : Array Slot} {rest st0 As : List Value} {D : va_G} {E : Nat → Nat} {G : th_G} {b : Nat} {A0 : Nat → Prop} {adK adV : Nat → Nat}
variable {own C : String} {index n maxL ci mc ms : Nat} {y : MethodName} {bytes : ByteArray} {ret : Option FieldType} {cw : Cond} {rr : Room} {T : u_T} {N : Nat}
theorem th_cQx {Y : Option Nat → th_G → Heap → Prop} (F : CallFix p m c cc nL s args (tb cw) own) (hM : Met l y (tb (.code y bytes maxL ret)) rr (va_Pc (.ref b :: As) (PLw E D G H.size adK adV)) (QLx E D G H.size Y) mc ms (nA G H.size))
    (h1 : Cond.methodLink own index y ∈ TB) (h2 : Cond.instanceMethod y ∈ TB) (h3 : Cond.selects C y y ∈ TB) (h4 : Cond.initialized C ∈ TB) (h5 : Cond.code y bytes maxL ret ∈ TB) (hrr : rr.cells = mc ∧ rr.slots = ms)
    (hd : y.cls = C ∧ y.cls ≠ "java/lang/invoke/MethodHandle" ∧ y.cls ≠ "java/lang/invoke/VarHandle" ∧ (parseMethodDescriptor y.desc).map (fun d => d.parameters.length) = some n) (hR : rr.frames + 1 ≤ R.frames ∧ 8 + (maxL + 11) + rr.locals ≤ R.locals)
    (hI : th_I (okC E) D G [] H) (hN : th_N s) (hK : va_K D vwCl (th_tys E) s) (hWS : WS adK adV A0 s s.heap) (hCL : th_CL E s) (hS : va_S A0 s.heap H locs) (hA : ∀ q : Nat, s.heap.size ≤ q → A0 q) (hAG : ∀ (r : Nat) (k' : th_K), G r = some k' → A0 r) (hO : ∃ fs, va_at D vwCl (b, .inr (ci, fs)) H) (hc : vwCl[ci]? = some (C, T, N))
    (hn : As.length = n) (hsize : ls.size = nL) (hst : st0 = As.reverse ++ .ref b :: rest) (hrm : (rest.map fun v => v.category).sum ≤ 8) (hdg : decode cc pc = .ok (.invokevirtual index, 3)) (hcs : cells + mc ≤ R.cells ∧ slots + ms ≤ R.slots)
    (kk : ∀ (r : Option Nat) (G' : th_G) (H1 : Heap) (locs1 : List Loc), (∀ q, r = some q → ∃ n, G' q = some (5, n)) → gle G G' → (∀ (r : Nat) (k' : th_K), G' r = some k' → A0 r) → th_I (okC E) D G' [] H1 → Y r G' H1 → va_S A0 s.heap H1 locs1 → W p l e R s m args below meth c H1 locs1 (cells + mc) (slots + ms) Q (F0 m (pc + 3) ls (va_rf r :: rest))) : W p l e R s m args below meth c H locs cells slots Q (F0 m pc ls st0) := by
  obtain ⟨fs, hO⟩ := hO
  have hF : ∀ q, nA G H.size q → A0 q := fun q h => by
    rcases h with ⟨k', h⟩ | h
    · exact hAG q k' h
    · exact hA q (Nat.le_trans hS.1 h)
  exact va_callq (va_runV (As := As) (rest := rest) F hM (cwV n F.2.2.2.2 (tb_V h1 h2 h3 h4 h5) rfl hrr.1 hrr.2 hd hR) ⟨lw_blind, va_recv hK (th_one hO) hc (q0 := 0) rfl, fun U hU hW => ⟨rfl, by rw [hU], ⟨by rw [hU]; exact hI, hN.warm hW, va_K.moved hW.alike hK⟩, by rw [hU]; exact ((hWS.kept hS.2.1).narrow hF).warm hW, hCL.warm hW⟩⟩ rfl hn hsize hst (lv_room hrm) hdg hcs) hS (fun q _ h => hF q h) hF (fun r U t H1 locs1 ht hvm hw hB hz hk hS1 => kk r U.2 H1 locs1 hw.2.1 hw.2.2.1 (fun r k' h => by
      rcases hw.2.2.2 r k' h with h | h
      · exact hAG r k' h
      · exact hA r (Nat.le_trans hS.1 h)) (by rw [← ht]; exact hB.1.1) (by rw [← ht, ← hw.1]; exact hB.2) hS1)
end CQX
def RDY (E : Nat → Nat) (D : va_G) (h0 p1 zz : Nat) (r : Option Nat) (G : th_G) (H : Heap) : Prop := (r = none → ∃ (ft fp fn : Nat → Int32) (TT pp nc LL : Nat), RC E D G h0 ft fp fn TT pp nc LL H ∧ OUTR (tC E p1) zz false (fp pp).toInt) ∧ ∀ q : Nat, r = some q → ∃ f : Int, OUTR (tC E p1) zz true f
theorem TC_ne {ft fp fn ft' fp' fn' : Nat → Int32} {tt j : Nat} {a b c : Int32} (hA : AT ft fp fn ft' fp' fn' tt a b c) (hj : j ≠ tt) : (fp' j).toInt = (fp j).toInt ∧ zc (ft' j).toInt = zc (ft j).toInt ∧ YV fn' j = YV fn j := by
  obtain ⟨q1, q2, q3⟩ := hA.1 j hj
  refine ⟨by rw [q2], by rw [q1], ?_⟩
  unfold YV
  rw [q3]
theorem CKI_ne {ft fp fn ft' fp' fn' : Nat → Int32} {tt : Nat} {a b c : Int32} (h : CKI ft tt) (hA : AT ft fp fn ft' fp' fn' tt a b c) : ∀ j : Nat, j < tt → ck (ft' j).toInt (zc (ft' j).toInt) := fun j hj => by
  rw [(hA.1 j (by omega)).1]
  exact h j hj
theorem SJ_no {r : Int} {P C Q : Prop} (h : SJ r (P ∧ C) Q) (ho : r = 0 ∨ (P → C → Q)) : Q := by
  rcases h with ⟨a, b⟩ | ⟨_, b⟩
  · rcases ho with ho | ho
    · omega
    · exact ho b.1 b.2
  · exact b

theorem dX3_read_0g : (decode cX3_read 0 = .ok (.iconst 0, 1)) ∧ (decode cX3_read 1 = .ok (.iload_n 2, 1)) ∧ (decode cX3_read 2 = .ok (.aload_n 1, 1)) ∧ (decode cX3_read 3 = .ok (.arraylength, 1)) ∧ (decode cX3_read 4 = .ok (.sipush 400, 3)) ∧ (decode cX3_read 7 = .ok (.invokestatic 49, 3)) ∧ (decode cX3_read 10 = .ok (.invokestatic 49, 3)) ∧ (decode cX3_read 13 = .ok (.invokestatic 55, 3)) ∧ (decode cX3_read 16 = .ok (.istore_n 3, 1)) ∧ (decode cX3_read 17 = .ok (.aload_n 0, 1)) := by decide +kernel
theorem dX3_read_0 : decode cX3_read 0 = .ok (.iconst 0, 1) := dX3_read_0g.1
theorem dX3_read_1 : decode cX3_read 1 = .ok (.iload_n 2, 1) := dX3_read_0g.2.1
theorem dX3_read_2 : decode cX3_read 2 = .ok (.aload_n 1, 1) := dX3_read_0g.2.2.1
theorem dX3_read_3 : decode cX3_read 3 = .ok (.arraylength, 1) := dX3_read_0g.2.2.2.1
theorem dX3_read_4 : decode cX3_read 4 = .ok (.sipush 400, 3) := dX3_read_0g.2.2.2.2.1
theorem dX3_read_7 : decode cX3_read 7 = .ok (.invokestatic 49, 3) := dX3_read_0g.2.2.2.2.2.1
theorem dX3_read_10 : decode cX3_read 10 = .ok (.invokestatic 49, 3) := dX3_read_0g.2.2.2.2.2.2.1
theorem dX3_read_13 : decode cX3_read 13 = .ok (.invokestatic 55, 3) := dX3_read_0g.2.2.2.2.2.2.2.1
theorem dX3_read_16 : decode cX3_read 16 = .ok (.istore_n 3, 1) := dX3_read_0g.2.2.2.2.2.2.2.2.1
theorem dX3_read_17 : decode cX3_read 17 = .ok (.aload_n 0, 1) := dX3_read_0g.2.2.2.2.2.2.2.2.2
theorem dX3_read_18g : (decode cX3_read 18 = .ok (.iconst 0, 1)) ∧ (decode cX3_read 19 = .ok (.putfield 30, 3)) ∧ (decode cX3_read 22 = .ok (.iconst 0, 1)) ∧ (decode cX3_read 23 = .ok (.istore 4, 2)) ∧ (decode cX3_read 25 = .ok (.iload 4, 2)) ∧ (decode cX3_read 27 = .ok (.iload_n 3, 1)) ∧ (decode cX3_read 28 = .ok (.if_icmp .ge 39, 3)) ∧ (decode cX3_read 31 = .ok (.aload_n 1, 1)) ∧ (decode cX3_read 32 = .ok (.iload 4, 2)) ∧ (decode cX3_read 34 = .ok (.iaload, 1)) := by decide +kernel
theorem dX3_read_18 : decode cX3_read 18 = .ok (.iconst 0, 1) := dX3_read_18g.1
theorem dX3_read_19 : decode cX3_read 19 = .ok (.putfield 30, 3) := dX3_read_18g.2.1
theorem dX3_read_22 : decode cX3_read 22 = .ok (.iconst 0, 1) := dX3_read_18g.2.2.1
theorem dX3_read_23 : decode cX3_read 23 = .ok (.istore 4, 2) := dX3_read_18g.2.2.2.1
theorem dX3_read_25 : decode cX3_read 25 = .ok (.iload 4, 2) := dX3_read_18g.2.2.2.2.1
theorem dX3_read_27 : decode cX3_read 27 = .ok (.iload_n 3, 1) := dX3_read_18g.2.2.2.2.2.1
theorem dX3_read_28 : decode cX3_read 28 = .ok (.if_icmp .ge 39, 3) := dX3_read_18g.2.2.2.2.2.2.1
theorem dX3_read_31 : decode cX3_read 31 = .ok (.aload_n 1, 1) := dX3_read_18g.2.2.2.2.2.2.2.1
theorem dX3_read_32 : decode cX3_read 32 = .ok (.iload 4, 2) := dX3_read_18g.2.2.2.2.2.2.2.2.1
theorem dX3_read_34 : decode cX3_read 34 = .ok (.iaload, 1) := dX3_read_18g.2.2.2.2.2.2.2.2.2
theorem dX3_read_35g : (decode cX3_read 35 = .ok (.bipush 32, 2)) ∧ (decode cX3_read 37 = .ok (.if_icmp .ne 10, 3)) ∧ (decode cX3_read 40 = .ok (.iload 4, 2)) ∧ (decode cX3_read 42 = .ok (.iconst 1, 1)) ∧ (decode cX3_read 43 = .ok (.iadd, 1)) ∧ (decode cX3_read 44 = .ok (.goto 18, 3)) ∧ (decode cX3_read 47 = .ok (.iload 4, 2)) ∧ (decode cX3_read 49 = .ok (.iconst 1, 1)) ∧ (decode cX3_read 50 = .ok (.iadd, 1)) ∧ (decode cX3_read 51 = .ok (.aload_n 0, 1)) := by decide +kernel
theorem dX3_read_35 : decode cX3_read 35 = .ok (.bipush 32, 2) := dX3_read_35g.1
theorem dX3_read_37 : decode cX3_read 37 = .ok (.if_icmp .ne 10, 3) := dX3_read_35g.2.1
theorem dX3_read_40 : decode cX3_read 40 = .ok (.iload 4, 2) := dX3_read_35g.2.2.1
theorem dX3_read_42 : decode cX3_read 42 = .ok (.iconst 1, 1) := dX3_read_35g.2.2.2.1
theorem dX3_read_43 : decode cX3_read 43 = .ok (.iadd, 1) := dX3_read_35g.2.2.2.2.1
theorem dX3_read_44 : decode cX3_read 44 = .ok (.goto 18, 3) := dX3_read_35g.2.2.2.2.2.1
theorem dX3_read_47 : decode cX3_read 47 = .ok (.iload 4, 2) := dX3_read_35g.2.2.2.2.2.2.1
theorem dX3_read_49 : decode cX3_read 49 = .ok (.iconst 1, 1) := dX3_read_35g.2.2.2.2.2.2.2.1
theorem dX3_read_50 : decode cX3_read 50 = .ok (.iadd, 1) := dX3_read_35g.2.2.2.2.2.2.2.2.1
theorem dX3_read_51 : decode cX3_read 51 = .ok (.aload_n 0, 1) := dX3_read_35g.2.2.2.2.2.2.2.2.2
theorem dX3_read_52g : (decode cX3_read 52 = .ok (.aload_n 1, 1)) ∧ (decode cX3_read 53 = .ok (.iload 4, 2)) ∧ (decode cX3_read 55 = .ok (.iload_n 3, 1)) ∧ (decode cX3_read 56 = .ok (.invokevirtual 58, 3)) ∧ (decode cX3_read 59 = .ok (.invokestatic 55, 3)) ∧ (decode cX3_read 62 = .ok (.istore 4, 2)) ∧ (decode cX3_read 64 = .ok (.goto (-39), 3)) ∧ (decode cX3_read 67 = .ok (.aload_n 0, 1)) ∧ (decode cX3_read 68 = .ok (.iconst (-1), 1)) ∧ (decode cX3_read 69 = .ok (.iload_n 3, 1)) := by decide +kernel
theorem dX3_read_52 : decode cX3_read 52 = .ok (.aload_n 1, 1) := dX3_read_52g.1
theorem dX3_read_53 : decode cX3_read 53 = .ok (.iload 4, 2) := dX3_read_52g.2.1
theorem dX3_read_55 : decode cX3_read 55 = .ok (.iload_n 3, 1) := dX3_read_52g.2.2.1
theorem dX3_read_56 : decode cX3_read 56 = .ok (.invokevirtual 58, 3) := dX3_read_52g.2.2.2.1
theorem dX3_read_59 : decode cX3_read 59 = .ok (.invokestatic 55, 3) := dX3_read_52g.2.2.2.2.1
theorem dX3_read_62 : decode cX3_read 62 = .ok (.istore 4, 2) := dX3_read_52g.2.2.2.2.2.1
theorem dX3_read_64 : decode cX3_read 64 = .ok (.goto (-39), 3) := dX3_read_52g.2.2.2.2.2.2.1
theorem dX3_read_67 : decode cX3_read 67 = .ok (.aload_n 0, 1) := dX3_read_52g.2.2.2.2.2.2.2.1
theorem dX3_read_68 : decode cX3_read 68 = .ok (.iconst (-1), 1) := dX3_read_52g.2.2.2.2.2.2.2.2.1
theorem dX3_read_69 : decode cX3_read 69 = .ok (.iload_n 3, 1) := dX3_read_52g.2.2.2.2.2.2.2.2.2
theorem dX3_read_70g : (decode cX3_read 70 = .ok (.iconst 0, 1)) ∧ (decode cX3_read 71 = .ok (.invokevirtual 62, 3)) ∧ (decode cX3_read 74 = .ok (.aload_n 0, 1)) ∧ (decode cX3_read 75 = .ok (.iconst 0, 1)) ∧ (decode cX3_read 76 = .ok (.putfield 34, 3)) ∧ (decode cX3_read 79 = .ok (.aload_n 0, 1)) ∧ (decode cX3_read 80 = .ok (.iconst 0, 1)) ∧ (decode cX3_read 81 = .ok (.putfield 37, 3)) ∧ (decode cX3_read 84 = .ok (.aload_n 0, 1)) ∧ (decode cX3_read 85 = .ok (.iconst 0, 1)) := by decide +kernel
theorem dX3_read_70 : decode cX3_read 70 = .ok (.iconst 0, 1) := dX3_read_70g.1
theorem dX3_read_71 : decode cX3_read 71 = .ok (.invokevirtual 62, 3) := dX3_read_70g.2.1
theorem dX3_read_74 : decode cX3_read 74 = .ok (.aload_n 0, 1) := dX3_read_70g.2.2.1
theorem dX3_read_75 : decode cX3_read 75 = .ok (.iconst 0, 1) := dX3_read_70g.2.2.2.1
theorem dX3_read_76 : decode cX3_read 76 = .ok (.putfield 34, 3) := dX3_read_70g.2.2.2.2.1
theorem dX3_read_79 : decode cX3_read 79 = .ok (.aload_n 0, 1) := dX3_read_70g.2.2.2.2.2.1
theorem dX3_read_80 : decode cX3_read 80 = .ok (.iconst 0, 1) := dX3_read_70g.2.2.2.2.2.2.1
theorem dX3_read_81 : decode cX3_read 81 = .ok (.putfield 37, 3) := dX3_read_70g.2.2.2.2.2.2.2.1
theorem dX3_read_84 : decode cX3_read 84 = .ok (.aload_n 0, 1) := dX3_read_70g.2.2.2.2.2.2.2.2.1
theorem dX3_read_85 : decode cX3_read 85 = .ok (.iconst 0, 1) := dX3_read_70g.2.2.2.2.2.2.2.2.2
theorem dX3_read_86g : (decode cX3_read 86 = .ok (.putfield 40, 3)) ∧ (decode cX3_read 89 = .ok (.aload_n 0, 1)) ∧ (decode cX3_read 90 = .ok (.iconst 0, 1)) ∧ (decode cX3_read 91 = .ok (.invokevirtual 66, 3)) ∧ (decode cX3_read 94 = .ok (.aload_n 0, 1)) ∧ (decode cX3_read 95 = .ok (.invokevirtual 70, 3)) ∧ (decode cX3_read 98 = .ok (.istore 5, 2)) ∧ (decode cX3_read 100 = .ok (.iconst 1, 1)) ∧ (decode cX3_read 101 = .ok (.istore 6, 2)) ∧ (decode cX3_read 103 = .ok (.iload 5, 2)) := by decide +kernel
theorem dX3_read_86 : decode cX3_read 86 = .ok (.putfield 40, 3) := dX3_read_86g.1
theorem dX3_read_89 : decode cX3_read 89 = .ok (.aload_n 0, 1) := dX3_read_86g.2.1
theorem dX3_read_90 : decode cX3_read 90 = .ok (.iconst 0, 1) := dX3_read_86g.2.2.1
theorem dX3_read_91 : decode cX3_read 91 = .ok (.invokevirtual 66, 3) := dX3_read_86g.2.2.2.1
theorem dX3_read_94 : decode cX3_read 94 = .ok (.aload_n 0, 1) := dX3_read_86g.2.2.2.2.1
theorem dX3_read_95 : decode cX3_read 95 = .ok (.invokevirtual 70, 3) := dX3_read_86g.2.2.2.2.2.1
theorem dX3_read_98 : decode cX3_read 98 = .ok (.istore 5, 2) := dX3_read_86g.2.2.2.2.2.2.1
theorem dX3_read_100 : decode cX3_read 100 = .ok (.iconst 1, 1) := dX3_read_86g.2.2.2.2.2.2.2.1
theorem dX3_read_101 : decode cX3_read 101 = .ok (.istore 6, 2) := dX3_read_86g.2.2.2.2.2.2.2.2.1
theorem dX3_read_103 : decode cX3_read 103 = .ok (.iload 5, 2) := dX3_read_86g.2.2.2.2.2.2.2.2.2
theorem dX3_read_105g : (decode cX3_read 105 = .ok (.ifCond .eq 41, 3)) ∧ (decode cX3_read 108 = .ok (.aload_n 0, 1)) ∧ (decode cX3_read 109 = .ok (.getfield 46, 3)) ∧ (decode cX3_read 112 = .ok (.bipush 59, 2)) ∧ (decode cX3_read 114 = .ok (.if_icmp .ne 32, 3)) ∧ (decode cX3_read 117 = .ok (.iload 6, 2)) ∧ (decode cX3_read 119 = .ok (.bipush 12, 2)) ∧ (decode cX3_read 121 = .ok (.if_icmp .gt 25, 3)) ∧ (decode cX3_read 124 = .ok (.aload_n 0, 1)) ∧ (decode cX3_read 125 = .ok (.aload_n 0, 1)) := by decide +kernel
theorem dX3_read_105 : decode cX3_read 105 = .ok (.ifCond .eq 41, 3) := dX3_read_105g.1
theorem dX3_read_108 : decode cX3_read 108 = .ok (.aload_n 0, 1) := dX3_read_105g.2.1
theorem dX3_read_109 : decode cX3_read 109 = .ok (.getfield 46, 3) := dX3_read_105g.2.2.1
theorem dX3_read_112 : decode cX3_read 112 = .ok (.bipush 59, 2) := dX3_read_105g.2.2.2.1
theorem dX3_read_114 : decode cX3_read 114 = .ok (.if_icmp .ne 32, 3) := dX3_read_105g.2.2.2.2.1
theorem dX3_read_117 : decode cX3_read 117 = .ok (.iload 6, 2) := dX3_read_105g.2.2.2.2.2.1
theorem dX3_read_119 : decode cX3_read 119 = .ok (.bipush 12, 2) := dX3_read_105g.2.2.2.2.2.2.1
theorem dX3_read_121 : decode cX3_read 121 = .ok (.if_icmp .gt 25, 3) := dX3_read_105g.2.2.2.2.2.2.2.1
theorem dX3_read_124 : decode cX3_read 124 = .ok (.aload_n 0, 1) := dX3_read_105g.2.2.2.2.2.2.2.2.1
theorem dX3_read_125 : decode cX3_read 125 = .ok (.aload_n 0, 1) := dX3_read_105g.2.2.2.2.2.2.2.2.2
theorem dX3_read_126g : (decode cX3_read 126 = .ok (.getfield 43, 3)) ∧ (decode cX3_read 129 = .ok (.iconst 1, 1)) ∧ (decode cX3_read 130 = .ok (.iadd, 1)) ∧ (decode cX3_read 131 = .ok (.invokevirtual 66, 3)) ∧ (decode cX3_read 134 = .ok (.aload_n 0, 1)) ∧ (decode cX3_read 135 = .ok (.invokevirtual 70, 3)) ∧ (decode cX3_read 138 = .ok (.istore 5, 2)) ∧ (decode cX3_read 140 = .ok (.iinc 6 1, 3)) ∧ (decode cX3_read 143 = .ok (.goto (-40), 3)) ∧ (decode cX3_read 146 = .ok (.iload 5, 2)) := by decide +kernel
theorem dX3_read_126 : decode cX3_read 126 = .ok (.getfield 43, 3) := dX3_read_126g.1
theorem dX3_read_129 : decode cX3_read 129 = .ok (.iconst 1, 1) := dX3_read_126g.2.1
theorem dX3_read_130 : decode cX3_read 130 = .ok (.iadd, 1) := dX3_read_126g.2.2.1
theorem dX3_read_131 : decode cX3_read 131 = .ok (.invokevirtual 66, 3) := dX3_read_126g.2.2.2.1
theorem dX3_read_134 : decode cX3_read 134 = .ok (.aload_n 0, 1) := dX3_read_126g.2.2.2.2.1
theorem dX3_read_135 : decode cX3_read 135 = .ok (.invokevirtual 70, 3) := dX3_read_126g.2.2.2.2.2.1
theorem dX3_read_138 : decode cX3_read 138 = .ok (.istore 5, 2) := dX3_read_126g.2.2.2.2.2.2.1
theorem dX3_read_140 : decode cX3_read 140 = .ok (.iinc 6 1, 3) := dX3_read_126g.2.2.2.2.2.2.2.1
theorem dX3_read_143 : decode cX3_read 143 = .ok (.goto (-40), 3) := dX3_read_126g.2.2.2.2.2.2.2.2.1
theorem dX3_read_146 : decode cX3_read 146 = .ok (.iload 5, 2) := dX3_read_126g.2.2.2.2.2.2.2.2.2
theorem dX3_read_148g : (decode cX3_read 148 = .ok (.ifCond .eq 41, 3)) ∧ (decode cX3_read 151 = .ok (.aload_n 0, 1)) ∧ (decode cX3_read 152 = .ok (.getfield 46, 3)) ∧ (decode cX3_read 155 = .ok (.iconst (-1), 1)) ∧ (decode cX3_read 156 = .ok (.if_icmp .ne 33, 3)) ∧ (decode cX3_read 159 = .ok (.new 74, 3)) ∧ (decode cX3_read 162 = .ok (.dup, 1)) ∧ (decode cX3_read 163 = .ok (.aload_n 0, 1)) ∧ (decode cX3_read 164 = .ok (.getfield 34, 3)) ∧ (decode cX3_read 167 = .ok (.aload_n 0, 1)) := by decide +kernel
theorem dX3_read_148 : decode cX3_read 148 = .ok (.ifCond .eq 41, 3) := dX3_read_148g.1
theorem dX3_read_151 : decode cX3_read 151 = .ok (.aload_n 0, 1) := dX3_read_148g.2.1
theorem dX3_read_152 : decode cX3_read 152 = .ok (.getfield 46, 3) := dX3_read_148g.2.2.1
theorem dX3_read_155 : decode cX3_read 155 = .ok (.iconst (-1), 1) := dX3_read_148g.2.2.2.1
theorem dX3_read_156 : decode cX3_read 156 = .ok (.if_icmp .ne 33, 3) := dX3_read_148g.2.2.2.2.1
theorem dX3_read_159 : decode cX3_read 159 = .ok (.new 74, 3) := dX3_read_148g.2.2.2.2.2.1
theorem dX3_read_162 : decode cX3_read 162 = .ok (.dup, 1) := dX3_read_148g.2.2.2.2.2.2.1
theorem dX3_read_163 : decode cX3_read 163 = .ok (.aload_n 0, 1) := dX3_read_148g.2.2.2.2.2.2.2.1
theorem dX3_read_164 : decode cX3_read 164 = .ok (.getfield 34, 3) := dX3_read_148g.2.2.2.2.2.2.2.2.1
theorem dX3_read_167 : decode cX3_read 167 = .ok (.aload_n 0, 1) := dX3_read_148g.2.2.2.2.2.2.2.2.2
theorem dX3_read_168g : (decode cX3_read 168 = .ok (.getfield 11, 3)) ∧ (decode cX3_read 171 = .ok (.aload_n 0, 1)) ∧ (decode cX3_read 172 = .ok (.getfield 15, 3)) ∧ (decode cX3_read 175 = .ok (.aload_n 0, 1)) ∧ (decode cX3_read 176 = .ok (.getfield 18, 3)) ∧ (decode cX3_read 179 = .ok (.aload_n 0, 1)) ∧ (decode cX3_read 180 = .ok (.getfield 40, 3)) ∧ (decode cX3_read 183 = .ok (.invokespecial 76, 3)) ∧ (decode cX3_read 186 = .ok (.goto 4, 3)) ∧ (decode cX3_read 189 = .ok (.aconst_null, 1)) := by decide +kernel
theorem dX3_read_168 : decode cX3_read 168 = .ok (.getfield 11, 3) := dX3_read_168g.1
theorem dX3_read_171 : decode cX3_read 171 = .ok (.aload_n 0, 1) := dX3_read_168g.2.1
theorem dX3_read_172 : decode cX3_read 172 = .ok (.getfield 15, 3) := dX3_read_168g.2.2.1
theorem dX3_read_175 : decode cX3_read 175 = .ok (.aload_n 0, 1) := dX3_read_168g.2.2.2.1
theorem dX3_read_176 : decode cX3_read 176 = .ok (.getfield 18, 3) := dX3_read_168g.2.2.2.2.1
theorem dX3_read_179 : decode cX3_read 179 = .ok (.aload_n 0, 1) := dX3_read_168g.2.2.2.2.2.1
theorem dX3_read_180 : decode cX3_read 180 = .ok (.getfield 40, 3) := dX3_read_168g.2.2.2.2.2.2.1
theorem dX3_read_183 : decode cX3_read 183 = .ok (.invokespecial 76, 3) := dX3_read_168g.2.2.2.2.2.2.2.1
theorem dX3_read_186 : decode cX3_read 186 = .ok (.goto 4, 3) := dX3_read_168g.2.2.2.2.2.2.2.2.1
theorem dX3_read_189 : decode cX3_read 189 = .ok (.aconst_null, 1) := dX3_read_168g.2.2.2.2.2.2.2.2.2
theorem dX3_read_190 : decode cX3_read 190 = .ok (.areturn, 1) := by decide +kernel
set_option maxHeartbeats 4000000 in
set_option maxRecDepth 100000 in
theorem c_X3_read (l : Launch) (E : Nat → Nat) (D : va_G) (Gi : th_G) (sz : Nat) (adK adV : Nat → Nat) (h0 : Nat) (hG0 : Gi h0 = some (7, 12)) (p1 : Nat) (hp1 : Gi p1 = some (16, 400)) (x2 : Int32) (zz : Nat) (hzz : x2.toInt = (zz : Int)) (hz4 : zz ≤ 400) : Met l yX3_read (tb (.code yX3_read cX3_read 7 (some (.object "NineRiver$Law")))) ({ frames := 48, cells := 4, slots := 441, locals := 1920 } : Room) (va_Pc [.ref h0, .ref p1, .int x2] (PLw E D Gi sz adK adV)) (QLx E D Gi sz (RDY E D h0 p1 zz)) 4 441 (nA Gi sz) := by
  refine Met.ofW (cc := cX3_read) (maxL := 7) (ret := (some (.object "NineRiver$Law"))) (by decide) rfl ?_
  intro p e s m args below meth c s₁ B hml hv
  obtain ⟨hav, rfl, ⟨hI, hN, hK⟩, hWS, hCL⟩ := hv
  have hx := B.exec
  have hb := B.bytes
  have hr := B.returns
  have hts := atoms_spec (ws := tb (.code yX3_read cX3_read 7 (some (.object "NineRiver$Law")))) B.pre
  have hown : s.vm.findClass RX3 = some m.cls := findClass_of_methodNamed B.named
  have hlocks := B.notSynchronized
  have hl := lv_entry ([.ref h0, .ref p1, .int x2]) (n := 7) (Nat.le_of_ble_eq_true rfl)
  rw [show entryFrame m args 7 = entryFrame m ([.ref h0, .ref p1, .int x2] : List Value).toArray 7 from by rw [hav], lg_entry_eq]
  generalize (lg_sl ([.ref h0, .ref p1, .int x2]) ++ List.replicate (7 - (lg_sl ([.ref h0, .ref p1, .int x2])).length) Slot.unset).toArray = ls at hl ⊢
  have hl : lv_has ls 7 [(0, .ref h0), (1, .ref p1), (2, .int x2)] := hl
  generalize hR : (headSpec (tb (.code yX3_read cX3_read 7 (some (.object "NineRiver$Law")))) ({ frames := 48, cells := 4, slots := 441, locals := 1920 } : Room)).room = R
  have hR := hR.symm
  generalize hAe : nA Gi s.heap.size = A at hWS
  have hA : ∀ q : Nat, s.heap.size ≤ q → A q := fun q h => by rw [← hAe]; exact Or.inr h
  have hS : va_S A s.heap s.heap [] := va_S.rf
  obtain ⟨G, hle0, hI, hAG, hG0, hp1⟩ : ∃ G, gle Gi G ∧ th_I (okC E) D G [] s.heap ∧ (∀ (r : Nat) (k : th_K), G r = some k → A r) ∧ G h0 = some (7, 12) ∧ G p1 = some (16, 400) := ⟨Gi, gle.rf, hI, fun r k h => by rw [← hAe]; exact Or.inl ⟨k, h⟩, hG0, hp1⟩
  generalize hQ : MQ below (QLx E D Gi s.heap.size (RDY E D h0 p1 zz)) args s 4 441 A = QF
  have hQ := hQ.symm
  have J_103 : ∀ (nn : Nat) (H : Heap) (locs : List Loc) (ls : Array Slot) (v2990 : Int32) (v2991 : Int32) (v2992 : Int32) (v2993 : Int32) (ft : Nat → Int32) (fp : Nat → Int32) (fn : Nat → Int32) (TT : Nat) (ZZ : Nat → Int) (YY : Nat → Bool) (XX : Nat × Bool) (pj : Nat) (nj : Nat) (Lj : Nat), (Int.toNat (13 - v2990.toInt) = nn) → lv_has ls 7 [(6, .int v2990), (5, .int v2991), (4, .int v2992), (3, .int v2993), (0, .ref h0), (1, .ref p1), (2, .int x2)] → ((1 : Int) ≤ v2990.toInt ∧ v2990.toInt ≤ 13) → ((0 : Int) ≤ v2991.toInt ∧ v2991.toInt ≤ 1) → ((0 : Int) ≤ v2992.toInt ∧ v2992.toInt ≤ 400) → ((0 : Int) ≤ v2993.toInt ∧ v2993.toInt ≤ 400) → (TK ft fn TT ZZ YY) → (tk_I (tC E p1) zz (fun j => (fp j).toInt) ZZ YY zz TT) → ((fp TT).toInt = (zz : Int)) → (pd_R ZZ YY TT (0, [], 0, 0) 0 = XX) → (SJ (v2991.toInt) (pd_R ZZ YY TT (5, [], nj, Lj) pj = XX ∧ (nj : Int) = v2990.toInt) (XX = (pj, false))) → (RC E D G h0 ft fp fn TT pj nj Lj H) → th_I (okC E) D G [] H → va_S A s.heap H locs → W p l e R s m args below meth c H locs 0 0 QF (F0 m 103 ls []) := by
    intro nn
    induction nn using Nat.strongRecOn with
    | ind nn ih_103 =>
      intro H locs ls v2990 v2991 v2992 v2993 ft fp fn TT ZZ YY XX pj nj Lj hm hl k2994 k2995 k2996 k2997 hTK hTCe hpe hXX hSJ hE hI hS
      obtain ⟨hT4, hn12, ⟨a2998, hf2999, hq3000, hA3001⟩, ⟨a3002, hf3003, hq3004, hA3005⟩, ⟨a3006, hf3007, hq3008, hA3009⟩, ⟨w3010, hg3011, k3012⟩, ⟨w3013, hg3014, k3015⟩, ⟨w3016, hg3017, k3018⟩, hpT, ⟨w3019, hg3020, k3021⟩, ⟨w3022, hg3023, k3024⟩⟩ := hE
      have k3025 := iv_lo w3016
      have k3026 := iv_hi w3016
      have k3027 := TK.at hTK hpT
      refine lv_iload hx hb dX3_read_103 (lv_at hl 1 rfl) ?_
      refine lv_if_eq (tgt := 146) hx hb dX3_read_105 (by decide) (fun c3028 => ?_) (fun c3028 => ?_)
      · skip
        have k3029 := iv_eq (X := v2991.toInt) (Y := (0)) rfl (by decide) c3028
        refine lv_iload hx hb dX3_read_146 (lv_at hl 1 rfl) ?_
        refine lv_if_eq (tgt := 189) hx hb dX3_read_148 (by decide) (fun c3030 => ?_) (fun c3030 => ?_)
        · skip
          have k3031 := iv_eq (X := v2991.toInt) (Y := (0)) rfl (by decide) c3030
          refine lv_null hx hb dX3_read_189 ?_
          have hY9 : RDY E D h0 p1 zz none G H := ⟨fun _ => ⟨ft, fp, fn, TT, pj, nj, Lj, ⟨by omega, by omega, ⟨a2998, hf2999, hq3000, hA3001⟩, ⟨a3002, hf3003, hq3004, hA3005⟩, ⟨a3006, hf3007, hq3008, hA3009⟩, ⟨w3010, hg3011, by first | omega | decide⟩, ⟨w3013, hg3014, by first | omega | decide⟩, ⟨w3016, hg3017, by first | omega | decide⟩, by omega, ⟨w3019, hg3020, by first | omega | decide⟩, ⟨w3022, hg3023, by first | omega | decide⟩⟩, ⟨TT, pj, fun j => (fp j).toInt, ZZ, YY, hTCe, hpe, hpT, hXX.trans (SJ_no hSJ (by first | exact Or.inl (by omega) | exact Or.inr (fun hpj hij => by first | (exfalso; omega) | exact hpj.symm.trans (pd_C_no (by omega) (by omega))))), rfl⟩⟩, fun _ h => by cases h⟩
          rw [hQ]
          refine W.widen (k := 4) (n := 441) (Nat.le_of_ble_eq_true rfl) (Nat.le_of_ble_eq_true rfl) ?_
          rw [← hAe] at hS ⊢
          exact th_aretq hx hb hr (r := none) (fun t ht hW => ⟨⟨none, (none, G), rfl, ⟨rfl, (fun _ h => by cases h), hle0, fun r k hr => nA_new (hAe ▸ hAG) hle0 hr⟩, ⟨by rw [ht]; exact hI, hN.warm hW, va_K.moved hW.alike hK⟩, by rw [ht]; exact hY9⟩, hS.F ht⟩) hS.2.2 dX3_read_190 hlocks
        · skip
          have k3032 := iv_ne (X := v2991.toInt) (Y := (0)) rfl (by decide) c3030
          exfalso; omega
      · skip
        have k3033 := iv_ne (X := v2991.toInt) (Y := (0)) rfl (by decide) c3028
        refine lv_aload_n hx hb dX3_read_108 rfl (lv_at hl 4 rfl) ?_
        refine gmIC hx hb hts inT3 hown hK hI List.not_mem_nil hG0 11 (by decide) (hts _ (tb_c wd_140)) rfl rfl dX3_read_109 (fun w3034 hg3035 k3036 k3037 => ?_)
        obtain rfl := gfC.uniq (by decide) hg3023 hg3035
        refine lv_bipush (v := 59) hx hb dX3_read_112 (by decide) ?_
        have k3038 := iv_lo w3022
        have k3039 := iv_hi w3022
        refine lv_icmp_ne (tgt := 146) hx hb dX3_read_114 (by decide) (fun c3040 => ?_) (fun c3040 => ?_)
        · skip
          have k3041 := iv_ne (X := w3022.toInt) (Y := (59)) rfl (by decide) c3040
          refine lv_iload hx hb dX3_read_146 (lv_at hl 1 rfl) ?_
          refine lv_if_eq (tgt := 189) hx hb dX3_read_148 (by decide) (fun c3042 => ?_) (fun c3042 => ?_)
          · skip
            have k3043 := iv_eq (X := v2991.toInt) (Y := (0)) rfl (by decide) c3042
            exfalso; omega
          · skip
            have k3044 := iv_ne (X := v2991.toInt) (Y := (0)) rfl (by decide) c3042
            refine lv_aload_n hx hb dX3_read_151 rfl (lv_at hl 4 rfl) ?_
            refine gmIC hx hb hts inT3 hown hK hI List.not_mem_nil hG0 11 (by decide) (hts _ (tb_c wd_140)) rfl rfl dX3_read_152 (fun w3045 hg3046 k3047 k3048 => ?_)
            obtain rfl := gfC.uniq (by decide) hg3023 hg3046
            refine lv_iconst (v := (-1)) hx hb dX3_read_155 (by decide) ?_
            refine lv_icmp_ne (tgt := 189) hx hb dX3_read_156 (by decide) (fun c3049 => ?_) (fun c3049 => ?_)
            · skip
              have k3050 := iv_ne (X := w3022.toInt) (Y := (-1)) rfl (by decide) c3049
              refine lv_null hx hb dX3_read_189 ?_
              have hY9 : RDY E D h0 p1 zz none G H := ⟨fun _ => ⟨ft, fp, fn, TT, pj, nj, Lj, ⟨by omega, by omega, ⟨a2998, hf2999, hq3000, hA3001⟩, ⟨a3002, hf3003, hq3004, hA3005⟩, ⟨a3006, hf3007, hq3008, hA3009⟩, ⟨w3010, hg3011, by first | omega | decide⟩, ⟨w3013, hg3014, by first | omega | decide⟩, ⟨w3016, hg3017, by first | omega | decide⟩, by omega, ⟨w3019, hg3020, by first | omega | decide⟩, ⟨w3022, hg3023, by first | omega | decide⟩⟩, ⟨TT, pj, fun j => (fp j).toInt, ZZ, YY, hTCe, hpe, hpT, hXX.trans (SJ_no hSJ (by first | exact Or.inl (by omega) | exact Or.inr (fun hpj hij => by first | (exfalso; omega) | exact hpj.symm.trans (pd_C_no (by omega) (by omega))))), rfl⟩⟩, fun _ h => by cases h⟩
              rw [hQ]
              refine W.widen (k := 4) (n := 441) (Nat.le_of_ble_eq_true rfl) (Nat.le_of_ble_eq_true rfl) ?_
              rw [← hAe] at hS ⊢
              exact th_aretq hx hb hr (r := none) (fun t ht hW => ⟨⟨none, (none, G), rfl, ⟨rfl, (fun _ h => by cases h), hle0, fun r k hr => nA_new (hAe ▸ hAG) hle0 hr⟩, ⟨by rw [ht]; exact hI, hN.warm hW, va_K.moved hW.alike hK⟩, by rw [ht]; exact hY9⟩, hS.F ht⟩) hS.2.2 dX3_read_190 hlocks
            · skip
              have k3051 := iv_eq (X := w3022.toInt) (Y := (-1)) rfl (by decide) c3049
              refine th_newo (ci := 2) (fs := [.int 0, .null, .null, .null]) hx hb hts inT2 tyX2 tyX2_ok hown (hts _ (tb_c wd_747)) (hts _ (tb_c wd_748)) (hts _ (tb_c wd_20)) hK hI hS rfl (fun j hj => by rcases (show j = 0 ∨ j = 1 ∨ j = 2 ∨ j = 3 by omega) with rfl | rfl | rfl | rfl <;> rfl) (by rw [hR]; exact Nat.le_of_ble_eq_true rfl) (by rw [hR]; exact Nat.le_of_ble_eq_true rfl) dX3_read_159 (fun a3052 H hqe hnn hnsz hOn o1 hI hS => ?_)
              have hnsz9 := hnsz
              refine lv_dup hx hb dX3_read_162 rfl ?_
              refine lv_aload_n hx hb dX3_read_163 rfl (lv_at hl 4 rfl) ?_
              obtain ⟨a3053, a3055, a3057, a3059, a3061, a3063, w3065, w3068, w3071, w3072, w3075, w3076, hO, hq3054, hq3056, hq3058, hq3060, hq3062, hq3064, ⟨k3066, k3067⟩, ⟨k3069, k3070⟩, ⟨k3073, k3074⟩, k3077⟩ := op_7 hI hG0 List.not_mem_nil
              have hI := th_I.weak (a := h0) hI
              refine th_get hx hb hts inT3 hown hK hO rfl 7 (by decide) (hts _ (tb_c wd_136)) rfl rfl dX3_read_164 ?_
              refine lv_aload_n hx hb dX3_read_167 rfl (lv_at hl 4 rfl) ?_
              refine th_get hx hb hts inT3 hown hK hO rfl 0 (by decide) (hts _ (tb_c wd_129)) rfl rfl dX3_read_168 ?_
              refine lv_aload_n hx hb dX3_read_171 rfl (lv_at hl 4 rfl) ?_
              refine th_get hx hb hts inT3 hown hK hO rfl 1 (by decide) (hts _ (tb_c wd_130)) rfl rfl dX3_read_172 ?_
              refine lv_aload_n hx hb dX3_read_175 rfl (lv_at hl 4 rfl) ?_
              refine th_get hx hb hts inT3 hown hK hO rfl 2 (by decide) (hts _ (tb_c wd_131)) rfl rfl dX3_read_176 ?_
              refine lv_aload_n hx hb dX3_read_179 rfl (lv_at hl 4 rfl) ?_
              refine th_get hx hb hts inT3 hown hK hO rfl 9 (by decide) (hts _ (tb_c wd_138)) rfl rfl dX3_read_180 ?_
              have hI := th_I.close hI hG0 hO (ok_7 hq3054 hq3056 hq3058 hq3060 hq3062 hq3064 ⟨by omega, by omega⟩ ⟨by omega, by omega⟩ ⟨by omega, by omega⟩ (by omega))
              refine th_cL (As := [.int w3068, .ref a3053, .ref a3055, .ref a3057, .int w3072]) (rest := [.ref a3052]) (n := 5) ⟨hx, hb, hml, hown, hts⟩ (c_X2_init l E D G a3052 H.size hnn w3068 a3053 hq3054 a3055 hq3056 a3057 hq3058 w3072) wd_749 wd_750 wd_20 wd_751 (by decide +kernel) ⟨by rw [hR]; exact Nat.le_of_ble_eq_true rfl, by rw [hR]; exact Nat.le_of_ble_eq_true rfl⟩ hI hN hCL hK hOn hnn hnsz hS hA hAG rfl hl.1 rfl (Nat.le_of_ble_eq_true rfl) dX3_read_183 ⟨by rw [hR]; exact Nat.le_of_ble_eq_true rfl, by rw [hR]; exact Nat.le_of_ble_eq_true rfl⟩ (fun G H locs N3079 hle hq3078 hAG hI hS => ?_)
              have hG0 := hle _ _ hG0
              have hp1 := hle _ _ hp1
              have hle0 := hle0.tr hle
              refine lv_goto (tgt := 190) hx hb dX3_read_186 (by decide) ?_
              have hY9 : RDY E D h0 p1 zz (some a3052) G H := ⟨fun h => (Option.some_ne_none _ h).elim, fun _ _ => ⟨_, ⟨TT, pj, fun j => (fp j).toInt, ZZ, YY, hTCe, hpe, hpT, hXX.trans ((SJ_in hSJ (by omega)).1.symm.trans (pd_C_end (by omega))), rfl⟩⟩⟩
              rw [hQ]
              refine W.widen (k := 4) (n := 441) (Nat.le_of_ble_eq_true rfl) (Nat.le_of_ble_eq_true rfl) ?_
              rw [← hAe] at hS ⊢
              exact th_aretq hx hb hr (r := (some a3052)) (fun t ht hW => ⟨⟨(some a3052), ((some a3052), G), rfl, ⟨rfl, (fun _ h => by cases h; exact ⟨_, hq3078⟩), hle0, fun r k hr => nA_new (hAe ▸ hAG) hle0 hr⟩, ⟨by rw [ht]; exact hI, hN.warm hW, va_K.moved hW.alike hK⟩, by rw [ht]; exact hY9⟩, hS.F ht⟩) hS.2.2 dX3_read_190 hlocks
        · skip
          have k3080 := iv_eq (X := w3022.toInt) (Y := (59)) rfl (by decide) c3040
          refine lv_iload hx hb dX3_read_117 (lv_at hl 0 rfl) ?_
          refine lv_bipush (v := 12) hx hb dX3_read_119 (by decide) ?_
          refine lv_icmp_gt (tgt := 146) hx hb dX3_read_121 (by decide) (fun c3081 => ?_) (fun c3081 => ?_)
          · skip
            have k3082 := iv_lt (X := (12)) (Y := v2990.toInt) (by decide) rfl c3081
            refine lv_iload hx hb dX3_read_146 (lv_at hl 1 rfl) ?_
            refine lv_if_eq (tgt := 189) hx hb dX3_read_148 (by decide) (fun c3083 => ?_) (fun c3083 => ?_)
            · skip
              have k3084 := iv_eq (X := v2991.toInt) (Y := (0)) rfl (by decide) c3083
              exfalso; omega
            · skip
              have k3085 := iv_ne (X := v2991.toInt) (Y := (0)) rfl (by decide) c3083
              refine lv_aload_n hx hb dX3_read_151 rfl (lv_at hl 4 rfl) ?_
              refine gmIC hx hb hts inT3 hown hK hI List.not_mem_nil hG0 11 (by decide) (hts _ (tb_c wd_140)) rfl rfl dX3_read_152 (fun w3086 hg3087 k3088 k3089 => ?_)
              obtain rfl := gfC.uniq (by decide) hg3023 hg3087
              refine lv_iconst (v := (-1)) hx hb dX3_read_155 (by decide) ?_
              refine lv_icmp_ne (tgt := 189) hx hb dX3_read_156 (by decide) (fun c3090 => ?_) (fun c3090 => ?_)
              · skip
                have k3091 := iv_ne (X := w3022.toInt) (Y := (-1)) rfl (by decide) c3090
                refine lv_null hx hb dX3_read_189 ?_
                have hY9 : RDY E D h0 p1 zz none G H := ⟨fun _ => ⟨ft, fp, fn, TT, pj, nj, Lj, ⟨by omega, by omega, ⟨a2998, hf2999, hq3000, hA3001⟩, ⟨a3002, hf3003, hq3004, hA3005⟩, ⟨a3006, hf3007, hq3008, hA3009⟩, ⟨w3010, hg3011, by first | omega | decide⟩, ⟨w3013, hg3014, by first | omega | decide⟩, ⟨w3016, hg3017, by first | omega | decide⟩, by omega, ⟨w3019, hg3020, by first | omega | decide⟩, ⟨w3022, hg3023, by first | omega | decide⟩⟩, ⟨TT, pj, fun j => (fp j).toInt, ZZ, YY, hTCe, hpe, hpT, hXX.trans (SJ_no hSJ (by first | exact Or.inl (by omega) | exact Or.inr (fun hpj hij => by first | (exfalso; omega) | exact hpj.symm.trans (pd_C_no (by omega) (by omega))))), rfl⟩⟩, fun _ h => by cases h⟩
                rw [hQ]
                refine W.widen (k := 4) (n := 441) (Nat.le_of_ble_eq_true rfl) (Nat.le_of_ble_eq_true rfl) ?_
                rw [← hAe] at hS ⊢
                exact th_aretq hx hb hr (r := none) (fun t ht hW => ⟨⟨none, (none, G), rfl, ⟨rfl, (fun _ h => by cases h), hle0, fun r k hr => nA_new (hAe ▸ hAG) hle0 hr⟩, ⟨by rw [ht]; exact hI, hN.warm hW, va_K.moved hW.alike hK⟩, by rw [ht]; exact hY9⟩, hS.F ht⟩) hS.2.2 dX3_read_190 hlocks
              · skip
                have k3092 := iv_eq (X := w3022.toInt) (Y := (-1)) rfl (by decide) c3090
                exfalso; omega
          · skip
            have k3093 := iv_nlt (X := (12)) (Y := v2990.toInt) (by decide) rfl c3081
            refine lv_aload_n hx hb dX3_read_124 rfl (lv_at hl 4 rfl) ?_
            refine lv_aload_n hx hb dX3_read_125 rfl (lv_at hl 4 rfl) ?_
            refine gmIC hx hb hts inT3 hown hK hI List.not_mem_nil hG0 10 (by decide) (hts _ (tb_c wd_139)) rfl rfl dX3_read_126 (fun w3094 hg3095 k3096 k3097 => ?_)
            obtain rfl := gfC.uniq (by decide) hg3020 hg3095
            refine lv_iconst (v := 1) hx hb dX3_read_129 (by decide) ?_
            refine lv_iadd hx hb dX3_read_130 ?_
            refine lv_topi (fun v3098 e3099 => ?_)
            have tv3098 : v3098.toInt = w3019.toInt + (1) := iv_add rfl (by decide) e3099 (by omega) (by omega)
            obtain ⟨hpj, hij⟩ := SJ_in hSJ (by omega)
            have hpd3100 : pd_R ZZ YY TT (0, [], nj, Lj) (pj + 1) = XX := (pd_C_se (by omega) (by omega)).symm.trans hpj
            refine nx_vA (As := [.int v3098]) (rest := []) (n := 1) (d := 0) ⟨hx, hb, hml, hown, hts⟩ (c_X3_moveTo l E D G h0 hG0 v3098 ft fp fn TT (pj + 1) nj Lj (by first | omega | decide) (by omega)) wd_707 wd_709 wp_13 wd_5 wd_710 (by decide +kernel) ⟨by rw [hR]; exact Nat.le_of_ble_eq_true rfl, by rw [hR]; exact Nat.le_of_ble_eq_true rfl⟩ hI hN hK hS hAG hG0 (⟨by omega, by omega, ⟨a2998, hf2999, hq3000, hA3001⟩, ⟨a3002, hf3003, hq3004, hA3005⟩, ⟨a3006, hf3007, hq3008, hA3009⟩, ⟨w3010, hg3011, by first | omega | decide⟩, ⟨w3013, hg3014, by first | omega | decide⟩, ⟨w3016, hg3017, by first | omega | decide⟩⟩) rfl hl.1 rfl (Nat.le_of_ble_eq_true rfl) dX3_read_131 ⟨by rw [hR]; exact Nat.le_of_ble_eq_true rfl, by rw [hR]; exact Nat.le_of_ble_eq_true rfl⟩ (fun H locs hI hp hS => ?_)
            obtain ⟨hT4, hn12, ⟨a3102, hf3103, hq3104, hA3105⟩, ⟨a3106, hf3107, hq3108, hA3109⟩, ⟨a3110, hf3111, hq3112, hA3113⟩, ⟨w3114, hg3115, k3116⟩, ⟨w3117, hg3118, k3119⟩, ⟨w3120, hg3121, k3122⟩, hpT, ⟨w3123, hg3124, k3125⟩, ⟨w3126, hg3127, k3128⟩⟩ := hp
            have k3129 := iv_lo w3120
            have k3130 := iv_hi w3120
            have k3131 := TK.at hTK hpT
            refine lv_aload_n hx hb dX3_read_134 rfl (lv_at hl 4 rfl) ?_
            refine nx_iA (As := []) (rest := []) (n := 0) (d := 47) ⟨hx, hb, hml, hown, hts⟩ (c_X3_clause l E D G h0 hG0  ft fp fn TT (pj + 1) nj Lj ZZ YY nj XX hTK (by omega) hpd3100) wd_711 wd_713 wp_14 wd_5 wd_714 (by decide +kernel) ⟨by rw [hR]; exact Nat.le_of_ble_eq_true rfl, by rw [hR]; exact Nat.le_of_ble_eq_true rfl⟩ hI hN hK hS hAG hG0 (⟨by omega, by omega, ⟨a3102, hf3103, hq3104, hA3105⟩, ⟨a3106, hf3107, hq3108, hA3109⟩, ⟨a3110, hf3111, hq3112, hA3113⟩, ⟨w3114, hg3115, by first | omega | decide⟩, ⟨w3117, hg3118, by first | omega | decide⟩, ⟨w3120, hg3121, by first | omega | decide⟩, by omega, ⟨w3123, hg3124, by first | omega | decide⟩, ⟨w3126, hg3127, by first | omega | decide⟩⟩) rfl hl.1 rfl (Nat.le_of_ble_eq_true rfl) dX3_read_135 ⟨by rw [hR]; exact Nat.le_of_ble_eq_true rfl, by rw [hR]; exact Nat.le_of_ble_eq_true rfl⟩ (fun r3132 H locs hI hp hS => ?_)
            rcases hp with ⟨rfl, hp⟩ | ⟨rfl, hp⟩
            · skip
              try simp only [rg, not_and, Int.not_le] at hp
              have hp3133 := hp
              obtain ⟨pn3134, Ln3135, hE, k3136, hpd3137⟩ := hp3133
              have hp3133 : True := trivial
              obtain ⟨hT4, hn12, ⟨a3138, hf3139, hq3140, hA3141⟩, ⟨a3142, hf3143, hq3144, hA3145⟩, ⟨a3146, hf3147, hq3148, hA3149⟩, ⟨w3150, hg3151, k3152⟩, ⟨w3153, hg3154, k3155⟩, ⟨w3156, hg3157, k3158⟩, hpT, ⟨w3159, hg3160, k3161⟩, ⟨w3162, hg3163, k3164⟩⟩ := hE
              have k3165 := iv_lo w3156
              have k3166 := iv_hi w3156
              have k3167 := TK.at hTK hpT
              refine lv_istore (lv' := [(5, .int 1), (6, .int v2990), (4, .int v2992), (3, .int v2993), (0, .ref h0), (1, .ref p1), (2, .int x2)]) hx hb dX3_read_138 hl (by decide) rfl (fun ls hl => ?_)
              obtain ⟨v3168, e3169⟩ : ∃ y : Int32, y = v2990 + (1) := ⟨_, rfl⟩
              have tv3168 : v3168.toInt = v2990.toInt + (1) := iv_add rfl (by decide) e3169 (by omega) (by omega)
              refine lv_iinc (v := v3168) (lv' := [(6, .int v3168), (5, .int 1), (4, .int v2992), (3, .int v2993), (0, .ref h0), (1, .ref p1), (2, .int x2)]) hx hb dX3_read_140 hl (k := 1) rfl (by rw [e3169]; rfl) (by decide) rfl (fun ls hl => ?_)
              refine lv_goto (tgt := 103) hx hb dX3_read_143 (by decide) ?_
              exact ih_103 _ (by omega) H locs ls v3168 1 v2992 v2993 ft fp fn TT ZZ YY XX pn3134 (nj + 1) Ln3135 rfl (lv_sub hl [0, 1, 2, 3, 4, 5, 6] rfl) ⟨by omega, by omega⟩ ⟨by decide, by decide⟩ ⟨by omega, by omega⟩ ⟨by omega, by omega⟩ (hTK) (hTCe) (hpe) (hXX) (Or.inl ⟨by first | decide | omega, hpd3137, by first | omega | decide⟩) (⟨by omega, by omega, ⟨a3138, hf3139, hq3140, hA3141⟩, ⟨a3142, hf3143, hq3144, hA3145⟩, ⟨a3146, hf3147, hq3148, hA3149⟩, ⟨w3150, hg3151, by first | omega | decide⟩, ⟨w3153, hg3154, by first | omega | decide⟩, ⟨w3156, hg3157, by first | omega | decide⟩, by omega, ⟨w3159, hg3160, by first | omega | decide⟩, ⟨w3162, hg3163, by first | omega | decide⟩⟩) hI hS
            · skip
              try simp only [rg, not_and, Int.not_le] at hp
              have hp3170 := hp
              obtain ⟨pn3171, Ln3172, hE, k3173, hfl3174⟩ := hp3170
              have hp3170 : True := trivial
              obtain ⟨hT4, hn12, ⟨a3175, hf3176, hq3177, hA3178⟩, ⟨a3179, hf3180, hq3181, hA3182⟩, ⟨a3183, hf3184, hq3185, hA3186⟩, ⟨w3187, hg3188, k3189⟩, ⟨w3190, hg3191, k3192⟩, ⟨w3193, hg3194, k3195⟩, hpT, ⟨w3196, hg3197, k3198⟩, ⟨w3199, hg3200, k3201⟩⟩ := hE
              have k3202 := iv_lo w3193
              have k3203 := iv_hi w3193
              have k3204 := TK.at hTK hpT
              refine lv_istore (lv' := [(5, .int 0), (6, .int v2990), (4, .int v2992), (3, .int v2993), (0, .ref h0), (1, .ref p1), (2, .int x2)]) hx hb dX3_read_138 hl (by decide) rfl (fun ls hl => ?_)
              obtain ⟨v3205, e3206⟩ : ∃ y : Int32, y = v2990 + (1) := ⟨_, rfl⟩
              have tv3205 : v3205.toInt = v2990.toInt + (1) := iv_add rfl (by decide) e3206 (by omega) (by omega)
              refine lv_iinc (v := v3205) (lv' := [(6, .int v3205), (5, .int 0), (4, .int v2992), (3, .int v2993), (0, .ref h0), (1, .ref p1), (2, .int x2)]) hx hb dX3_read_140 hl (k := 1) rfl (by rw [e3206]; rfl) (by decide) rfl (fun ls hl => ?_)
              refine lv_goto (tgt := 103) hx hb dX3_read_143 (by decide) ?_
              exact ih_103 _ (by omega) H locs ls v3205 0 v2992 v2993 ft fp fn TT ZZ YY XX pn3171 nj Ln3172 rfl (lv_sub hl [0, 1, 2, 3, 4, 5, 6] rfl) ⟨by omega, by omega⟩ ⟨by decide, by decide⟩ ⟨by omega, by omega⟩ ⟨by omega, by omega⟩ (hTK) (hTCe) (hpe) (hXX) (Or.inr ⟨by first | decide | omega, hfl3174⟩) (⟨by omega, by omega, ⟨a3175, hf3176, hq3177, hA3178⟩, ⟨a3179, hf3180, hq3181, hA3182⟩, ⟨a3183, hf3184, hq3185, hA3186⟩, ⟨w3187, hg3188, by first | omega | decide⟩, ⟨w3190, hg3191, by first | omega | decide⟩, ⟨w3193, hg3194, by first | omega | decide⟩, by omega, ⟨w3196, hg3197, by first | omega | decide⟩, ⟨w3199, hg3200, by first | omega | decide⟩⟩) hI hS
  have J_25 : ∀ (nn : Nat) (H : Heap) (locs : List Loc) (ls : Array Slot) (v3207 : Int32) (v3208 : Int32) (kk : Nat) (tt : Nat) (ft : Nat → Int32) (fp : Nat → Int32) (fn : Nat → Int32), (Int.toNat (v3208.toInt - v3207.toInt) = nn) → lv_has ls 7 [(4, .int v3207), (3, .int v3208), (0, .ref h0), (1, .ref p1), (2, .int x2)] → ((0 : Int) ≤ v3207.toInt ∧ v3207.toInt ≤ 400) → ((0 : Int) ≤ v3208.toInt ∧ v3208.toInt ≤ 400) → (v3208.toInt = (zz : Int)) → (v3207.toInt = (kk : Int)) → ((RT E D G h0 ft fp fn tt H ∧ TC_ E p1 zz fp ft fn kk tt ∧ CKI ft tt)) → th_I (okC E) D G [] H → va_S A s.heap H locs → W p l e R s m args below meth c H locs 0 0 QF (F0 m 25 ls []) := by
    intro nn
    induction nn using Nat.strongRecOn with
    | ind nn ih_25 =>
      intro H locs ls v3207 v3208 kk tt ft fp fn hm hl k3209 k3210 hk3 hk4 hE9 hI hS
      obtain ⟨hRT, hTC, hCK⟩ := hE9
      obtain ⟨ht401, ⟨a3211, hf3212, hq3213, hA3214⟩, ⟨a3215, hf3216, hq3217, hA3218⟩, ⟨a3219, hf3220, hq3221, hA3222⟩, ⟨w3223, hg3224, k3225⟩⟩ := hRT
      have htc := tk_I.le hTC
      refine lv_iload hx hb dX3_read_25 (lv_at hl 0 rfl) ?_
      refine lv_iload_n hx hb dX3_read_27 rfl (lv_at hl 1 rfl) ?_
      refine lv_icmp_ge (tgt := 67) hx hb dX3_read_28 (by decide) (fun c3226 => ?_) (fun c3226 => ?_)
      · skip
        have k3227 := iv_le (X := v3208.toInt) (Y := v3207.toInt) rfl rfl c3226
        have hkz : kk = zz := by omega
        rw [hkz] at hTC
        refine lv_aload_n hx hb dX3_read_67 rfl (lv_at hl 2 rfl) ?_
        refine lv_iconst (v := (-1)) hx hb dX3_read_68 (by decide) ?_
        refine lv_iload_n hx hb dX3_read_69 rfl (lv_at hl 1 rfl) ?_
        refine lv_iconst (v := 0) hx hb dX3_read_70 (by decide) ?_
        refine nx_vA (As := [.int (-1), .int v3208, .int 0]) (rest := []) (n := 3) (d := 0) ⟨hx, hb, hml, hown, hts⟩ (c_X3_addToken l E D G h0 hG0 (-1) v3208 0 ft fp fn tt (by omega)) wd_700 wd_702 wp_12 wd_5 wd_703 (by decide +kernel) ⟨by rw [hR]; exact Nat.le_of_ble_eq_true rfl, by rw [hR]; exact Nat.le_of_ble_eq_true rfl⟩ hI hN hK hS hAG hG0 (⟨by omega, ⟨a3211, hf3212, hq3213, hA3214⟩, ⟨a3215, hf3216, hq3217, hA3218⟩, ⟨a3219, hf3220, hq3221, hA3222⟩, ⟨w3223, hg3224, by first | omega | decide⟩⟩) rfl hl.1 rfl (Nat.le_of_ble_eq_true rfl) dX3_read_71 ⟨by rw [hR]; exact Nat.le_of_ble_eq_true rfl, by rw [hR]; exact Nat.le_of_ble_eq_true rfl⟩ (fun H locs hI hp hS => ?_)
        obtain ⟨ft, fp, fn, hE, hAT3229⟩ := hp
        obtain ⟨ht401, ⟨a3230, hf3231, hq3232, hA3233⟩, ⟨a3234, hf3235, hq3236, hA3237⟩, ⟨a3238, hf3239, hq3240, hA3241⟩, ⟨w3242, hg3243, k3244⟩⟩ := hE
        obtain ⟨TT, rfl⟩ : ∃ T : Nat, T = tt := ⟨tt, rfl⟩
        obtain ⟨ZZ, hZZ⟩ : ∃ Z : Nat → Int, Z = fun j => zc (ft j).toInt := ⟨_, rfl⟩
        obtain ⟨YY, hYY⟩ : ∃ Y : Nat → Bool, Y = YV fn := ⟨_, rfl⟩
        obtain ⟨XX, hXX⟩ : ∃ X : Nat × Bool, pd_R ZZ YY TT (0, [], 0, 0) 0 = X := ⟨_, rfl⟩
        have hTCe : tk_I (tC E p1) zz (fun j => (fp j).toInt) ZZ YY zz TT := by rw [hZZ, hYY]; exact tk_I.upd hTC (fun j hj => TC_ne hAT3229 hj)
        have hpe : (fp TT).toInt = (zz : Int) := by rw [hAT3229.2.2.1]; omega
        have hTK : TK ft fn TT ZZ YY := by rw [hZZ, hYY]; exact ⟨by rw [hAT3229.2.1]; decide, fun j hj => ⟨CKI_ne hCK hAT3229 j hj, YV_t⟩⟩
        refine lv_aload_n hx hb dX3_read_74 rfl (lv_at hl 2 rfl) ?_
        refine lv_iconst (v := 0) hx hb dX3_read_75 (by decide) ?_
        refine pmIC (ty := .int) hx hb hts inT3 hown hK hI List.not_mem_nil hG0 hS (hAG _ _ hG0) 7 (by decide) (hts _ (tb_c wd_136)) rfl rfl (by decide +kernel) rfl rfl rfl (by decide) (by decide) dX3_read_76 (fun H locs hI hgP hS => ?_)
        have hg3243 := hgP.2.2.1 6 _ (by decide) (by decide) hg3243
        have hg3245 := hgP.2.1
        have hf3231 := hgP.2.2.2 3 _ (by decide) (by decide) hf3231
        have hf3235 := hgP.2.2.2 4 _ (by decide) (by decide) hf3235
        have hf3239 := hgP.2.2.2 5 _ (by decide) (by decide) hf3239
        have hA3233 := va_at.kept hA3233 (hgP.1 _ (m_ne hq3232 hG0 (by first | decide | (dsimp only; decide))))
        have hA3237 := va_at.kept hA3237 (hgP.1 _ (m_ne hq3236 hG0 (by first | decide | (dsimp only; decide))))
        have hA3241 := va_at.kept hA3241 (hgP.1 _ (m_ne hq3240 hG0 (by first | decide | (dsimp only; decide))))
        refine lv_aload_n hx hb dX3_read_79 rfl (lv_at hl 2 rfl) ?_
        refine lv_iconst (v := 0) hx hb dX3_read_80 (by decide) ?_
        refine pmIC (ty := .int) hx hb hts inT3 hown hK hI List.not_mem_nil hG0 hS (hAG _ _ hG0) 8 (by decide) (hts _ (tb_c wd_137)) rfl rfl (by decide +kernel) rfl rfl rfl (by decide) (by decide) dX3_read_81 (fun H locs hI hgP hS => ?_)
        have hg3243 := hgP.2.2.1 6 _ (by decide) (by decide) hg3243
        have hg3245 := hgP.2.2.1 7 _ (by decide) (by decide) hg3245
        have hg3246 := hgP.2.1
        have hf3231 := hgP.2.2.2 3 _ (by decide) (by decide) hf3231
        have hf3235 := hgP.2.2.2 4 _ (by decide) (by decide) hf3235
        have hf3239 := hgP.2.2.2 5 _ (by decide) (by decide) hf3239
        have hA3233 := va_at.kept hA3233 (hgP.1 _ (m_ne hq3232 hG0 (by first | decide | (dsimp only; decide))))
        have hA3237 := va_at.kept hA3237 (hgP.1 _ (m_ne hq3236 hG0 (by first | decide | (dsimp only; decide))))
        have hA3241 := va_at.kept hA3241 (hgP.1 _ (m_ne hq3240 hG0 (by first | decide | (dsimp only; decide))))
        refine lv_aload_n hx hb dX3_read_84 rfl (lv_at hl 2 rfl) ?_
        refine lv_iconst (v := 0) hx hb dX3_read_85 (by decide) ?_
        refine pmIC (ty := .int) hx hb hts inT3 hown hK hI List.not_mem_nil hG0 hS (hAG _ _ hG0) 9 (by decide) (hts _ (tb_c wd_138)) rfl rfl (by decide +kernel) rfl rfl rfl (by decide) (by decide) dX3_read_86 (fun H locs hI hgP hS => ?_)
        have hg3243 := hgP.2.2.1 6 _ (by decide) (by decide) hg3243
        have hg3245 := hgP.2.2.1 7 _ (by decide) (by decide) hg3245
        have hg3246 := hgP.2.2.1 8 _ (by decide) (by decide) hg3246
        have hg3247 := hgP.2.1
        have hf3231 := hgP.2.2.2 3 _ (by decide) (by decide) hf3231
        have hf3235 := hgP.2.2.2 4 _ (by decide) (by decide) hf3235
        have hf3239 := hgP.2.2.2 5 _ (by decide) (by decide) hf3239
        have hA3233 := va_at.kept hA3233 (hgP.1 _ (m_ne hq3232 hG0 (by first | decide | (dsimp only; decide))))
        have hA3237 := va_at.kept hA3237 (hgP.1 _ (m_ne hq3236 hG0 (by first | decide | (dsimp only; decide))))
        have hA3241 := va_at.kept hA3241 (hgP.1 _ (m_ne hq3240 hG0 (by first | decide | (dsimp only; decide))))
        refine lv_aload_n hx hb dX3_read_89 rfl (lv_at hl 2 rfl) ?_
        refine lv_iconst (v := 0) hx hb dX3_read_90 (by decide) ?_
        refine nx_vA (As := [.int 0]) (rest := []) (n := 1) (d := 0) ⟨hx, hb, hml, hown, hts⟩ (c_X3_moveTo l E D G h0 hG0 0 ft fp fn TT 0 0 0 (by first | omega | decide) (by omega)) wd_707 wd_709 wp_13 wd_5 wd_710 (by decide +kernel) ⟨by rw [hR]; exact Nat.le_of_ble_eq_true rfl, by rw [hR]; exact Nat.le_of_ble_eq_true rfl⟩ hI hN hK hS hAG hG0 (⟨by omega, by omega, ⟨a3230, hf3231, hq3232, hA3233⟩, ⟨a3234, hf3235, hq3236, hA3237⟩, ⟨a3238, hf3239, hq3240, hA3241⟩, ⟨w3242, hg3243, by first | omega | decide⟩, ⟨0, hg3245, by first | omega | decide⟩, ⟨0, hg3246, by first | omega | decide⟩⟩) rfl hl.1 rfl (Nat.le_of_ble_eq_true rfl) dX3_read_91 ⟨by rw [hR]; exact Nat.le_of_ble_eq_true rfl, by rw [hR]; exact Nat.le_of_ble_eq_true rfl⟩ (fun H locs hI hp hS => ?_)
        obtain ⟨hT4, hn12, ⟨a3249, hf3250, hq3251, hA3252⟩, ⟨a3253, hf3254, hq3255, hA3256⟩, ⟨a3257, hf3258, hq3259, hA3260⟩, ⟨w3261, hg3262, k3263⟩, ⟨w3264, hg3265, k3266⟩, ⟨w3267, hg3268, k3269⟩, hpT, ⟨w3270, hg3271, k3272⟩, ⟨w3273, hg3274, k3275⟩⟩ := hp
        have k3276 := iv_lo w3267
        have k3277 := iv_hi w3267
        have k3278 := TK.at hTK hpT
        refine lv_aload_n hx hb dX3_read_94 rfl (lv_at hl 2 rfl) ?_
        refine nx_iA (As := []) (rest := []) (n := 0) (d := 47) ⟨hx, hb, hml, hown, hts⟩ (c_X3_clause l E D G h0 hG0  ft fp fn TT 0 0 0 ZZ YY 0 XX hTK (by omega) hXX) wd_711 wd_713 wp_14 wd_5 wd_714 (by decide +kernel) ⟨by rw [hR]; exact Nat.le_of_ble_eq_true rfl, by rw [hR]; exact Nat.le_of_ble_eq_true rfl⟩ hI hN hK hS hAG hG0 (⟨by omega, by omega, ⟨a3249, hf3250, hq3251, hA3252⟩, ⟨a3253, hf3254, hq3255, hA3256⟩, ⟨a3257, hf3258, hq3259, hA3260⟩, ⟨w3261, hg3262, by first | omega | decide⟩, ⟨w3264, hg3265, by first | omega | decide⟩, ⟨w3267, hg3268, by first | omega | decide⟩, by omega, ⟨w3270, hg3271, by first | omega | decide⟩, ⟨w3273, hg3274, by first | omega | decide⟩⟩) rfl hl.1 rfl (Nat.le_of_ble_eq_true rfl) dX3_read_95 ⟨by rw [hR]; exact Nat.le_of_ble_eq_true rfl, by rw [hR]; exact Nat.le_of_ble_eq_true rfl⟩ (fun r3279 H locs hI hp hS => ?_)
        rcases hp with ⟨rfl, hp⟩ | ⟨rfl, hp⟩
        · skip
          try simp only [rg, not_and, Int.not_le] at hp
          have hp3280 := hp
          obtain ⟨pn3281, Ln3282, hE, k3283, hpd3284⟩ := hp3280
          have hp3280 : True := trivial
          obtain ⟨hT4, hn12, ⟨a3285, hf3286, hq3287, hA3288⟩, ⟨a3289, hf3290, hq3291, hA3292⟩, ⟨a3293, hf3294, hq3295, hA3296⟩, ⟨w3297, hg3298, k3299⟩, ⟨w3300, hg3301, k3302⟩, ⟨w3303, hg3304, k3305⟩, hpT, ⟨w3306, hg3307, k3308⟩, ⟨w3309, hg3310, k3311⟩⟩ := hE
          have k3312 := iv_lo w3303
          have k3313 := iv_hi w3303
          have k3314 := TK.at hTK hpT
          refine lv_istore (lv' := [(5, .int 1), (4, .int v3207), (3, .int v3208), (0, .ref h0), (1, .ref p1), (2, .int x2)]) hx hb dX3_read_98 hl (by decide) rfl (fun ls hl => ?_)
          refine lv_iconst (v := 1) hx hb dX3_read_100 (by decide) ?_
          refine lv_istore (lv' := [(6, .int 1), (5, .int 1), (4, .int v3207), (3, .int v3208), (0, .ref h0), (1, .ref p1), (2, .int x2)]) hx hb dX3_read_101 hl (by decide) rfl (fun ls hl => ?_)
          have zl : (1 : Int32).toInt = 1 := by decide
          exact J_103 _ H locs ls 1 1 v3207 v3208 ft fp fn TT ZZ YY XX pn3281 (0 + 1) Ln3282 rfl (lv_sub hl [0, 1, 2, 3, 4, 5, 6] rfl) ⟨by decide, by decide⟩ ⟨by decide, by decide⟩ ⟨by omega, by omega⟩ ⟨by omega, by omega⟩ (hTK) (hTCe) (hpe) (hXX) (Or.inl ⟨by first | decide | omega, hpd3284, by first | omega | decide⟩) (⟨by omega, by omega, ⟨a3285, hf3286, hq3287, hA3288⟩, ⟨a3289, hf3290, hq3291, hA3292⟩, ⟨a3293, hf3294, hq3295, hA3296⟩, ⟨w3297, hg3298, by first | omega | decide⟩, ⟨w3300, hg3301, by first | omega | decide⟩, ⟨w3303, hg3304, by first | omega | decide⟩, by omega, ⟨w3306, hg3307, by first | omega | decide⟩, ⟨w3309, hg3310, by first | omega | decide⟩⟩) hI hS
        · skip
          try simp only [rg, not_and, Int.not_le] at hp
          have hp3315 := hp
          obtain ⟨pn3316, Ln3317, hE, k3318, hfl3319⟩ := hp3315
          have hp3315 : True := trivial
          obtain ⟨hT4, hn12, ⟨a3320, hf3321, hq3322, hA3323⟩, ⟨a3324, hf3325, hq3326, hA3327⟩, ⟨a3328, hf3329, hq3330, hA3331⟩, ⟨w3332, hg3333, k3334⟩, ⟨w3335, hg3336, k3337⟩, ⟨w3338, hg3339, k3340⟩, hpT, ⟨w3341, hg3342, k3343⟩, ⟨w3344, hg3345, k3346⟩⟩ := hE
          have k3347 := iv_lo w3338
          have k3348 := iv_hi w3338
          have k3349 := TK.at hTK hpT
          refine lv_istore (lv' := [(5, .int 0), (4, .int v3207), (3, .int v3208), (0, .ref h0), (1, .ref p1), (2, .int x2)]) hx hb dX3_read_98 hl (by decide) rfl (fun ls hl => ?_)
          refine lv_iconst (v := 1) hx hb dX3_read_100 (by decide) ?_
          refine lv_istore (lv' := [(6, .int 1), (5, .int 0), (4, .int v3207), (3, .int v3208), (0, .ref h0), (1, .ref p1), (2, .int x2)]) hx hb dX3_read_101 hl (by decide) rfl (fun ls hl => ?_)
          have zl : (1 : Int32).toInt = 1 := by decide
          exact J_103 _ H locs ls 1 0 v3207 v3208 ft fp fn TT ZZ YY XX pn3316 0 Ln3317 rfl (lv_sub hl [0, 1, 2, 3, 4, 5, 6] rfl) ⟨by decide, by decide⟩ ⟨by decide, by decide⟩ ⟨by omega, by omega⟩ ⟨by omega, by omega⟩ (hTK) (hTCe) (hpe) (hXX) (Or.inr ⟨by first | decide | omega, hfl3319⟩) (⟨by omega, by omega, ⟨a3320, hf3321, hq3322, hA3323⟩, ⟨a3324, hf3325, hq3326, hA3327⟩, ⟨a3328, hf3329, hq3330, hA3331⟩, ⟨w3332, hg3333, by first | omega | decide⟩, ⟨w3335, hg3336, by first | omega | decide⟩, ⟨w3338, hg3339, by first | omega | decide⟩, by omega, ⟨w3341, hg3342, by first | omega | decide⟩, ⟨w3344, hg3345, by first | omega | decide⟩⟩) hI hS
      · skip
        have k3350 := iv_nle (X := v3208.toInt) (Y := v3207.toInt) rfl rfl c3226
        refine lv_aload_n hx hb dX3_read_31 rfl (lv_at hl 3 rfl) ?_
        refine lv_iload hx hb dX3_read_32 (lv_at hl 0 rfl) ?_
        obtain ⟨F3351, hA3352, hP3353⟩ := op_16 hI hp1 List.not_mem_nil
        refine th_iald hx hb hK hA3352 0 rfl (iv_in (X := v3207.toInt) rfl (by omega) (by omega)) dX3_read_34 (fun v3354 e3355 => ?_)
        have k3356 := tc_at hP3353 e3355 (p := kk) (by omega) (by omega)
        refine lv_bipush (v := 32) hx hb dX3_read_35 (by decide) ?_
        refine lv_icmp_ne (tgt := 47) hx hb dX3_read_37 (by decide) (fun c3357 => ?_) (fun c3357 => ?_)
        · skip
          have k3358 := iv_ne (X := v3354.toInt) (Y := (32)) rfl (by decide) c3357
          refine lv_iload hx hb dX3_read_47 (lv_at hl 0 rfl) ?_
          refine lv_iconst (v := 1) hx hb dX3_read_49 (by decide) ?_
          refine lv_iadd hx hb dX3_read_50 ?_
          refine lv_topi (fun v3359 e3360 => ?_)
          have tv3359 : v3359.toInt = v3207.toInt + (1) := iv_add rfl (by decide) e3360 (by omega) (by omega)
          refine lv_aload_n hx hb dX3_read_51 rfl (lv_at hl 2 rfl) ?_
          refine lv_aload_n hx hb dX3_read_52 rfl (lv_at hl 3 rfl) ?_
          refine lv_iload hx hb dX3_read_53 (lv_at hl 0 rfl) ?_
          refine lv_iload_n hx hb dX3_read_55 rfl (lv_at hl 1 rfl) ?_
          refine px_Vi (As := [.ref p1, .int v3207, .int v3208]) (rest := [.int v3359]) (n := 3) (d := 5) ⟨hx, hb, hml, hown, hts⟩ (c_X3_readToken l E D G adK adV h0 hG0 p1 hp1 v3207 v3208 ft fp fn tt kk zz ⟨by omega, by omega⟩ (by omega) (by omega) hz4 (by omega) (by omega)) wd_649 wd_651 wp_11 wd_5 wd_652 (by decide +kernel) ⟨by rw [hR]; exact Nat.le_of_ble_eq_true rfl, by rw [hR]; exact Nat.le_of_ble_eq_true rfl⟩ hI hN hK ⟨⟨by omega, ⟨a3211, hf3212, hq3213, hA3214⟩, ⟨a3215, hf3216, hq3217, hA3218⟩, ⟨a3219, hf3220, hq3221, hA3222⟩, ⟨w3223, hg3224, by first | omega | decide⟩⟩, hTC, hCK⟩ hWS hS hAG (rc_7 hI hG0 List.not_mem_nil) rfl rfl hl.1 rfl (Nat.le_of_ble_eq_true rfl) dX3_read_56 ⟨by rw [hR]; exact Nat.le_of_ble_eq_true rfl, by rw [hR]; exact Nat.le_of_ble_eq_true rfl⟩ (fun r3361 H locs hI hp hS => ?_)
          obtain ⟨fa3362, fb3363, fc3364, e9, her, hke, hes, hE, hTC, hCK⟩ := hp
          obtain ⟨ht401, ⟨a3365, hf3366, hq3367, hA3368⟩, ⟨a3369, hf3370, hq3371, hA3372⟩, ⟨a3373, hf3374, hq3375, hA3376⟩, ⟨w3377, hg3378, k3379⟩⟩ := hE
          refine va_mmax hx hb (hml.trans hl.1.symm) hown (hts _ (tb_c wd_648)) (hts _ (tb_c wd_43)) (hts _ (tb_c wd_4)) (hts _ (tb_c wd_44)) (by rw [hR]; exact Nat.le_of_ble_eq_true rfl) (by rw [hR]; exact Nat.le_of_ble_eq_true rfl) (Nat.zero_le _) (Nat.zero_le _) dX3_read_59 ?_
          refine lv_topi (fun v3380 e3381 => ?_)
          have tv3380 := iv_max e3381
          refine lv_istore (lv' := [(4, .int v3380), (3, .int v3208), (0, .ref h0), (1, .ref p1), (2, .int x2)]) hx hb dX3_read_62 hl (by decide) rfl (fun ls hl => ?_)
          refine lv_goto (tgt := 25) hx hb dX3_read_64 (by decide) ?_
          exact ih_25 _ (by omega) H locs ls v3380 v3208 e9 (tt + 1) fa3362 fb3363 fc3364 rfl (lv_sub hl [0, 1, 2, 3, 4] rfl) ⟨by omega, by omega⟩ ⟨by omega, by omega⟩ (by omega) (by first | omega | decide) (⟨⟨by omega, ⟨a3365, hf3366, hq3367, hA3368⟩, ⟨a3369, hf3370, hq3371, hA3372⟩, ⟨a3373, hf3374, hq3375, hA3376⟩, ⟨w3377, hg3378, by first | omega | decide⟩⟩, hTC, hCK⟩) hI hS
        · skip
          have k3382 := iv_eq (X := v3354.toInt) (Y := (32)) rfl (by decide) c3357
          refine lv_iload hx hb dX3_read_40 (lv_at hl 0 rfl) ?_
          refine lv_iconst (v := 1) hx hb dX3_read_42 (by decide) ?_
          refine lv_iadd hx hb dX3_read_43 ?_
          refine lv_topi (fun v3383 e3384 => ?_)
          have tv3383 : v3383.toInt = v3207.toInt + (1) := iv_add rfl (by decide) e3384 (by omega) (by omega)
          refine lv_goto (tgt := 62) hx hb dX3_read_44 (by decide) ?_
          refine lv_istore (lv' := [(4, .int v3383), (3, .int v3208), (0, .ref h0), (1, .ref p1), (2, .int x2)]) hx hb dX3_read_62 hl (by decide) rfl (fun ls hl => ?_)
          refine lv_goto (tgt := 25) hx hb dX3_read_64 (by decide) ?_
          exact ih_25 _ (by omega) H locs ls v3383 v3208 (kk + 1) tt ft fp fn rfl (lv_sub hl [0, 1, 2, 3, 4] rfl) ⟨by omega, by omega⟩ ⟨by omega, by omega⟩ (by omega) (by first | omega | decide) (⟨⟨by omega, ⟨a3211, hf3212, hq3213, hA3214⟩, ⟨a3215, hf3216, hq3217, hA3218⟩, ⟨a3219, hf3220, hq3221, hA3222⟩, ⟨w3223, hg3224, by first | omega | decide⟩⟩, tk_I.sp hTC (by omega) (by omega), hCK⟩) hI hS
  refine lv_iconst (v := 0) hx hb dX3_read_0 (by decide) ?_
  refine lv_iload_n hx hb dX3_read_1 rfl (lv_at hl 2 rfl) ?_
  refine lv_aload_n hx hb dX3_read_2 rfl (lv_at hl 1 rfl) ?_
  obtain ⟨F3385, hA3386, hP3387⟩ := op_16 hI hp1 List.not_mem_nil
  refine va_alen hx hb hK (th_one hA3386) 0 0 rfl (v := 400) rfl (show Int32.ofNat 400 = (400 : Int32) from by decide) dX3_read_3 ?_
  refine lv_sipush (v := 400) hx hb dX3_read_4 (by decide) ?_
  refine va_mmin hx hb (hml.trans hl.1.symm) hown (hts _ (tb_c wd_647)) (hts _ (tb_c wd_583)) (hts _ (tb_c wd_4)) (hts _ (tb_c wd_584)) (by rw [hR]; exact Nat.le_of_ble_eq_true rfl) (by rw [hR]; exact Nat.le_of_ble_eq_true rfl) (Nat.zero_le _) (Nat.zero_le _) dX3_read_7 ?_
  refine lv_topi (fun v3388 e3389 => ?_)
  have tv3388 := iv_min e3389
  rw [show (400 : Int32).toInt = 400 from by decide] at tv3388
  refine va_mmin hx hb (hml.trans hl.1.symm) hown (hts _ (tb_c wd_647)) (hts _ (tb_c wd_583)) (hts _ (tb_c wd_4)) (hts _ (tb_c wd_584)) (by rw [hR]; exact Nat.le_of_ble_eq_true rfl) (by rw [hR]; exact Nat.le_of_ble_eq_true rfl) (Nat.zero_le _) (Nat.zero_le _) dX3_read_10 ?_
  refine lv_topi (fun v3390 e3391 => ?_)
  have tv3390 := iv_min e3391
  refine va_mmax hx hb (hml.trans hl.1.symm) hown (hts _ (tb_c wd_648)) (hts _ (tb_c wd_43)) (hts _ (tb_c wd_4)) (hts _ (tb_c wd_44)) (by rw [hR]; exact Nat.le_of_ble_eq_true rfl) (by rw [hR]; exact Nat.le_of_ble_eq_true rfl) (Nat.zero_le _) (Nat.zero_le _) dX3_read_13 ?_
  refine lv_topi (fun v3392 e3393 => ?_)
  have tv3392 := iv_max e3393
  rw [show (0 : Int32).toInt = 0 from by decide] at tv3392
  refine lv_istore_n (lv' := [(3, .int v3392), (0, .ref h0), (1, .ref p1), (2, .int x2)]) hx hb dX3_read_16 rfl hl (by decide) rfl (fun ls hl => ?_)
  refine lv_aload_n hx hb dX3_read_17 rfl (lv_at hl 1 rfl) ?_
  refine lv_iconst (v := 0) hx hb dX3_read_18 (by decide) ?_
  refine pmIC (ty := .int) hx hb hts inT3 hown hK hI List.not_mem_nil hG0 hS (hAG _ _ hG0) 6 (by decide) (hts _ (tb_c wd_135)) rfl rfl (by decide +kernel) rfl rfl rfl (by decide) (by decide) dX3_read_19 (fun H locs hI hgP hS => ?_)
  have hg3394 := hgP.2.1
  refine lv_iconst (v := 0) hx hb dX3_read_22 (by decide) ?_
  refine lv_istore (lv' := [(4, .int 0), (3, .int v3392), (0, .ref h0), (1, .ref p1), (2, .int x2)]) hx hb dX3_read_23 hl (by decide) rfl (fun ls hl => ?_)
  obtain ⟨a3395, hq3397, hf3396⟩ := frC_of (n := 0) hI hG0 3 (by decide) (kd := (17, 401)) rfl
  obtain ⟨F3398, hA3399⟩ := op_17 hI hq3397 List.not_mem_nil
  obtain ⟨a3400, hq3402, hf3401⟩ := frC_of (n := 0) hI hG0 4 (by decide) (kd := (18, 401)) rfl
  obtain ⟨F3403, hA3404⟩ := op_18 hI hq3402 List.not_mem_nil
  obtain ⟨a3405, hq3407, hf3406⟩ := frC_of (n := 0) hI hG0 5 (by decide) (kd := (19, 401)) rfl
  obtain ⟨F3408, hA3409⟩ := op_19 hI hq3407 List.not_mem_nil
  have zl : (0 : Int32).toInt = 0 := by decide
  exact J_25 _ H locs ls 0 v3392 0 0 F3398 F3403 F3408 rfl (lv_sub hl [0, 1, 2, 3, 4] rfl) ⟨by decide, by decide⟩ ⟨by omega, by omega⟩ (by omega) (by first | omega | decide) (⟨⟨by omega, ⟨a3395, hf3396, hq3397, hA3399⟩, ⟨a3400, hf3401, hq3402, hA3404⟩, ⟨a3405, hf3406, hq3407, hA3409⟩, ⟨0, hg3394, by first | omega | decide⟩⟩, tk_I.ini, fun _ z => absurd z (Nat.not_lt_zero _)⟩) hI hS
