theorem wd_16 : (Cond.initialized RJ0) ∈ TB := tw 16 (by decide +kernel) (by decide +kernel)
theorem wd_17 : (Cond.initialized RJ1) ∈ TB := tw 17 (by decide +kernel) (by decide +kernel)
theorem wd_18 : (Cond.initialized RJ3) ∈ TB := tw 18 (by decide +kernel) (by decide +kernel)
theorem wd_1870 : (Cond.fieldLink RJ0 (15 : Nat) "java/lang/String" "coder" "B") ∈ TB := tw 1870 (by decide +kernel) (by decide +kernel)
theorem wd_1871 : (Cond.fieldLink RJ0 (9 : Nat) "java/lang/String" "value" "[B") ∈ TB := tw 1871 (by decide +kernel) (by decide +kernel)
theorem wd_664 : (Cond.methodLink RJ0 (492 : Nat) yJ0_isLatin1_aae02) ∈ TB := tw 664 (by decide +kernel) (by decide +kernel)
theorem wd_665 : (Jvm.Cond.instanceMethod yJ0_isLatin1_aae02) ∈ TB := tw 665 (by decide +kernel) (by decide +kernel)
theorem wd_666 : (Cond.selects RJ0 yJ0_isLatin1_aae02 yJ0_isLatin1_aae02) ∈ TB := tw 666 (by decide +kernel) (by decide +kernel)
theorem wd_667 : (Cond.code yJ0_isLatin1_aae02 cJ0_isLatin1_aae02 1 (Option.some Jvm.ClassFile.FieldType.boolean)) ∈ TB := tw 667 (by decide +kernel) (by decide +kernel)
theorem wd_668 : (Cond.fieldLink RJ0 (38 : Nat) "java/lang/String" "COMPACT_STRINGS" "Z") ∈ TB := tw 668 (by decide +kernel) (by decide +kernel)
theorem wd_670 : (Cond.methodLink RJ0 (495 : Nat) yJ1_charAt_3b067) ∈ TB := tw 670 (by decide +kernel) (by decide +kernel)
theorem wd_671 : (Jvm.Cond.static yJ1_charAt_3b067) ∈ TB := tw 671 (by decide +kernel) (by decide +kernel)
theorem wd_672 : (Cond.code yJ1_charAt_3b067 cJ1_charAt_3b067 2 (Option.some Jvm.ClassFile.FieldType.char)) ∈ TB := tw 672 (by decide +kernel) (by decide +kernel)
theorem wd_673 : (Cond.methodLink RJ1 (9 : Nat) yJ0_checkIndex_df160) ∈ TB := tw 673 (by decide +kernel) (by decide +kernel)
theorem wd_674 : (Jvm.Cond.static yJ0_checkIndex_df160) ∈ TB := tw 674 (by decide +kernel) (by decide +kernel)
theorem wd_675 : (Cond.code yJ0_checkIndex_df160 cJ0_checkIndex_df160 2 (Option.none : Option Jvm.ClassFile.FieldType)) ∈ TB := tw 675 (by decide +kernel) (by decide +kernel)
theorem wd_676 : (Cond.fieldLink RJ0 (1053 : Nat) "jdk/internal/util/Preconditions" "SIOOBE_FORMATTER" "Ljava/util/function/BiFunction;") ∈ TB := tw 676 (by decide +kernel) (by decide +kernel)
theorem wd_678 : (Cond.methodLink RJ0 (1059 : Nat) yJ3_checkIndex_8e157) ∈ TB := tw 678 (by decide +kernel) (by decide +kernel)
theorem wd_679 : (Jvm.Cond.static yJ3_checkIndex_8e157) ∈ TB := tw 679 (by decide +kernel) (by decide +kernel)
theorem wd_680 : (Cond.code yJ3_checkIndex_8e157 cJ3_checkIndex_8e157 3 (Option.some Jvm.ClassFile.FieldType.int)) ∈ TB := tw 680 (by decide +kernel) (by decide +kernel)
/-! ===== the word list, a text: what the class's reader looks up ===== -/
def w_text : String := "flows   costs   tolls   bars    if      or      and     not     cell    hour    day     strike  pumped  mills   natural down    year    "
def w_byt : List Int32 := [102, 108, 111, 119, 115, 32, 32, 32, 99, 111, 115, 116, 115, 32, 32, 32, 116, 111, 108, 108, 115, 32, 32, 32, 98, 97, 114, 115, 32, 32, 32, 32, 105, 102, 32, 32, 32, 32, 32, 32, 111, 114, 32, 32, 32, 32, 32, 32, 97, 110, 100, 32, 32, 32, 32, 32, 110, 111, 116, 32, 32, 32, 32, 32, 99, 101, 108, 108, 32, 32, 32, 32, 104, 111, 117, 114, 32, 32, 32, 32, 100, 97, 121, 32, 32, 32, 32, 32, 115, 116, 114, 105, 107, 101, 32, 32, 112, 117, 109, 112, 101, 100, 32, 32, 109, 105, 108, 108, 115, 32, 32, 32, 110, 97, 116, 117, 114, 97, 108, 32, 100, 111, 119, 110, 32, 32, 32, 32, 121, 101, 97, 114, 32, 32, 32, 32]
def WS (adK adV : Nat → Nat) (A : Nat → Prop) (U : State) (H : Heap) : Prop := va_Z "java/lang/String" "COMPACT_STRINGS" "Z" (.int 1) A U H ∧ va_Zq "jdk/internal/util/Preconditions" "SIOOBE_FORMATTER" "Ljava/util/function/BiFunction;" A U H ∧ vk_S 1 [136] [w_byt] adK adV A U H ∧ vk_R "NineRiver$Reader" 89 w_text (adK 0) U
theorem WS.same {adK adV : Nat → Nat} {A : Nat → Prop} {u U : State} {H : Heap} (hv : U.vm = u.vm) (h : WS adK adV A u H) : WS adK adV A U H := by
  have ha : u.vm.Alike U.vm := by rw [hv]; exact Vm.Alike.refl u.vm
  obtain ⟨h1, h2, h3, h4⟩ := h
  exact ⟨h1.moved ha, h2.moved ha, h3.moved ha, h4.same hv⟩
theorem WS.warm {adK adV : Nat → Nat} {A : Nat → Prop} {s U : State} {H : Heap} (hW : s.WarmedH U.vm) (h : WS adK adV A s H) : WS adK adV A U H := by
  obtain ⟨h1, h2, h3, h4⟩ := h
  exact ⟨h1.moved hW.alike, h2.moved hW.alike, h3.moved hW.alike, h4.warm hW⟩
theorem WS.kept {adK adV : Nat → Nat} {A : Nat → Prop} {U : State} {H H1 : Heap} (hq : ∀ a : Nat, a < H.size → ¬ A a → H1[a]? = H[a]?) (h : WS adK adV A U H) : WS adK adV A U H1 := by
  obtain ⟨h1, h2, h3, h4⟩ := h
  exact ⟨h1.kept hq, h2.kept hq, h3.kept hq, h4⟩
theorem WS.narrow {adK adV : Nat → Nat} {A B : Nat → Prop} {U : State} {H : Heap} (hAB : ∀ q, B q → A q) (h : WS adK adV A U H) : WS adK adV B U H := by
  obtain ⟨h1, h2, h3, h4⟩ := h
  exact ⟨h1.narrow hAB, h2.narrow hAB, h3.narrow hAB, h4⟩
abbrev noA : Nat → Prop := fun _ => False
theorem WS.at {adK adV : Nat → Nat} {A : Nat → Prop} {s U : State} {H : Heap} {locs : List Loc} (h : WS adK adV A s s.heap) (hS : va_S A s.heap H locs) (hU : U.heap = H) (hW : s.WarmedH U.vm) : WS adK adV noA U U.heap := by
  rw [hU]
  exact ((h.kept hS.2.1).narrow (fun _ z => z.elim)).warm hW
abbrev PSW (adK adV : Nat → Nat) (H : Heap) : State → Prop := fun U => U.heap = H ∧ th_N U ∧ WS adK adV noA U U.heap
theorem sw_blind {adK adV : Nat → Nat} {av : List Value} {H : Heap} : FrameBlind (va_Pc av (PSW adK adV H)) := fun a U g mk q => ⟨q.1, q.2.1, th_N.same (u := U) rfl q.2.2.1, WS.same (u := U) rfl q.2.2.2⟩
abbrev PST (E : Nat → Nat) (D : va_G) (G : th_G) (adK adV : Nat → Nat) (H : Heap) : State → Prop := fun U => U.heap = H ∧ th_P E D G U ∧ WS adK adV noA U U.heap
theorem st_blind {E : Nat → Nat} {D : va_G} {G : th_G} {adK adV : Nat → Nat} {av : List Value} {H : Heap} : FrameBlind (va_Pc av (PST E D G adK adV H)) := fun a U g mk q => ⟨q.1, q.2.1, ⟨q.2.2.1.1, th_N.same (u := U) rfl q.2.2.1.2.1, va_K.moved (u := U) (U := U.calling g mk a) (Vm.Alike.refl U.vm) q.2.2.1.2.2⟩, WS.same (u := U) rfl q.2.2.2⟩
abbrev th_PW (E : Nat → Nat) (D : va_G) (G : th_G) (adK adV : Nat → Nat) : State → Prop := fun U => th_P E D G U ∧ WS adK adV (th_A G) U U.heap
theorem pw_blind {E : Nat → Nat} {D : va_G} {G : th_G} {adK adV : Nat → Nat} {av : List Value} : FrameBlind (va_Pc av (th_PW E D G adK adV)) := fun a U g mk q => ⟨q.1, ⟨q.2.1.1, th_N.same (u := U) rfl q.2.1.2.1, va_K.moved (u := U) (U := U.calling g mk a) (Vm.Alike.refl U.vm) q.2.1.2.2⟩, WS.same (u := U) rfl q.2.2⟩
abbrev QSv (H : Heap) : Array Value → State → Outcome → State → Prop := va_Qv (fun (_ : Unit) => True) (fun _ t => t.heap = H) (fun _ => False)
section SW
variable {p : Program} {l : Launch} {e : Env} {R : Room} {s : State} {m : MethodId} {args : Array Value} {below : List Frame} {meth : Method} {c : Code} {H : Heap} {locs : List Loc} {cells slots : Nat} {Q : State → Prop}
variable {cc : ByteArray} {pc nL : Nat} {ls : Array Slot} {rest st0 As : List Value} {A0 : Nat → Prop} {D : va_G} {E : Nat → Nat} {G : th_G} {adK adV : Nat → Nat}
variable {own : String} {index n maxL d : Nat} {y : MethodName} {bytes : ByteArray} {ret : Option FieldType} {cw : Cond}
theorem sw_S {post : Int32 → Prop} (F : CallFix p m c cc nL s args (tb cw) own) (hM : Met l y (tb (.code y bytes maxL ret)) (rm d) (va_Pc As (PSW adK adV H)) (QS H post) 0 0 (fun _ => False))
    (h1 : Cond.methodLink own index y ∈ TB) (h2 : Cond.static y ∈ TB) (h4 : Cond.initialized y.cls ∈ TB) (h5 : Cond.code y bytes maxL ret ∈ TB)
    (hd : y.cls ≠ "java/lang/invoke/MethodHandle" ∧ y.cls ≠ "java/lang/invoke/VarHandle" ∧ (parseMethodDescriptor y.desc).map (fun d => d.parameters.length) = some n) (hR : d + 1 ≤ R.frames ∧ 8 + (maxL + 11) + 40 * d ≤ R.locals)
    (hN : th_N s) (hWS : WS adK adV A0 s s.heap) (hS : va_S A0 s.heap H locs)
    (hn : As.length = n) (hsize : ls.size = nL) (hst : st0 = As.reverse ++ rest) (hrm : (rest.map fun v => v.category).sum ≤ 8) (hdg : decode cc pc = .ok (.invokestatic index, 3)) (hcs : cells ≤ R.cells ∧ slots ≤ R.slots)
    (kk : ∀ (r : Int32) (locs1 : List Loc), post r → va_S A0 s.heap H locs1 → W p l e R s m args below meth c H locs1 cells slots Q (F0 m (pc + 3) ls (.int r :: rest))) : W p l e R s m args below meth c H locs cells slots Q (F0 m pc ls st0) :=
  va_calli (va_runS (As := As) (rest := rest) F hM (va_cwS n F.2.2.2.2 (tb_S h1 h2 h4 h5) rfl rfl rfl hd hR) ⟨sw_blind, fun U hU hW => ⟨rfl, hU, hN.warm hW, hWS.at hS hU hW⟩⟩ rfl hn hsize hst (lv_room hrm) hdg hcs) hS (fun q _ h => h.elim) (fun q h => h.elim) (fun r u t H1 locs1 ht hvm hw hB hz hk hS1 => by
    have e : H1 = H := ht.symm.trans hB
    rw [e] at hS1 ⊢
    exact kk r locs1 hw hS1)
theorem sw_Sv (F : CallFix p m c cc nL s args (tb cw) own) (hM : Met l y (tb (.code y bytes maxL ret)) (rm d) (va_Pc As (PSW adK adV H)) (QSv H) 0 0 (fun _ => False))
    (h1 : Cond.methodLink own index y ∈ TB) (h2 : Cond.static y ∈ TB) (h4 : Cond.initialized y.cls ∈ TB) (h5 : Cond.code y bytes maxL ret ∈ TB)
    (hd : y.cls ≠ "java/lang/invoke/MethodHandle" ∧ y.cls ≠ "java/lang/invoke/VarHandle" ∧ (parseMethodDescriptor y.desc).map (fun d => d.parameters.length) = some n) (hR : d + 1 ≤ R.frames ∧ 8 + (maxL + 11) + 40 * d ≤ R.locals)
    (hN : th_N s) (hWS : WS adK adV A0 s s.heap) (hS : va_S A0 s.heap H locs)
    (hn : As.length = n) (hsize : ls.size = nL) (hst : st0 = As.reverse ++ rest) (hrm : (rest.map fun v => v.category).sum ≤ 8) (hdg : decode cc pc = .ok (.invokestatic index, 3)) (hcs : cells ≤ R.cells ∧ slots ≤ R.slots)
    (kk : ∀ (locs1 : List Loc), va_S A0 s.heap H locs1 → W p l e R s m args below meth c H locs1 cells slots Q (F0 m (pc + 3) ls rest)) : W p l e R s m args below meth c H locs cells slots Q (F0 m pc ls st0) :=
  va_callv (va_runS (As := As) (rest := rest) F hM (va_cwS n F.2.2.2.2 (tb_S h1 h2 h4 h5) rfl rfl rfl hd hR) ⟨sw_blind, fun U hU hW => ⟨rfl, hU, hN.warm hW, hWS.at hS hU hW⟩⟩ rfl hn hsize hst (lv_room hrm) hdg hcs) hS (fun q _ h => h.elim) (fun q h => h.elim) (fun u t H1 locs1 ht hvm hw hB hz hk hS1 => by
    have e : H1 = H := ht.symm.trans hB
    rw [e] at hS1 ⊢
    exact kk locs1 hS1)
theorem sw_V {post : Int32 → Prop} (F : CallFix p m c cc nL s args (tb cw) own) (hM : Met l y (tb (.code y bytes maxL ret)) (rm d) (va_Pc (.ref (adK 0) :: As) (PSW adK adV H)) (QS H post) 0 0 (fun _ => False))
    (h1 : Cond.methodLink own index y ∈ TB) (h2 : Cond.instanceMethod y ∈ TB) (h3 : Cond.selects "java/lang/String" y y ∈ TB) (h4 : Cond.initialized "java/lang/String" ∈ TB) (h5 : Cond.code y bytes maxL ret ∈ TB)
    (hd : y.cls = "java/lang/String" ∧ y.cls ≠ "java/lang/invoke/MethodHandle" ∧ y.cls ≠ "java/lang/invoke/VarHandle" ∧ (parseMethodDescriptor y.desc).map (fun d => d.parameters.length) = some n) (hR : d + 1 ≤ R.frames ∧ 8 + (maxL + 11) + 40 * d ≤ R.locals)
    (hN : th_N s) (hWS : WS adK adV A0 s s.heap) (hS : va_S A0 s.heap H locs)
    (hn : As.length = n) (hsize : ls.size = nL) (hst : st0 = As.reverse ++ .ref (adK 0) :: rest) (hrm : (rest.map fun v => v.category).sum ≤ 8) (hdg : decode cc pc = .ok (.invokevirtual index, 3)) (hcs : cells ≤ R.cells ∧ slots ≤ R.slots)
    (kk : ∀ (r : Int32) (locs1 : List Loc), post r → va_S A0 s.heap H locs1 → W p l e R s m args below meth c H locs1 cells slots Q (F0 m (pc + 3) ls (.int r :: rest))) : W p l e R s m args below meth c H locs cells slots Q (F0 m pc ls st0) :=
  va_calli (va_runV (As := As) (rest := rest) F hM (cwV n F.2.2.2.2 (tb_V h1 h2 h3 h4 h5) rfl rfl rfl hd hR) ⟨sw_blind, vk_recv hWS.2.2.1 (by decide) hS, fun U hU hW => ⟨rfl, hU, hN.warm hW, hWS.at hS hU hW⟩⟩ rfl hn hsize hst (lv_room hrm) hdg hcs) hS (fun q _ h => h.elim) (fun q h => h.elim) (fun r u t H1 locs1 ht hvm hw hB hz hk hS1 => by
    have e : H1 = H := ht.symm.trans hB
    rw [e] at hS1 ⊢
    exact kk r locs1 hw hS1)
theorem st_S {post : Int32 → Prop} (F : CallFix p m c cc nL s args (tb cw) own) (hM : Met l y (tb (.code y bytes maxL ret)) (rm d) (va_Pc As (PST E D G adK adV H)) (QS H post) 0 0 (fun _ => False))
    (h1 : Cond.methodLink own index y ∈ TB) (h2 : Cond.static y ∈ TB) (h4 : Cond.initialized y.cls ∈ TB) (h5 : Cond.code y bytes maxL ret ∈ TB)
    (hd : y.cls ≠ "java/lang/invoke/MethodHandle" ∧ y.cls ≠ "java/lang/invoke/VarHandle" ∧ (parseMethodDescriptor y.desc).map (fun d => d.parameters.length) = some n) (hR : d + 1 ≤ R.frames ∧ 8 + (maxL + 11) + 40 * d ≤ R.locals)
    (hI : th_I (okC E) D G [] H) (hN : th_N s) (hK : va_K D vwCl (th_tys E) s) (hWS : WS adK adV A0 s s.heap) (hS : va_S A0 s.heap H locs)
    (hn : As.length = n) (hsize : ls.size = nL) (hst : st0 = As.reverse ++ rest) (hrm : (rest.map fun v => v.category).sum ≤ 8) (hdg : decode cc pc = .ok (.invokestatic index, 3)) (hcs : cells ≤ R.cells ∧ slots ≤ R.slots)
    (kk : ∀ (r : Int32) (locs1 : List Loc), post r → va_S A0 s.heap H locs1 → W p l e R s m args below meth c H locs1 cells slots Q (F0 m (pc + 3) ls (.int r :: rest))) : W p l e R s m args below meth c H locs cells slots Q (F0 m pc ls st0) :=
  va_calli (va_runS (As := As) (rest := rest) F hM (va_cwS n F.2.2.2.2 (tb_S h1 h2 h4 h5) rfl rfl rfl hd hR) ⟨st_blind, fun U hU hW => ⟨rfl, hU, ⟨by rw [hU]; exact hI, hN.warm hW, va_K.moved hW.alike hK⟩, hWS.at hS hU hW⟩⟩ rfl hn hsize hst (lv_room hrm) hdg hcs) hS (fun q _ h => h.elim) (fun q h => h.elim) (fun r u t H1 locs1 ht hvm hw hB hz hk hS1 => by
    have e : H1 = H := ht.symm.trans hB
    rw [e] at hS1 ⊢
    exact kk r locs1 hw hS1)
/-- a typed method that looks words up, called by one that may change more -/
theorem pw_Vi {ci N : Nat} {C : String} {T : u_T} {b : Nat} {post : Int32 → Prop} (F : CallFix p m c cc nL s args (tb cw) own) (hM : Met l y (tb (.code y bytes maxL ret)) (rm d) (va_Pc (.ref b :: As) (th_PW E D G adK adV)) (QI E D G post) 0 0 (th_A G))
    (h1 : Cond.methodLink own index y ∈ TB) (h2 : Cond.instanceMethod y ∈ TB) (h3 : Cond.selects C y y ∈ TB) (h4 : Cond.initialized C ∈ TB) (h5 : Cond.code y bytes maxL ret ∈ TB)
    (hd : y.cls = C ∧ y.cls ≠ "java/lang/invoke/MethodHandle" ∧ y.cls ≠ "java/lang/invoke/VarHandle" ∧ (parseMethodDescriptor y.desc).map (fun d => d.parameters.length) = some n) (hR : d + 1 ≤ R.frames ∧ 8 + (maxL + 11) + 40 * d ≤ R.locals)
    (hI : th_I (okC E) D G [] H) (hN : th_N s) (hK : va_K D vwCl (th_tys E) s) (hWS : WS adK adV A0 s s.heap) (hS : va_S A0 s.heap H locs) (hAG : ∀ (r : Nat) (k' : th_K), G r = some k' → A0 r) (hO : ∃ fs, va_at D vwCl (b, .inr (ci, fs)) H) (hc : vwCl[ci]? = some (C, T, N))
    (hn : As.length = n) (hsize : ls.size = nL) (hst : st0 = As.reverse ++ .ref b :: rest) (hrm : (rest.map fun v => v.category).sum ≤ 8) (hdg : decode cc pc = .ok (.invokevirtual index, 3)) (hcs : cells ≤ R.cells ∧ slots ≤ R.slots)
    (kk : ∀ (r : Int32) (H1 : Heap) (locs1 : List Loc), post r → th_I (okC E) D G [] H1 → va_S A0 s.heap H1 locs1 → W p l e R s m args below meth c H1 locs1 cells slots Q (F0 m (pc + 3) ls (.int r :: rest))) : W p l e R s m args below meth c H locs cells slots Q (F0 m pc ls st0) := by
  obtain ⟨fs, hO⟩ := hO
  exact va_calli (va_runV (As := As) (rest := rest) F hM (cwV n F.2.2.2.2 (tb_V h1 h2 h3 h4 h5) rfl rfl rfl hd hR) ⟨pw_blind, va_recv hK (th_one hO) hc (q0 := 0) rfl, fun U hU hW => ⟨rfl, ⟨by rw [hU]; exact hI, hN.warm hW, va_K.moved hW.alike hK⟩, by rw [hU]; exact ((hWS.kept hS.2.1).narrow (fun q ⟨k', h⟩ => hAG q k' h)).warm hW⟩⟩ rfl hn hsize hst (lv_room hrm) hdg hcs) hS (fun q _ h => by obtain ⟨k', h⟩ := h; exact hAG q k' h) (fun q h => by obtain ⟨k', h⟩ := h; exact hAG q k' h) (fun r u t H1 locs1 ht hvm hw hB hz hk hS => kk r H1 locs1 hw (by rw [← ht]; exact hB.1) hS)
end SW
theorem w_ch : ∀ j : Nat, j < 136 → ((w_byt.getD j 0 &&& 255).toUInt32 % 65536).toInt32 = w_byt.getD j 0 := by decide +kernel

theorem dJ3_checkIndex_8e157_0g : (decode cJ3_checkIndex_8e157 0 = .ok (.iload_n 0, 1)) ∧ (decode cJ3_checkIndex_8e157 1 = .ok (.ifCond .lt 8, 3)) ∧ (decode cJ3_checkIndex_8e157 4 = .ok (.iload_n 0, 1)) ∧ (decode cJ3_checkIndex_8e157 5 = .ok (.iload_n 1, 1)) ∧ (decode cJ3_checkIndex_8e157 6 = .ok (.if_icmp .lt 10, 3)) ∧ (decode cJ3_checkIndex_8e157 9 = .ok (.aload_n 2, 1)) ∧ (decode cJ3_checkIndex_8e157 10 = .ok (.iload_n 0, 1)) ∧ (decode cJ3_checkIndex_8e157 11 = .ok (.iload_n 1, 1)) ∧ (decode cJ3_checkIndex_8e157 12 = .ok (.invokestatic 95, 3)) ∧ (decode cJ3_checkIndex_8e157 15 = .ok (.athrow, 1)) := by decide +kernel
theorem dJ3_checkIndex_8e157_0 : decode cJ3_checkIndex_8e157 0 = .ok (.iload_n 0, 1) := dJ3_checkIndex_8e157_0g.1
theorem dJ3_checkIndex_8e157_1 : decode cJ3_checkIndex_8e157 1 = .ok (.ifCond .lt 8, 3) := dJ3_checkIndex_8e157_0g.2.1
theorem dJ3_checkIndex_8e157_4 : decode cJ3_checkIndex_8e157 4 = .ok (.iload_n 0, 1) := dJ3_checkIndex_8e157_0g.2.2.1
theorem dJ3_checkIndex_8e157_5 : decode cJ3_checkIndex_8e157 5 = .ok (.iload_n 1, 1) := dJ3_checkIndex_8e157_0g.2.2.2.1
theorem dJ3_checkIndex_8e157_6 : decode cJ3_checkIndex_8e157 6 = .ok (.if_icmp .lt 10, 3) := dJ3_checkIndex_8e157_0g.2.2.2.2.1
theorem dJ3_checkIndex_8e157_9 : decode cJ3_checkIndex_8e157 9 = .ok (.aload_n 2, 1) := dJ3_checkIndex_8e157_0g.2.2.2.2.2.1
theorem dJ3_checkIndex_8e157_10 : decode cJ3_checkIndex_8e157 10 = .ok (.iload_n 0, 1) := dJ3_checkIndex_8e157_0g.2.2.2.2.2.2.1
theorem dJ3_checkIndex_8e157_11 : decode cJ3_checkIndex_8e157 11 = .ok (.iload_n 1, 1) := dJ3_checkIndex_8e157_0g.2.2.2.2.2.2.2.1
theorem dJ3_checkIndex_8e157_12 : decode cJ3_checkIndex_8e157 12 = .ok (.invokestatic 95, 3) := dJ3_checkIndex_8e157_0g.2.2.2.2.2.2.2.2.1
theorem dJ3_checkIndex_8e157_15 : decode cJ3_checkIndex_8e157 15 = .ok (.athrow, 1) := dJ3_checkIndex_8e157_0g.2.2.2.2.2.2.2.2.2
theorem dJ3_checkIndex_8e157_16g : (decode cJ3_checkIndex_8e157 16 = .ok (.iload_n 0, 1)) ∧ (decode cJ3_checkIndex_8e157 17 = .ok (.ireturn, 1)) := by decide +kernel
theorem dJ3_checkIndex_8e157_16 : decode cJ3_checkIndex_8e157 16 = .ok (.iload_n 0, 1) := dJ3_checkIndex_8e157_16g.1
theorem dJ3_checkIndex_8e157_17 : decode cJ3_checkIndex_8e157 17 = .ok (.ireturn, 1) := dJ3_checkIndex_8e157_16g.2
set_option maxHeartbeats 4000000 in
set_option maxRecDepth 100000 in
theorem c_J3_checkIndex_8e157 (l : Launch) (H0 : Heap) (x0 : Int32) (x2 : Nat) (hx0 : 0 ≤ x0.toInt ∧ x0.toInt ≤ 135) : Met l yJ3_checkIndex_8e157 (tb (.code yJ3_checkIndex_8e157 cJ3_checkIndex_8e157 3 (some .int))) (rm 0) (va_Pc [.int x0, .int 136, .ref x2] (PS H0)) (QS H0 (fun r => True)) 0 0 (fun _ => False) := by
  refine Met.ofW (cc := cJ3_checkIndex_8e157) (maxL := 3) (ret := (some .int)) (by decide) rfl ?_
  intro p e s m args below meth c s₁ B hml hv
  obtain ⟨hav, rfl, hN⟩ := hv
  have hx := B.exec
  have hb := B.bytes
  have hr := B.returns
  have hts := atoms_spec (ws := tb (.code yJ3_checkIndex_8e157 cJ3_checkIndex_8e157 3 (some .int))) B.pre
  have hown : s.vm.findClass RJ3 = some m.cls := findClass_of_methodNamed B.named
  have hlocks := B.notSynchronized
  have hS : va_S (fun _ => False) s.heap s.heap [] := va_S.rf
  have hl := lv_entry ([.int x0, .int 136, .ref x2]) (n := 3) (Nat.le_of_ble_eq_true rfl)
  rw [show entryFrame m args 3 = entryFrame m ([.int x0, .int 136, .ref x2] : List Value).toArray 3 from by rw [hav], lg_entry_eq]
  generalize (lg_sl ([.int x0, .int 136, .ref x2]) ++ List.replicate (3 - (lg_sl ([.int x0, .int 136, .ref x2])).length) Slot.unset).toArray = ls at hl ⊢
  have hl : lv_has ls 3 [(0, .int x0), (1, .int 136), (2, .ref x2)] := hl
  generalize hR : (headSpec (tb (.code yJ3_checkIndex_8e157 cJ3_checkIndex_8e157 3 (some .int))) (rm 0)).room = R
  have hR := hR.symm
  generalize hQ : MQ below (QS s.heap (fun r => True)) args s 0 0 (fun _ => False) = QF
  have hQ := hQ.symm
  refine lv_iload_n hx hb dJ3_checkIndex_8e157_0 rfl (lv_at hl 0 rfl) ?_
  refine lv_if_lt (tgt := 9) hx hb dJ3_checkIndex_8e157_1 (by decide) (fun c1 => ?_) (fun c1 => ?_)
  · skip
    have k2 := iv_lt (X := x0.toInt) (Y := (0)) rfl (by decide) c1
    exfalso; omega
  · skip
    have k3 := iv_nlt (X := x0.toInt) (Y := (0)) rfl (by decide) c1
    refine lv_iload_n hx hb dJ3_checkIndex_8e157_4 rfl (lv_at hl 0 rfl) ?_
    refine lv_iload_n hx hb dJ3_checkIndex_8e157_5 rfl (lv_at hl 1 rfl) ?_
    refine lv_icmp_lt (tgt := 16) hx hb dJ3_checkIndex_8e157_6 (by decide) (fun c4 => ?_) (fun c4 => ?_)
    · skip
      have k5 := iv_lt (X := x0.toInt) (Y := (136)) rfl (by decide) c4
      refine lv_iload_n hx hb dJ3_checkIndex_8e157_16 rfl (lv_at hl 0 rfl) ?_
      have hpost : True := trivial
      rw [hQ]
      exact W.iret (v := x0) hx hb hr (fun t ht hW => ⟨⟨x0, (), rfl, hpost, ht⟩, hS.F ht⟩) hS.2.2 dJ3_checkIndex_8e157_17
    · skip
      have k6 := iv_nlt (X := x0.toInt) (Y := (136)) rfl (by decide) c4
      exfalso; omega
set_option maxHeartbeats 4000000 in
set_option maxRecDepth 100000 in
theorem c_J3_checkIndex_n (l : Launch) (H0 : Heap) (x0 : Int32) (hx0 : 0 ≤ x0.toInt ∧ x0.toInt ≤ 135) : Met l yJ3_checkIndex_8e157 (tb (.code yJ3_checkIndex_8e157 cJ3_checkIndex_8e157 3 (some .int))) (rm 0) (va_Pc [.int x0, .int 136, .null] (PS H0)) (QS H0 (fun r => True)) 0 0 (fun _ => False) := by
  refine Met.ofW (cc := cJ3_checkIndex_8e157) (maxL := 3) (ret := (some .int)) (by decide) rfl ?_
  intro p e s m args below meth c s₁ B hml hv
  obtain ⟨hav, rfl, hN⟩ := hv
  have hx := B.exec
  have hb := B.bytes
  have hr := B.returns
  have hts := atoms_spec (ws := tb (.code yJ3_checkIndex_8e157 cJ3_checkIndex_8e157 3 (some .int))) B.pre
  have hown : s.vm.findClass RJ3 = some m.cls := findClass_of_methodNamed B.named
  have hlocks := B.notSynchronized
  have hS : va_S (fun _ => False) s.heap s.heap [] := va_S.rf
  have hl := lv_entry ([.int x0, .int 136, .null]) (n := 3) (Nat.le_of_ble_eq_true rfl)
  rw [show entryFrame m args 3 = entryFrame m ([.int x0, .int 136, .null] : List Value).toArray 3 from by rw [hav], lg_entry_eq]
  generalize (lg_sl ([.int x0, .int 136, .null]) ++ List.replicate (3 - (lg_sl ([.int x0, .int 136, .null])).length) Slot.unset).toArray = ls at hl ⊢
  have hl : lv_has ls 3 [(0, .int x0), (1, .int 136), (2, .null)] := hl
  generalize hR : (headSpec (tb (.code yJ3_checkIndex_8e157 cJ3_checkIndex_8e157 3 (some .int))) (rm 0)).room = R
  have hR := hR.symm
  generalize hQ : MQ below (QS s.heap (fun r => True)) args s 0 0 (fun _ => False) = QF
  have hQ := hQ.symm
  refine lv_iload_n hx hb dJ3_checkIndex_8e157_0 rfl (lv_at hl 0 rfl) ?_
  refine lv_if_lt (tgt := 9) hx hb dJ3_checkIndex_8e157_1 (by decide) (fun c1 => ?_) (fun c1 => ?_)
  · skip
    have k2 := iv_lt (X := x0.toInt) (Y := (0)) rfl (by decide) c1
    exfalso; omega
  · skip
    have k3 := iv_nlt (X := x0.toInt) (Y := (0)) rfl (by decide) c1
    refine lv_iload_n hx hb dJ3_checkIndex_8e157_4 rfl (lv_at hl 0 rfl) ?_
    refine lv_iload_n hx hb dJ3_checkIndex_8e157_5 rfl (lv_at hl 1 rfl) ?_
    refine lv_icmp_lt (tgt := 16) hx hb dJ3_checkIndex_8e157_6 (by decide) (fun c4 => ?_) (fun c4 => ?_)
    · skip
      have k5 := iv_lt (X := x0.toInt) (Y := (136)) rfl (by decide) c4
      refine lv_iload_n hx hb dJ3_checkIndex_8e157_16 rfl (lv_at hl 0 rfl) ?_
      have hpost : True := trivial
      rw [hQ]
      exact W.iret (v := x0) hx hb hr (fun t ht hW => ⟨⟨x0, (), rfl, hpost, ht⟩, hS.F ht⟩) hS.2.2 dJ3_checkIndex_8e157_17
    · skip
      have k6 := iv_nlt (X := x0.toInt) (Y := (136)) rfl (by decide) c4
      exfalso; omega
theorem dJ0_checkIndex_df160_0g : (decode cJ0_checkIndex_df160 0 = .ok (.iload_n 0, 1)) ∧ (decode cJ0_checkIndex_df160 1 = .ok (.iload_n 1, 1)) ∧ (decode cJ0_checkIndex_df160 2 = .ok (.getstatic 1053, 3)) ∧ (decode cJ0_checkIndex_df160 5 = .ok (.invokestatic 1059, 3)) ∧ (decode cJ0_checkIndex_df160 8 = .ok (.pop, 1)) ∧ (decode cJ0_checkIndex_df160 9 = .ok (.return_, 1)) := by decide +kernel
theorem dJ0_checkIndex_df160_0 : decode cJ0_checkIndex_df160 0 = .ok (.iload_n 0, 1) := dJ0_checkIndex_df160_0g.1
theorem dJ0_checkIndex_df160_1 : decode cJ0_checkIndex_df160 1 = .ok (.iload_n 1, 1) := dJ0_checkIndex_df160_0g.2.1
theorem dJ0_checkIndex_df160_2 : decode cJ0_checkIndex_df160 2 = .ok (.getstatic 1053, 3) := dJ0_checkIndex_df160_0g.2.2.1
theorem dJ0_checkIndex_df160_5 : decode cJ0_checkIndex_df160 5 = .ok (.invokestatic 1059, 3) := dJ0_checkIndex_df160_0g.2.2.2.1
theorem dJ0_checkIndex_df160_8 : decode cJ0_checkIndex_df160 8 = .ok (.pop, 1) := dJ0_checkIndex_df160_0g.2.2.2.2.1
theorem dJ0_checkIndex_df160_9 : decode cJ0_checkIndex_df160 9 = .ok (.return_, 1) := dJ0_checkIndex_df160_0g.2.2.2.2.2
set_option maxHeartbeats 4000000 in
set_option maxRecDepth 100000 in
theorem c_J0_checkIndex_df160 (l : Launch) (adK adV : Nat → Nat) (H0 : Heap) (x0 : Int32) (hx0 : 0 ≤ x0.toInt ∧ x0.toInt ≤ 135) : Met l yJ0_checkIndex_df160 (tb (.code yJ0_checkIndex_df160 cJ0_checkIndex_df160 2 none)) (rm 1) (va_Pc [.int x0, .int 136] (PSW adK adV H0)) (QSv H0) 0 0 (fun _ => False) := by
  refine Met.ofW (cc := cJ0_checkIndex_df160) (maxL := 2) (ret := none) (by decide) rfl ?_
  intro p e s m args below meth c s₁ B hml hv
  obtain ⟨hav, rfl, hN, hWS⟩ := hv
  have hx := B.exec
  have hb := B.bytes
  have hr := B.returns
  have hts := atoms_spec (ws := tb (.code yJ0_checkIndex_df160 cJ0_checkIndex_df160 2 none)) B.pre
  have hown : s.vm.findClass RJ0 = some m.cls := findClass_of_methodNamed B.named
  have hlocks := B.notSynchronized
  have hS : va_S (fun _ => False) s.heap s.heap [] := va_S.rf
  have hl := lv_entry ([.int x0, .int 136]) (n := 2) (Nat.le_of_ble_eq_true rfl)
  rw [show entryFrame m args 2 = entryFrame m ([.int x0, .int 136] : List Value).toArray 2 from by rw [hav], lg_entry_eq]
  generalize (lg_sl ([.int x0, .int 136]) ++ List.replicate (2 - (lg_sl ([.int x0, .int 136])).length) Slot.unset).toArray = ls at hl ⊢
  have hl : lv_has ls 2 [(0, .int x0), (1, .int 136)] := hl
  generalize hR : (headSpec (tb (.code yJ0_checkIndex_df160 cJ0_checkIndex_df160 2 none)) (rm 1)).room = R
  have hR := hR.symm
  generalize hQ : MQ below (QSv s.heap) args s 0 0 (fun _ => False) = QF
  have hQ := hQ.symm
  refine lv_iload_n hx hb dJ0_checkIndex_df160_0 rfl (lv_at hl 0 rfl) ?_
  refine lv_iload_n hx hb dJ0_checkIndex_df160_1 rfl (lv_at hl 1 rfl) ?_
  rcases hWS.2.1 with hZS | ⟨tS, hZS⟩
  · skip
    refine va_gets hx hb hZS hS hown (hts _ (tb_c wd_676)) (fun _ h => h) dJ0_checkIndex_df160_2 ?_
    refine th_cSs (As := [.int x0, .int 136, .null]) (rest := []) (n := 3) (d := 0) ⟨hx, hb, hml, hown, hts⟩ (c_J3_checkIndex_n l s.heap x0 ⟨by omega, by omega⟩) wd_678 wd_679 wd_18 wd_680 (by decide +kernel) ⟨by rw [hR]; exact Nat.le_of_ble_eq_true rfl, by rw [hR]; exact Nat.le_of_ble_eq_true rfl⟩ hN hS rfl hl.1 rfl (Nat.le_of_ble_eq_true rfl) dJ0_checkIndex_df160_5 ⟨Nat.zero_le _, Nat.zero_le _⟩ (fun r1 locs hp hS => ?_)
    have hnr := hp
    refine lv_pop hx hb dJ0_checkIndex_df160_8 rfl ?_
    rw [hQ]
    exact W.vret hx hb hr (fun t ht hW => ⟨⟨(), rfl, trivial, ht⟩, hS.F ht⟩) hS.2.2 dJ0_checkIndex_df160_9
  · skip
    refine va_gets hx hb hZS hS hown (hts _ (tb_c wd_676)) (fun _ h => h) dJ0_checkIndex_df160_2 ?_
    refine th_cSs (As := [.int x0, .int 136, .ref tS]) (rest := []) (n := 3) (d := 0) ⟨hx, hb, hml, hown, hts⟩ (c_J3_checkIndex_8e157 l s.heap x0 tS ⟨by omega, by omega⟩) wd_678 wd_679 wd_18 wd_680 (by decide +kernel) ⟨by rw [hR]; exact Nat.le_of_ble_eq_true rfl, by rw [hR]; exact Nat.le_of_ble_eq_true rfl⟩ hN hS rfl hl.1 rfl (Nat.le_of_ble_eq_true rfl) dJ0_checkIndex_df160_5 ⟨Nat.zero_le _, Nat.zero_le _⟩ (fun r2 locs hp hS => ?_)
    have hnr := hp
    refine lv_pop hx hb dJ0_checkIndex_df160_8 rfl ?_
    rw [hQ]
    exact W.vret hx hb hr (fun t ht hW => ⟨⟨(), rfl, trivial, ht⟩, hS.F ht⟩) hS.2.2 dJ0_checkIndex_df160_9
theorem dJ1_charAt_3b067_0g : (decode cJ1_charAt_3b067 0 = .ok (.iload_n 1, 1)) ∧ (decode cJ1_charAt_3b067 1 = .ok (.aload_n 0, 1)) ∧ (decode cJ1_charAt_3b067 2 = .ok (.arraylength, 1)) ∧ (decode cJ1_charAt_3b067 3 = .ok (.invokestatic 9, 3)) ∧ (decode cJ1_charAt_3b067 6 = .ok (.aload_n 0, 1)) ∧ (decode cJ1_charAt_3b067 7 = .ok (.iload_n 1, 1)) ∧ (decode cJ1_charAt_3b067 8 = .ok (.baload, 1)) ∧ (decode cJ1_charAt_3b067 9 = .ok (.sipush 255, 3)) ∧ (decode cJ1_charAt_3b067 12 = .ok (.iand, 1)) ∧ (decode cJ1_charAt_3b067 13 = .ok (.i2c, 1)) := by decide +kernel
theorem dJ1_charAt_3b067_0 : decode cJ1_charAt_3b067 0 = .ok (.iload_n 1, 1) := dJ1_charAt_3b067_0g.1
theorem dJ1_charAt_3b067_1 : decode cJ1_charAt_3b067 1 = .ok (.aload_n 0, 1) := dJ1_charAt_3b067_0g.2.1
theorem dJ1_charAt_3b067_2 : decode cJ1_charAt_3b067 2 = .ok (.arraylength, 1) := dJ1_charAt_3b067_0g.2.2.1
theorem dJ1_charAt_3b067_3 : decode cJ1_charAt_3b067 3 = .ok (.invokestatic 9, 3) := dJ1_charAt_3b067_0g.2.2.2.1
theorem dJ1_charAt_3b067_6 : decode cJ1_charAt_3b067 6 = .ok (.aload_n 0, 1) := dJ1_charAt_3b067_0g.2.2.2.2.1
theorem dJ1_charAt_3b067_7 : decode cJ1_charAt_3b067 7 = .ok (.iload_n 1, 1) := dJ1_charAt_3b067_0g.2.2.2.2.2.1
theorem dJ1_charAt_3b067_8 : decode cJ1_charAt_3b067 8 = .ok (.baload, 1) := dJ1_charAt_3b067_0g.2.2.2.2.2.2.1
theorem dJ1_charAt_3b067_9 : decode cJ1_charAt_3b067 9 = .ok (.sipush 255, 3) := dJ1_charAt_3b067_0g.2.2.2.2.2.2.2.1
theorem dJ1_charAt_3b067_12 : decode cJ1_charAt_3b067 12 = .ok (.iand, 1) := dJ1_charAt_3b067_0g.2.2.2.2.2.2.2.2.1
theorem dJ1_charAt_3b067_13 : decode cJ1_charAt_3b067 13 = .ok (.i2c, 1) := dJ1_charAt_3b067_0g.2.2.2.2.2.2.2.2.2
theorem dJ1_charAt_3b067_14 : decode cJ1_charAt_3b067 14 = .ok (.ireturn, 1) := by decide +kernel
set_option maxHeartbeats 4000000 in
set_option maxRecDepth 100000 in
theorem c_J1_charAt_3b067 (l : Launch) (adK adV : Nat → Nat) (H0 : Heap) (x1 : Int32) (hx1 : 0 ≤ x1.toInt ∧ x1.toInt ≤ 135) : Met l yJ1_charAt_3b067 (tb (.code yJ1_charAt_3b067 cJ1_charAt_3b067 2 (some .char))) (rm 2) (va_Pc [.ref (adV 0), .int x1] (PSW adK adV H0)) (QS H0 (fun r => (narrow .char (.int (r : Int32)) = .int (r : Int32)) ∧ (r : Int32) = w_byt.getD x1.toNatClampNeg 0)) 0 0 (fun _ => False) := by
  refine Met.ofW (cc := cJ1_charAt_3b067) (maxL := 2) (ret := (some .char)) (by decide) rfl ?_
  intro p e s m args below meth c s₁ B hml hv
  obtain ⟨hav, rfl, hN, hWS⟩ := hv
  have hx := B.exec
  have hb := B.bytes
  have hr := B.returns
  have hts := atoms_spec (ws := tb (.code yJ1_charAt_3b067 cJ1_charAt_3b067 2 (some .char))) B.pre
  have hown : s.vm.findClass RJ1 = some m.cls := findClass_of_methodNamed B.named
  have hlocks := B.notSynchronized
  have hS : va_S (fun _ => False) s.heap s.heap [] := va_S.rf
  have hl := lv_entry ([.ref (adV 0), .int x1]) (n := 2) (Nat.le_of_ble_eq_true rfl)
  rw [show entryFrame m args 2 = entryFrame m ([.ref (adV 0), .int x1] : List Value).toArray 2 from by rw [hav], lg_entry_eq]
  generalize (lg_sl ([.ref (adV 0), .int x1]) ++ List.replicate (2 - (lg_sl ([.ref (adV 0), .int x1])).length) Slot.unset).toArray = ls at hl ⊢
  have hl : lv_has ls 2 [(0, .ref (adV 0)), (1, .int x1)] := hl
  generalize hR : (headSpec (tb (.code yJ1_charAt_3b067 cJ1_charAt_3b067 2 (some .char))) (rm 2)).room = R
  have hR := hR.symm
  generalize hQ : MQ below (QS s.heap (fun r => (narrow .char (.int (r : Int32)) = .int (r : Int32)) ∧ (r : Int32) = w_byt.getD x1.toNatClampNeg 0)) args s 0 0 (fun _ => False) = QF
  have hQ := hQ.symm
  refine lv_iload_n hx hb dJ1_charAt_3b067_0 rfl (lv_at hl 1 rfl) ?_
  refine lv_aload_n hx hb dJ1_charAt_3b067_1 rfl (lv_at hl 0 rfl) ?_
  refine va_tlen (N := 136) hx hb (hWS.2.2.1.1 0 (by decide)).2.2.2 hS (v := 136) (by decide) dJ1_charAt_3b067_2 ?_
  refine sw_Sv (As := [.int x1, .int 136]) (rest := []) (n := 2) (d := 1) ⟨hx, hb, hml, hown, hts⟩ (c_J0_checkIndex_df160 l adK adV s.heap x1 ⟨by omega, by omega⟩) wd_673 wd_674 wd_16 wd_675 (by decide +kernel) ⟨by rw [hR]; exact Nat.le_of_ble_eq_true rfl, by rw [hR]; exact Nat.le_of_ble_eq_true rfl⟩ hN hWS hS rfl hl.1 rfl (Nat.le_of_ble_eq_true rfl) dJ1_charAt_3b067_3 ⟨Nat.zero_le _, Nat.zero_le _⟩ (fun locs hS => ?_)
  refine lv_aload_n hx hb dJ1_charAt_3b067_6 rfl (lv_at hl 0 rfl) ?_
  refine lv_iload_n hx hb dJ1_charAt_3b067_7 rfl (lv_at hl 1 rfl) ?_
  refine va_tb (N := 136) hx hb (hWS.2.2.1.1 0 (by decide)).2.2.2 hS (iv_in (X := x1.toInt) rfl (by omega) (by omega)) rfl dJ1_charAt_3b067_8 ?_
  refine lv_topi (fun v2 e3 => ?_)
  refine lv_sipush (v := 255) hx hb dJ1_charAt_3b067_9 (by decide) ?_
  refine lv_iand hx hb dJ1_charAt_3b067_12 ?_
  refine lv_topi (fun v4 e5 => ?_)
  refine lv_i2c hx hb dJ1_charAt_3b067_13 rfl ?_
  refine lv_topi (fun v6 e7 => ?_)
  have hpost : (narrow .char (.int (v6 : Int32)) = .int (v6 : Int32)) ∧ (v6 : Int32) = w_byt.getD x1.toNatClampNeg 0 := ⟨by rw [e7, e5, sc_c2]; exact sc_nar _, by rw [e7, e5, e3]; exact w_ch _ (by show x1.toInt.toNat < 136; omega)⟩
  rw [hQ]
  exact W.zret (v := v6) hx hb hr hpost.1 (fun t ht hW => ⟨⟨v6, (), rfl, hpost, ht⟩, hS.F ht⟩) hS.2.2 dJ1_charAt_3b067_14
theorem dJ0_isLatin1_aae02_0g : (decode cJ0_isLatin1_aae02 0 = .ok (.getstatic 38, 3)) ∧ (decode cJ0_isLatin1_aae02 3 = .ok (.ifCond .eq 14, 3)) ∧ (decode cJ0_isLatin1_aae02 6 = .ok (.aload_n 0, 1)) ∧ (decode cJ0_isLatin1_aae02 7 = .ok (.getfield 15, 3)) ∧ (decode cJ0_isLatin1_aae02 10 = .ok (.ifCond .ne 7, 3)) ∧ (decode cJ0_isLatin1_aae02 13 = .ok (.iconst 1, 1)) ∧ (decode cJ0_isLatin1_aae02 14 = .ok (.goto 4, 3)) ∧ (decode cJ0_isLatin1_aae02 17 = .ok (.iconst 0, 1)) ∧ (decode cJ0_isLatin1_aae02 18 = .ok (.ireturn, 1)) := by decide +kernel
theorem dJ0_isLatin1_aae02_0 : decode cJ0_isLatin1_aae02 0 = .ok (.getstatic 38, 3) := dJ0_isLatin1_aae02_0g.1
theorem dJ0_isLatin1_aae02_3 : decode cJ0_isLatin1_aae02 3 = .ok (.ifCond .eq 14, 3) := dJ0_isLatin1_aae02_0g.2.1
theorem dJ0_isLatin1_aae02_6 : decode cJ0_isLatin1_aae02 6 = .ok (.aload_n 0, 1) := dJ0_isLatin1_aae02_0g.2.2.1
theorem dJ0_isLatin1_aae02_7 : decode cJ0_isLatin1_aae02 7 = .ok (.getfield 15, 3) := dJ0_isLatin1_aae02_0g.2.2.2.1
theorem dJ0_isLatin1_aae02_10 : decode cJ0_isLatin1_aae02 10 = .ok (.ifCond .ne 7, 3) := dJ0_isLatin1_aae02_0g.2.2.2.2.1
theorem dJ0_isLatin1_aae02_13 : decode cJ0_isLatin1_aae02 13 = .ok (.iconst 1, 1) := dJ0_isLatin1_aae02_0g.2.2.2.2.2.1
theorem dJ0_isLatin1_aae02_14 : decode cJ0_isLatin1_aae02 14 = .ok (.goto 4, 3) := dJ0_isLatin1_aae02_0g.2.2.2.2.2.2.1
theorem dJ0_isLatin1_aae02_17 : decode cJ0_isLatin1_aae02 17 = .ok (.iconst 0, 1) := dJ0_isLatin1_aae02_0g.2.2.2.2.2.2.2.1
theorem dJ0_isLatin1_aae02_18 : decode cJ0_isLatin1_aae02 18 = .ok (.ireturn, 1) := dJ0_isLatin1_aae02_0g.2.2.2.2.2.2.2.2
set_option maxHeartbeats 4000000 in
set_option maxRecDepth 100000 in
theorem c_J0_isLatin1_aae02 (l : Launch) (adK adV : Nat → Nat) (H0 : Heap)  : Met l yJ0_isLatin1_aae02 (tb (.code yJ0_isLatin1_aae02 cJ0_isLatin1_aae02 1 (some .boolean))) (rm 0) (va_Pc [.ref (adK 0)] (PSW adK adV H0)) (QS H0 (fun r => (r : Int32) = 1)) 0 0 (fun _ => False) := by
  refine Met.ofW (cc := cJ0_isLatin1_aae02) (maxL := 1) (ret := (some .boolean)) (by decide) rfl ?_
  intro p e s m args below meth c s₁ B hml hv
  obtain ⟨hav, rfl, hN, hWS⟩ := hv
  have hx := B.exec
  have hb := B.bytes
  have hr := B.returns
  have hts := atoms_spec (ws := tb (.code yJ0_isLatin1_aae02 cJ0_isLatin1_aae02 1 (some .boolean))) B.pre
  have hown : s.vm.findClass RJ0 = some m.cls := findClass_of_methodNamed B.named
  have hlocks := B.notSynchronized
  have hS : va_S (fun _ => False) s.heap s.heap [] := va_S.rf
  have hl := lv_entry ([.ref (adK 0)]) (n := 1) (Nat.le_of_ble_eq_true rfl)
  rw [show entryFrame m args 1 = entryFrame m ([.ref (adK 0)] : List Value).toArray 1 from by rw [hav], lg_entry_eq]
  generalize (lg_sl ([.ref (adK 0)]) ++ List.replicate (1 - (lg_sl ([.ref (adK 0)])).length) Slot.unset).toArray = ls at hl ⊢
  have hl : lv_has ls 1 [(0, .ref (adK 0))] := hl
  generalize hR : (headSpec (tb (.code yJ0_isLatin1_aae02 cJ0_isLatin1_aae02 1 (some .boolean))) (rm 0)).room = R
  have hR := hR.symm
  generalize hQ : MQ below (QS s.heap (fun r => (r : Int32) = 1)) args s 0 0 (fun _ => False) = QF
  have hQ := hQ.symm
  refine va_gets hx hb hWS.1 hS hown (hts _ (tb_c wd_668)) (fun _ h => h) dJ0_isLatin1_aae02_0 ?_
  refine lv_if_eq (tgt := 17) hx hb dJ0_isLatin1_aae02_3 (by decide) (fun c => absurd c (by decide)) (fun _ => ?_)
  refine lv_aload_n hx hb dJ0_isLatin1_aae02_6 rfl (lv_at hl 0 rfl) ?_
  refine vk_getf hx hb (hWS.2.2.1.1 0 (by decide)).2.1 hS hown (hts _ (tb_c wd_1870)) (fun _ h => h) dJ0_isLatin1_aae02_7 ?_
  refine lv_if_ne (tgt := 17) hx hb dJ0_isLatin1_aae02_10 (by decide) (fun c => absurd c (by decide)) (fun _ => ?_)
  refine lv_iconst (v := 1) hx hb dJ0_isLatin1_aae02_13 (by decide) ?_
  refine lv_goto (tgt := 18) hx hb dJ0_isLatin1_aae02_14 (by decide) ?_
  have hpost : (1 : Int32) = 1 := rfl
  rw [hQ]
  exact W.zret (v := 1) hx hb hr (by decide) (fun t ht hW => ⟨⟨1, (), rfl, hpost, ht⟩, hS.F ht⟩) hS.2.2 dJ0_isLatin1_aae02_18
theorem dJ0_charAt_5068e_0g : (decode cJ0_charAt_5068e 0 = .ok (.aload_n 0, 1)) ∧ (decode cJ0_charAt_5068e 1 = .ok (.invokevirtual 492, 3)) ∧ (decode cJ0_charAt_5068e 4 = .ok (.ifCond .eq 12, 3)) ∧ (decode cJ0_charAt_5068e 7 = .ok (.aload_n 0, 1)) ∧ (decode cJ0_charAt_5068e 8 = .ok (.getfield 9, 3)) ∧ (decode cJ0_charAt_5068e 11 = .ok (.iload_n 1, 1)) ∧ (decode cJ0_charAt_5068e 12 = .ok (.invokestatic 495, 3)) ∧ (decode cJ0_charAt_5068e 15 = .ok (.ireturn, 1)) ∧ (decode cJ0_charAt_5068e 16 = .ok (.aload_n 0, 1)) ∧ (decode cJ0_charAt_5068e 17 = .ok (.getfield 9, 3)) := by decide +kernel
theorem dJ0_charAt_5068e_0 : decode cJ0_charAt_5068e 0 = .ok (.aload_n 0, 1) := dJ0_charAt_5068e_0g.1
theorem dJ0_charAt_5068e_1 : decode cJ0_charAt_5068e 1 = .ok (.invokevirtual 492, 3) := dJ0_charAt_5068e_0g.2.1
theorem dJ0_charAt_5068e_4 : decode cJ0_charAt_5068e 4 = .ok (.ifCond .eq 12, 3) := dJ0_charAt_5068e_0g.2.2.1
theorem dJ0_charAt_5068e_7 : decode cJ0_charAt_5068e 7 = .ok (.aload_n 0, 1) := dJ0_charAt_5068e_0g.2.2.2.1
theorem dJ0_charAt_5068e_8 : decode cJ0_charAt_5068e 8 = .ok (.getfield 9, 3) := dJ0_charAt_5068e_0g.2.2.2.2.1
theorem dJ0_charAt_5068e_11 : decode cJ0_charAt_5068e 11 = .ok (.iload_n 1, 1) := dJ0_charAt_5068e_0g.2.2.2.2.2.1
theorem dJ0_charAt_5068e_12 : decode cJ0_charAt_5068e 12 = .ok (.invokestatic 495, 3) := dJ0_charAt_5068e_0g.2.2.2.2.2.2.1
theorem dJ0_charAt_5068e_15 : decode cJ0_charAt_5068e 15 = .ok (.ireturn, 1) := dJ0_charAt_5068e_0g.2.2.2.2.2.2.2.1
theorem dJ0_charAt_5068e_16 : decode cJ0_charAt_5068e 16 = .ok (.aload_n 0, 1) := dJ0_charAt_5068e_0g.2.2.2.2.2.2.2.2.1
theorem dJ0_charAt_5068e_17 : decode cJ0_charAt_5068e 17 = .ok (.getfield 9, 3) := dJ0_charAt_5068e_0g.2.2.2.2.2.2.2.2.2
theorem dJ0_charAt_5068e_20g : (decode cJ0_charAt_5068e 20 = .ok (.iload_n 1, 1)) ∧ (decode cJ0_charAt_5068e 21 = .ok (.invokestatic 498, 3)) ∧ (decode cJ0_charAt_5068e 24 = .ok (.ireturn, 1)) := by decide +kernel
theorem dJ0_charAt_5068e_20 : decode cJ0_charAt_5068e 20 = .ok (.iload_n 1, 1) := dJ0_charAt_5068e_20g.1
theorem dJ0_charAt_5068e_21 : decode cJ0_charAt_5068e 21 = .ok (.invokestatic 498, 3) := dJ0_charAt_5068e_20g.2.1
theorem dJ0_charAt_5068e_24 : decode cJ0_charAt_5068e 24 = .ok (.ireturn, 1) := dJ0_charAt_5068e_20g.2.2
set_option maxHeartbeats 4000000 in
set_option maxRecDepth 100000 in
theorem c_J0_charAt_5068e (l : Launch) (adK adV : Nat → Nat) (H0 : Heap) (x1 : Int32) (hx1 : 0 ≤ x1.toInt ∧ x1.toInt ≤ 135) : Met l yJ0_charAt_5068e (tb (.code yJ0_charAt_5068e cJ0_charAt_5068e 2 (some .char))) (rm 3) (va_Pc [.ref (adK 0), .int x1] (PSW adK adV H0)) (QS H0 (fun r => (narrow .char (.int (r : Int32)) = .int (r : Int32)) ∧ (r : Int32) = w_byt.getD x1.toNatClampNeg 0)) 0 0 (fun _ => False) := by
  refine Met.ofW (cc := cJ0_charAt_5068e) (maxL := 2) (ret := (some .char)) (by decide) rfl ?_
  intro p e s m args below meth c s₁ B hml hv
  obtain ⟨hav, rfl, hN, hWS⟩ := hv
  have hx := B.exec
  have hb := B.bytes
  have hr := B.returns
  have hts := atoms_spec (ws := tb (.code yJ0_charAt_5068e cJ0_charAt_5068e 2 (some .char))) B.pre
  have hown : s.vm.findClass RJ0 = some m.cls := findClass_of_methodNamed B.named
  have hlocks := B.notSynchronized
  have hS : va_S (fun _ => False) s.heap s.heap [] := va_S.rf
  have hl := lv_entry ([.ref (adK 0), .int x1]) (n := 2) (Nat.le_of_ble_eq_true rfl)
  rw [show entryFrame m args 2 = entryFrame m ([.ref (adK 0), .int x1] : List Value).toArray 2 from by rw [hav], lg_entry_eq]
  generalize (lg_sl ([.ref (adK 0), .int x1]) ++ List.replicate (2 - (lg_sl ([.ref (adK 0), .int x1])).length) Slot.unset).toArray = ls at hl ⊢
  have hl : lv_has ls 2 [(0, .ref (adK 0)), (1, .int x1)] := hl
  generalize hR : (headSpec (tb (.code yJ0_charAt_5068e cJ0_charAt_5068e 2 (some .char))) (rm 3)).room = R
  have hR := hR.symm
  generalize hQ : MQ below (QS s.heap (fun r => (narrow .char (.int (r : Int32)) = .int (r : Int32)) ∧ (r : Int32) = w_byt.getD x1.toNatClampNeg 0)) args s 0 0 (fun _ => False) = QF
  have hQ := hQ.symm
  refine lv_aload_n hx hb dJ0_charAt_5068e_0 rfl (lv_at hl 0 rfl) ?_
  refine sw_V (As := []) (rest := []) (n := 0) (d := 0) ⟨hx, hb, hml, hown, hts⟩ (c_J0_isLatin1_aae02 l adK adV s.heap) wd_664 wd_665 wd_666 wd_16 wd_667 (by decide +kernel) ⟨by rw [hR]; exact Nat.le_of_ble_eq_true rfl, by rw [hR]; exact Nat.le_of_ble_eq_true rfl⟩ hN hWS hS rfl hl.1 rfl (Nat.le_of_ble_eq_true rfl) dJ0_charAt_5068e_1 ⟨Nat.zero_le _, Nat.zero_le _⟩ (fun r1 locs hp hS => ?_)
  obtain rfl := hp.symm
  refine lv_if_eq (tgt := 16) hx hb dJ0_charAt_5068e_4 (by decide) (fun c => absurd c (by decide)) (fun _ => ?_)
  refine lv_aload_n hx hb dJ0_charAt_5068e_7 rfl (lv_at hl 0 rfl) ?_
  refine vk_getf hx hb (hWS.2.2.1.1 0 (by decide)).2.2.1 hS hown (hts _ (tb_c wd_1871)) (fun _ h => h) dJ0_charAt_5068e_8 ?_
  refine lv_iload_n hx hb dJ0_charAt_5068e_11 rfl (lv_at hl 1 rfl) ?_
  refine sw_S (As := [.ref (adV 0), .int x1]) (rest := []) (n := 2) (d := 2) ⟨hx, hb, hml, hown, hts⟩ (c_J1_charAt_3b067 l adK adV s.heap x1 ⟨by omega, by omega⟩) wd_670 wd_671 wd_17 wd_672 (by decide +kernel) ⟨by rw [hR]; exact Nat.le_of_ble_eq_true rfl, by rw [hR]; exact Nat.le_of_ble_eq_true rfl⟩ hN hWS hS rfl hl.1 rfl (Nat.le_of_ble_eq_true rfl) dJ0_charAt_5068e_12 ⟨Nat.zero_le _, Nat.zero_le _⟩ (fun r2 locs hp hS => ?_)
  have hnr := hp
  have hpost : (narrow .char (.int (r2 : Int32)) = .int (r2 : Int32)) ∧ (r2 : Int32) = w_byt.getD x1.toNatClampNeg 0 := hnr
  rw [hQ]
  exact W.zret (v := r2) hx hb hr hpost.1 (fun t ht hW => ⟨⟨r2, (), rfl, hpost, ht⟩, hS.F ht⟩) hS.2.2 dJ0_charAt_5068e_15
