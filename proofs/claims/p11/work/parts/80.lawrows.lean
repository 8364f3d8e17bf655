/-! ===== the law: two worlds side by side ===== -/
abbrev LWa (s : State) : Nat → Prop := fun q => s.heap.size ≤ q
def LWs (E : Nat → ClassId) (D : va_G) (s : State) (xa ma : Nat) (Gc Gm : th_G) (n nm : Nat) (H : Heap) (locs : List Loc) : Prop := th_I (okC E) D Gc [] H ∧ Gc xa = some (15, n) ∧ th_I (okM E) D Gm [] H ∧ Gm ma = some (10, nm) ∧ (∀ (r : Nat) (k : th_K), Gc r = some k → s.heap.size ≤ r) ∧ (∀ (r : Nat) (k : th_K), Gm r = some k → s.heap.size ≤ r) ∧ (∀ (r : Nat) (k : th_K), Gm r = some k → Gc r = none) ∧ va_S (LWa s) s.heap H locs
theorem th_keep {ok : th_G → th_K → va_E → Prop} {D : va_G} {G : th_G} {H H1 : Heap} {B : Nat → Prop} (hI : th_I ok D G [] H) (hk : ∀ q : Nat, q < H.size → ¬ B q → H1[q]? = H[q]?) (hd : ∀ (r : Nat) (k : th_K), G r = some k → ¬ B r) : th_I ok D G [] H1 := fun b k hb hx => by
  obtain ⟨e, h1, h2⟩ := hI b k hb hx
  exact ⟨e, h1.kept (hk b h1.lt (hd b k hb)), h2⟩
theorem mm_lt' {E : Nat → ClassId} {D : va_G} {G : th_G} {H : Heap} (hI : th_I (okM E) D G [] H) {q : Nat} {k : th_K} (h : G q = some k) : q < H.size := by
  obtain ⟨e, h1, -⟩ := hI q k h List.not_mem_nil
  exact h1.lt
theorem mi_blind {E : Nat → ClassId} {D : va_G} {G : th_G} {av : List Value} {sz : Nat} : FrameBlind (va_Pc av (fun U => U.heap.size = sz ∧ th_P E D G U ∧ th_AO U)) := fun a U g mk z => ⟨z.1, z.2.1, ⟨z.2.2.1.1, th_N.same (u := U) rfl z.2.2.1.2.1, va_K.moved (u := U) (U := U.calling g mk a) (Vm.Alike.refl U.vm) z.2.2.1.2.2⟩, z.2.2.2.moved (U := U.calling g mk a) (Vm.Alike.refl U.vm)⟩
theorem mb_blind {E : Nat → ClassId} {D : va_G} {G : th_G} {av : List Value} {sz : Nat} {q : Nat × va_E} : FrameBlind (va_Pc av (fun U => U.heap.size = sz ∧ th_PM E D G U ∧ va_at D vwCl q U.heap)) := fun a U g mk z => ⟨z.1, z.2.1, ⟨z.2.2.1.1, th_N.same (u := U) rfl z.2.2.1.2.1, va_K.moved (u := U) (U := U.calling g mk a) (Vm.Alike.refl U.vm) z.2.2.1.2.2⟩, z.2.2.2⟩
section LW
variable {p : Program} {l : Launch} {e : Env} {R : Room} {s : State} {m : MethodId} {args : Array Value} {below : List Frame} {meth : Method} {c : Code} {H : Heap} {locs : List Loc} {cells slots : Nat} {Q : State → Prop}
variable {cc : ByteArray} {pc nL : Nat} {ls : Array Slot} {rest st0 As : List Value} {D : va_G} {E : Nat → ClassId} {Gc Gm : th_G} {xa ma nn nm nn2 nm2 : Nat} {Gd : th_G} {adK adV : Nat → Nat}
variable {own : String} {index n maxL d mc ms : Nat} {y : MethodName} {bytes : ByteArray} {ret : Option FieldType} {cw : Cond} {rr : Room}
theorem lc_i {post : Int32 → Prop} (F : CallFix p m c cc nL s args (tb cw) own) (hM : Met l y (tb (.code y bytes maxL ret)) (rm d) (va_Pc (.ref xa :: As) (th_P E D Gc)) (QI E D Gc post) 0 0 (th_A Gc))
    (h1 : Cond.methodLink own index y ∈ TB) (h2 : Cond.instanceMethod y ∈ TB) (h3 : Cond.selects RX11 y y ∈ TB) (h4 : Cond.initialized RX11 ∈ TB) (h5 : Cond.code y bytes maxL ret ∈ TB)
    (hd : y.cls = RX11 ∧ y.cls ≠ "java/lang/invoke/MethodHandle" ∧ y.cls ≠ "java/lang/invoke/VarHandle" ∧ (parseMethodDescriptor y.desc).map (fun d => d.parameters.length) = some n) (hR : d + 1 ≤ R.frames ∧ 8 + (maxL + 11) + 40 * d ≤ R.locals)
    (hL : LWs E D s xa ma Gc Gm nn nm H locs) (hN : th_N s) (hK : va_K D vwCl (th_tys E) s)
    (hn : As.length = n) (hsize : ls.size = nL) (hst : st0 = As.reverse ++ .ref xa :: rest) (hrm : (rest.map fun v => v.category).sum ≤ 8) (hdg : decode cc pc = .ok (.invokevirtual index, 3)) (hcs : cells ≤ R.cells ∧ slots ≤ R.slots)
    (kk : ∀ (r : Int32) (H1 : Heap) (locs1 : List Loc), post r → LWs E D s xa ma Gc Gm nn nm H1 locs1 → W p l e R s m args below meth c H1 locs1 cells slots Q (F0 m (pc + 3) ls (.int r :: rest))) : W p l e R s m args below meth c H locs cells slots Q (F0 m pc ls st0) := by
  obtain ⟨hI, hx, hI2, hm, hA1, hA2, hdj, hS⟩ := hL
  obtain ⟨fs, hO⟩ := rc_15 hI hx List.not_mem_nil
  exact va_calli (va_runV (As := As) (rest := rest) F hM (cwV n F.2.2.2.2 (tb_V h1 h2 h3 h4 h5) rfl rfl rfl hd hR) ⟨th_blind, va_recv hK (th_one hO) (q := (RX11, TX11, 17)) rfl (q0 := 0) rfl, fun U hU hW => ⟨rfl, by rw [hU]; exact hI, hN.warm hW, va_K.moved hW.alike hK⟩⟩ rfl hn hsize hst (lv_room hrm) hdg hcs) hS (fun q _ h => by obtain ⟨k', h⟩ := h; exact hA1 q k' h) (fun q h => by obtain ⟨k', h⟩ := h; exact hA1 q k' h) (fun r u t H1 locs1 ht hvm hw hB hz hk hS1 => kk r H1 locs1 hw ⟨by rw [← ht]; exact hB.1, hx, th_keep hI2 hk (fun r k h z => by obtain ⟨k', z⟩ := z; rw [hdj r k h] at z; cases z), hm, hA1, hA2, hdj, hS1⟩)
theorem lm_i {post : Int32 → Prop} (F : CallFix p m c cc nL s args (tb cw) own) (hM : Met l y (tb (.code y bytes maxL ret)) (rm d) (va_Pc (.ref ma :: As) (PX E D Gm (fun _ => True))) (QXi E D Gm (fun r _ => post r)) 0 0 (th_A Gm))
    (h1 : Cond.methodLink own index y ∈ TB) (h2 : Cond.instanceMethod y ∈ TB) (h3 : Cond.selects RX12 y y ∈ TB) (h4 : Cond.initialized RX12 ∈ TB) (h5 : Cond.code y bytes maxL ret ∈ TB)
    (hd : y.cls = RX12 ∧ y.cls ≠ "java/lang/invoke/MethodHandle" ∧ y.cls ≠ "java/lang/invoke/VarHandle" ∧ (parseMethodDescriptor y.desc).map (fun d => d.parameters.length) = some n) (hR : d + 1 ≤ R.frames ∧ 8 + (maxL + 11) + 40 * d ≤ R.locals)
    (hL : LWs E D s xa ma Gc Gm nn nm H locs) (hN : th_N s) (hK : va_K D vwCl (th_tys E) s)
    (hn : As.length = n) (hsize : ls.size = nL) (hst : st0 = As.reverse ++ .ref ma :: rest) (hrm : (rest.map fun v => v.category).sum ≤ 8) (hdg : decode cc pc = .ok (.invokevirtual index, 3)) (hcs : cells ≤ R.cells ∧ slots ≤ R.slots)
    (kk : ∀ (r : Int32) (H1 : Heap) (locs1 : List Loc), post r → LWs E D s xa ma Gc Gm nn nm H1 locs1 → W p l e R s m args below meth c H1 locs1 cells slots Q (F0 m (pc + 3) ls (.int r :: rest))) : W p l e R s m args below meth c H locs cells slots Q (F0 m pc ls st0) := by
  obtain ⟨hI, hx, hI2, hm, hA1, hA2, hdj, hS⟩ := hL
  obtain ⟨fs, hO⟩ := rm_10 hI2 hm List.not_mem_nil
  exact va_calli (va_runV (As := As) (rest := rest) F hM (cwV n F.2.2.2.2 (tb_V h1 h2 h3 h4 h5) rfl rfl rfl hd hR) ⟨mx_blind, va_recv hK (th_one hO) (q := (RX12, TX12, 52)) rfl (q0 := 0) rfl, fun U hU hW => ⟨rfl, ⟨by rw [hU]; exact hI2, hN.warm hW, va_K.moved hW.alike hK⟩, trivial⟩⟩ rfl hn hsize hst (lv_room hrm) hdg hcs) hS (fun q _ h => by obtain ⟨k', h⟩ := h; exact hA2 q k' h) (fun q h => by obtain ⟨k', h⟩ := h; exact hA2 q k' h) (fun r u t H1 locs1 ht hvm hw hB hz hk hS1 => kk r H1 locs1 (by rw [← hw]; exact hB.2) ⟨th_keep hI hk (fun r k h z => by obtain ⟨k', z⟩ := z; rw [hdj r k' z] at h; cases h), hx, by rw [← ht]; exact hB.1.1, hm, hA1, hA2, hdj, hS1⟩)
/-- the makers: an image, a law -/
theorem lc_g {post : Int32 → Prop} (F : CallFix p m c cc nL s args (tb cw) own) (hM : Met l y (tb (.code y bytes maxL ret)) (rm d) (va_Pc (.ref xa :: As) (th_P E D Gc)) (QI E D Gd post) 0 0 (th_A Gd)) (hGA : th_A Gd = th_A Gc) (hdx : Gd xa = some (15, nn2))
    (h1 : Cond.methodLink own index y ∈ TB) (h2 : Cond.instanceMethod y ∈ TB) (h3 : Cond.selects RX11 y y ∈ TB) (h4 : Cond.initialized RX11 ∈ TB) (h5 : Cond.code y bytes maxL ret ∈ TB)
    (hd : y.cls = RX11 ∧ y.cls ≠ "java/lang/invoke/MethodHandle" ∧ y.cls ≠ "java/lang/invoke/VarHandle" ∧ (parseMethodDescriptor y.desc).map (fun d => d.parameters.length) = some n) (hR : d + 1 ≤ R.frames ∧ 8 + (maxL + 11) + 40 * d ≤ R.locals)
    (hL : LWs E D s xa ma Gc Gm nn nm H locs) (hN : th_N s) (hK : va_K D vwCl (th_tys E) s)
    (hn : As.length = n) (hsize : ls.size = nL) (hst : st0 = As.reverse ++ .ref xa :: rest) (hrm : (rest.map fun v => v.category).sum ≤ 8) (hdg : decode cc pc = .ok (.invokevirtual index, 3)) (hcs : cells ≤ R.cells ∧ slots ≤ R.slots)
    (kk : ∀ (r : Int32) (H1 : Heap) (locs1 : List Loc), post r → LWs E D s xa ma Gd Gm nn2 nm H1 locs1 → W p l e R s m args below meth c H1 locs1 cells slots Q (F0 m (pc + 3) ls (.int r :: rest))) : W p l e R s m args below meth c H locs cells slots Q (F0 m pc ls st0) := by
  obtain ⟨hI, hx, hI2, hm, hA1, hA2, hdj, hS⟩ := hL
  have hA : ∀ q, th_A Gd q → th_A Gc q := fun q h => by rw [hGA] at h; exact h
  obtain ⟨fs, hO⟩ := rc_15 hI hx List.not_mem_nil
  exact va_calli (va_runV (As := As) (rest := rest) F hM (cwV n F.2.2.2.2 (tb_V h1 h2 h3 h4 h5) rfl rfl rfl hd hR) ⟨th_blind, va_recv hK (th_one hO) (q := (RX11, TX11, 17)) rfl (q0 := 0) rfl, fun U hU hW => ⟨rfl, by rw [hU]; exact hI, hN.warm hW, va_K.moved hW.alike hK⟩⟩ rfl hn hsize hst (lv_room hrm) hdg hcs) hS (fun q _ h => by obtain ⟨k', h⟩ := hA q h; exact hA1 q k' h) (fun q h => by obtain ⟨k', h⟩ := hA q h; exact hA1 q k' h) (fun r u t H1 locs1 ht hvm hw hB hz hk hS1 => kk r H1 locs1 hw ⟨by rw [← ht]; exact hB.1, hdx, th_keep hI2 hk (fun r k h z => by obtain ⟨k', z⟩ := hA _ z; rw [hdj r k h] at z; cases z), hm, fun r k h => (by obtain ⟨k2, h⟩ := hA r ⟨k, h⟩; exact hA1 r k2 h), hA2, fun r k h => (by
      cases hg : Gd r with
      | none => rfl
      | some k' => obtain ⟨k2, z⟩ := hA r ⟨k', hg⟩; rw [hdj r k h] at z; cases z), hS1⟩)
theorem lm_g {post : Int32 → Prop} (F : CallFix p m c cc nL s args (tb cw) own) (hM : Met l y (tb (.code y bytes maxL ret)) (rm d) (va_Pc (.ref ma :: As) (PX E D Gm (fun _ => True))) (QXi E D Gd (fun r _ => post r)) 0 0 (th_A Gd)) (hGA : th_A Gd = th_A Gm) (hdm : Gd ma = some (10, nm2))
    (h1 : Cond.methodLink own index y ∈ TB) (h2 : Cond.instanceMethod y ∈ TB) (h3 : Cond.selects RX12 y y ∈ TB) (h4 : Cond.initialized RX12 ∈ TB) (h5 : Cond.code y bytes maxL ret ∈ TB)
    (hd : y.cls = RX12 ∧ y.cls ≠ "java/lang/invoke/MethodHandle" ∧ y.cls ≠ "java/lang/invoke/VarHandle" ∧ (parseMethodDescriptor y.desc).map (fun d => d.parameters.length) = some n) (hR : d + 1 ≤ R.frames ∧ 8 + (maxL + 11) + 40 * d ≤ R.locals)
    (hL : LWs E D s xa ma Gc Gm nn nm H locs) (hN : th_N s) (hK : va_K D vwCl (th_tys E) s)
    (hn : As.length = n) (hsize : ls.size = nL) (hst : st0 = As.reverse ++ .ref ma :: rest) (hrm : (rest.map fun v => v.category).sum ≤ 8) (hdg : decode cc pc = .ok (.invokevirtual index, 3)) (hcs : cells ≤ R.cells ∧ slots ≤ R.slots)
    (kk : ∀ (r : Int32) (H1 : Heap) (locs1 : List Loc), post r → LWs E D s xa ma Gc Gd nn nm2 H1 locs1 → W p l e R s m args below meth c H1 locs1 cells slots Q (F0 m (pc + 3) ls (.int r :: rest))) : W p l e R s m args below meth c H locs cells slots Q (F0 m pc ls st0) := by
  obtain ⟨hI, hx, hI2, hm, hA1, hA2, hdj, hS⟩ := hL
  have hA : ∀ q, th_A Gd q → th_A Gm q := fun q h => by rw [hGA] at h; exact h
  obtain ⟨fs, hO⟩ := rm_10 hI2 hm List.not_mem_nil
  exact va_calli (va_runV (As := As) (rest := rest) F hM (cwV n F.2.2.2.2 (tb_V h1 h2 h3 h4 h5) rfl rfl rfl hd hR) ⟨mx_blind, va_recv hK (th_one hO) (q := (RX12, TX12, 52)) rfl (q0 := 0) rfl, fun U hU hW => ⟨rfl, ⟨by rw [hU]; exact hI2, hN.warm hW, va_K.moved hW.alike hK⟩, trivial⟩⟩ rfl hn hsize hst (lv_room hrm) hdg hcs) hS (fun q _ h => by obtain ⟨k', h⟩ := hA q h; exact hA2 q k' h) (fun q h => by obtain ⟨k', h⟩ := hA q h; exact hA2 q k' h) (fun r u t H1 locs1 ht hvm hw hB hz hk hS1 => kk r H1 locs1 (by rw [← hw]; exact hB.2) ⟨th_keep hI hk (fun r k h z => by obtain ⟨k', z⟩ := hA _ z; rw [hdj r k' z] at h; cases h), hx, by rw [← ht]; exact hB.1.1, hdm, hA1, fun r k h => (by obtain ⟨k2, h⟩ := hA r ⟨k, h⟩; exact hA2 r k2 h), fun r k h => (by obtain ⟨k2, h⟩ := hA r ⟨k, h⟩; exact hdj r k2 h), hS1⟩)
theorem lc_mk {PP : State → Prop} {post : Int32 → Prop} (F : CallFix p m c cc nL s args (tb cw) own) (hM : Met l y (tb (.code y bytes maxL ret)) rr (va_Pc (.ref xa :: As) PP) (QMI E D Gd H.size post) mc ms (nA Gd H.size)) (hbl : FrameBlind (va_Pc (.ref xa :: As) PP)) (hPP : ∀ U : State, U.heap = H → s.WarmedH U.vm → PP U)
    (h1 : Cond.methodLink own index y ∈ TB) (h2 : Cond.instanceMethod y ∈ TB) (h3 : Cond.selects RX11 y y ∈ TB) (h4 : Cond.initialized RX11 ∈ TB) (h5 : Cond.code y bytes maxL ret ∈ TB) (hrr : rr.cells = mc ∧ rr.slots = ms)
    (hd : y.cls = RX11 ∧ y.cls ≠ "java/lang/invoke/MethodHandle" ∧ y.cls ≠ "java/lang/invoke/VarHandle" ∧ (parseMethodDescriptor y.desc).map (fun d => d.parameters.length) = some n) (hR : rr.frames + 1 ≤ R.frames ∧ 8 + (maxL + 11) + rr.locals ≤ R.locals)
    (hL : LWs E D s xa ma Gc Gm nn nm H locs) (hdx : Gd xa = some (15, nn2)) (hdd : ∀ (r : Nat) (k : th_K), Gd r = some k → ∃ k', Gc r = some k') (hK : va_K D vwCl (th_tys E) s)
    (hn : As.length = n) (hsize : ls.size = nL) (hst : st0 = As.reverse ++ .ref xa :: rest) (hrm : (rest.map fun v => v.category).sum ≤ 8) (hdg : decode cc pc = .ok (.invokevirtual index, 3)) (hcs : cells + mc ≤ R.cells ∧ slots + ms ≤ R.slots)
    (kk : ∀ (r : Int32) (G' : th_G) (H1 : Heap) (locs1 : List Loc), post r → LWs E D s xa ma G' Gm nn2 nm H1 locs1 → W p l e R s m args below meth c H1 locs1 (cells + mc) (slots + ms) Q (F0 m (pc + 3) ls (.int r :: rest))) : W p l e R s m args below meth c H locs cells slots Q (F0 m pc ls st0) := by
  obtain ⟨hI, hx, hI2, hm, hA1, hA2, hdj, hS⟩ := hL
  obtain ⟨fs, hO⟩ := rc_15 hI hx List.not_mem_nil
  have hF : ∀ q, nA Gd H.size q → LWa s q := fun q h => by
    rcases h with ⟨k', h⟩ | h
    · obtain ⟨k2, h⟩ := hdd _ _ h; exact hA1 q k2 h
    · exact Nat.le_trans hS.1 h
  exact va_calli (va_runV (As := As) (rest := rest) F hM (cwV n F.2.2.2.2 (tb_V h1 h2 h3 h4 h5) rfl hrr.1 hrr.2 hd hR) ⟨hbl, va_recv hK (th_one hO) (q := (RX11, TX11, 17)) rfl (q0 := 0) rfl, fun U hU hW => ⟨rfl, hPP U hU hW⟩⟩ rfl hn hsize hst (lv_room hrm) hdg hcs) hS (fun q _ h => hF q h) hF (fun r G' t H1 locs1 ht hvm hw hB hz hk hS1 => kk r G' H1 locs1 hw.1 ⟨by rw [← ht]; exact hB.1, hw.2.1 _ _ hdx, th_keep hI2 hk (fun r k h z => by
      rcases z with ⟨k', z⟩ | z
      · obtain ⟨k2, z⟩ := hdd _ _ z; rw [hdj r k h] at z; cases z
      · exact absurd (mm_lt' hI2 h) (by omega)), hm, fun r k h => by
      rcases hw.2.2 r k h with h | h
      · obtain ⟨k2, h⟩ := hdd _ _ h; exact hA1 r k2 h
      · exact Nat.le_trans hS.1 h, hA2, fun r k h => by
      cases hg : G' r with
      | none => rfl
      | some k' =>
        rcases hw.2.2 r k' hg with z | z
        · obtain ⟨k2, z⟩ := hdd _ _ z; rw [hdj r k h] at z; cases z
        · exact absurd (mm_lt' hI2 h) (by omega), hS1⟩)
/-- the two constructors -/
theorem lc_new {ci : Nat} {fs : List Value} (F : CallFix p m c cc nL s args (tb cw) own) (hM : Met l y (tb (.code y bytes maxL none)) rr (va_Pc (.ref xa :: As) (fun U => U.heap.size = H.size ∧ th_P E D (fun _ => none) U ∧ va_at D vwCl (xa, .inr (ci, fs)) U.heap ∧ th_AO U)) (QN E D (fun _ => none) xa H.size) mc ms (mA (fun _ => none) xa H.size))
    (h1 : Cond.methodLink own index y ∈ TB) (h2 : Cond.instanceMethod y ∈ TB) (h4 : Cond.initialized y.cls ∈ TB) (h5 : Cond.code y bytes maxL none ∈ TB)
    (hd : rr.cells = mc ∧ rr.slots = ms ∧ y.name = "<init>" ∧ y.cls ≠ "java/lang/invoke/MethodHandle" ∧ y.cls ≠ "java/lang/invoke/VarHandle" ∧ (parseMethodDescriptor y.desc).map (fun d => d.parameters.length) = some n) (hR : rr.frames + 1 ≤ R.frames ∧ 8 + (maxL + 11) + rr.locals ≤ R.locals)
    (hN : th_N s) (hAO : th_AO s) (hK : va_K D vwCl (th_tys E) s) (hOb : va_at D vwCl (xa, .inr (ci, fs)) H) (hbs : s.heap.size ≤ xa) (hS : va_S (LWa s) s.heap H locs)
    (hn : As.length = n) (hsize : ls.size = nL) (hst : st0 = As.reverse ++ .ref xa :: rest) (hrm : (rest.map fun v => v.category).sum ≤ 8) (hdg : decode cc pc = .ok (.invokespecial index, 3)) (hcs : cells + mc ≤ R.cells ∧ slots + ms ≤ R.slots)
    (kk : ∀ (G' : th_G) (nn : Nat) (H1 : Heap) (locs1 : List Loc), th_I (okC E) D G' [] H1 → G' xa = some (15, nn) → nn % 401 = 0 → (∀ (r : Nat) (k : th_K), G' r = some k → s.heap.size ≤ r) → va_S (LWa s) s.heap H1 locs1 → W p l e R s m args below meth c H1 locs1 (cells + mc) (slots + ms) Q (F0 m (pc + 3) ls rest)) : W p l e R s m args below meth c H locs cells slots Q (F0 m pc ls st0) := by
  obtain ⟨g1, g2, g3, g4⟩ := hd
  have hF : ∀ q, mA (fun _ => none) xa H.size q → LWa s q := fun q h => by
    rcases h with ⟨k', h⟩ | h | h
    · cases h
    · rw [h]; exact hbs
    · exact Nat.le_trans hS.1 h
  exact va_callv (va_runI (As := As) (rest := rest) F hM (cwI n F.2.2.2.2 (tb_G h5) rfl g1 g2 (F.2.2.2.2 _ (tb_c h4)) (F.2.2.2.2 _ (tb_c h1)) (F.2.2.2.2 _ (tb_c h2)) g3 g4 hR) ⟨th_blindM, fun U hU hW => ⟨rfl, by rw [hU], ⟨fun a k h => (by cases h), hN.warm hW, va_K.moved hW.alike hK⟩, by rw [hU]; exact hOb, hAO.moved hW.alike⟩⟩ rfl hn hsize hst (lv_room hrm) hdg hcs) hS (fun q _ h => hF q h) hF (fun G' t H1 locs1 ht hvm hw hB hz hk hS1 => by
    obtain ⟨nn, hx, hx3⟩ := hw.2.1
    exact kk G' nn H1 locs1 (by rw [← ht]; exact hB.1) hx hx3 (fun r k h => by
      rcases hw.2.2 r k h with h | h | h
      · cases h
      · rw [h]; exact hbs
      · exact Nat.le_trans hS.1 h) hS1)
theorem lm_new {ci : Nat} {fs : List Value} (F : CallFix p m c cc nL s args (tb cw) own) (hM : Met l y (tb (.code y bytes maxL none)) rr (va_Pc (.ref ma :: As) (fun U => U.heap.size = H.size ∧ th_PM E D (fun _ => none) U ∧ va_at D vwCl (ma, .inr (ci, fs)) U.heap)) (QMM E D (fun _ => none) ma H.size) mc ms (mA (fun _ => none) ma H.size))
    (h1 : Cond.methodLink own index y ∈ TB) (h2 : Cond.instanceMethod y ∈ TB) (h4 : Cond.initialized y.cls ∈ TB) (h5 : Cond.code y bytes maxL none ∈ TB)
    (hd : rr.cells = mc ∧ rr.slots = ms ∧ y.name = "<init>" ∧ y.cls ≠ "java/lang/invoke/MethodHandle" ∧ y.cls ≠ "java/lang/invoke/VarHandle" ∧ (parseMethodDescriptor y.desc).map (fun d => d.parameters.length) = some n) (hR : rr.frames + 1 ≤ R.frames ∧ 8 + (maxL + 11) + rr.locals ≤ R.locals)
    (hN : th_N s) (hK : va_K D vwCl (th_tys E) s) (hOb : va_at D vwCl (ma, .inr (ci, fs)) H) (hbs : s.heap.size ≤ ma) (hS : va_S (LWa s) s.heap H locs) (hI : th_I (okC E) D Gc [] H) (hx : Gc xa = some (15, nn)) (hA1 : ∀ (r : Nat) (k : th_K), Gc r = some k → s.heap.size ≤ r) (hnm : Gc ma = none)
    (hn : As.length = n) (hsize : ls.size = nL) (hst : st0 = As.reverse ++ .ref ma :: rest) (hrm : (rest.map fun v => v.category).sum ≤ 8) (hdg : decode cc pc = .ok (.invokespecial index, 3)) (hcs : cells + mc ≤ R.cells ∧ slots + ms ≤ R.slots)
    (kk : ∀ (Gm : th_G) (H1 : Heap) (locs1 : List Loc), LWs E D s xa ma Gc Gm nn 0 H1 locs1 → W p l e R s m args below meth c H1 locs1 (cells + mc) (slots + ms) Q (F0 m (pc + 3) ls rest)) : W p l e R s m args below meth c H locs cells slots Q (F0 m pc ls st0) := by
  obtain ⟨g1, g2, g3, g4⟩ := hd
  have hF : ∀ q, mA (fun _ => none) ma H.size q → LWa s q := fun q h => by
    rcases h with ⟨k', h⟩ | h | h
    · cases h
    · rw [h]; exact hbs
    · exact Nat.le_trans hS.1 h
  exact va_callv (va_runI (As := As) (rest := rest) F hM (cwI n F.2.2.2.2 (tb_G h5) rfl g1 g2 (F.2.2.2.2 _ (tb_c h4)) (F.2.2.2.2 _ (tb_c h1)) (F.2.2.2.2 _ (tb_c h2)) g3 g4 hR) ⟨mb_blind, fun U hU hW => ⟨rfl, by rw [hU], ⟨fun a k h => (by cases h), hN.warm hW, va_K.moved hW.alike hK⟩, by rw [hU]; exact hOb⟩⟩ rfl hn hsize hst (lv_room hrm) hdg hcs) hS (fun q _ h => hF q h) hF (fun G' t H1 locs1 ht hvm hw hB hz hk hS1 => kk G' H1 locs1 ⟨th_keep hI hk (fun r k h z => by
      rcases z with ⟨k', z⟩ | z | z
      · cases z
      · rw [z, hnm] at h; cases h
      · exact absurd (th_lt hI h) (by omega)), hx, by rw [← ht]; exact hB.1, hw.2.1, hA1, fun r k h => by
      rcases hw.2.2 r k h with h | h | h
      · cases h
      · rw [h]; exact hbs
      · exact Nat.le_trans hS.1 h, fun r k h => by
      cases hg : Gc r with
      | none => rfl
      | some k' =>
        rcases hw.2.2 r k h with z | z | z
        · cases z
        · rw [z, hnm] at hg; cases hg
        · exact absurd (th_lt hI hg) (by omega), hS1⟩)
end LW
theorem pump_same {P Q : Prop} {r t : Int32} (h : (r = -1 ∧ ¬ P) ∨ (r = -2 ∧ P ∧ ¬ Q) ∨ (r = 0 ∧ P ∧ Q)) (h' : (t = -1 ∧ ¬ P) ∨ (t = -2 ∧ P ∧ ¬ Q) ∨ (t = 0 ∧ P ∧ Q)) : r = t := by
  rcases h with ⟨a, b⟩ | ⟨a, b, c⟩ | ⟨a, b, c⟩ <;> rcases h' with ⟨a', b'⟩ | ⟨a', b', c'⟩ | ⟨a', b', c'⟩ <;> first | (rw [a, a']; done) | exact absurd b b' | exact absurd b' b | exact absurd c c' | exact absurd c' c
theorem two_same {P : Prop} {r t : Int32} (h : (r = -1 ∧ ¬ P) ∨ (r = 0 ∧ P)) (h' : (t = -1 ∧ ¬ P) ∨ (t = 0 ∧ P)) : r = t := by
  rcases h with ⟨a, b⟩ | ⟨a, b⟩ <;> rcases h' with ⟨a', b'⟩ | ⟨a', b'⟩ <;> first | (rw [a, a']; done) | exact absurd b b' | exact absurd b' b
theorem wk_same {P : Prop} {r t a : Int32} (h : (r = -1 ∧ ¬ P) ∨ (r = a ∧ P)) (h' : (t = -1 ∧ ¬ P) ∨ (t = a ∧ P)) : r = t := by
  rcases h with ⟨a, b⟩ | ⟨a, b⟩ <;> rcases h' with ⟨a', b'⟩ | ⟨a', b'⟩ <;> first | (rw [a, a']; done) | exact absurd b b' | exact absurd b' b
theorem tie_f {n : Nat} : gN (n % 401) = fN n % 401 := by
  unfold gN fN
  by_cases h : n % 401 + 20 ≤ 400
  · rw [if_pos h, if_pos h]; omega
  · rw [if_neg h, if_neg h]
theorem tie_e {n : Nat} {x : Int32} : hN' (n % 401) x = eN n x % 401 := by
  unfold hN' eN
  by_cases h : 0 ≤ x.toInt ∧ x.toInt ≤ ((n % 401 : Nat) : Int)
  · rw [if_pos h, if_pos h]; omega
  · rw [if_neg h, if_neg h]
