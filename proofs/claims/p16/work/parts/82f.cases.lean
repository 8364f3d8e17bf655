set_option maxHeartbeats 4000000 in
set_option maxRecDepth 100000 in
theorem law_c25 {p : Program} {e : Env} {s : State} {m : MethodId} {below : List Frame} {meth : Method} {c : Code} {l : Launch} {b L : Nat} {xs : Nat → Int32} (C0 : lw_At p s m meth c b L xs) {E : Nat → Nat} {D : va_G} {adK adV : Nat → Nat} (X0 : LCx E D adK adV s) {xa ma i : Nat} (hi : i + 7 ≤ L) (hL : L ≤ 3584) {Gc Gm : th_G} {nn : Nat} {H : Heap} {locs : List Loc} (hW : LWs E D s xa ma Gc Gm nn H locs) (hT : TI E Gc xa nn) (hU : UQ Gm 1 ∧ UQ Gm 2 ∧ UQ Gm 11 ∧ UQ Gm 4 ∧ UQ Gm 10) {cells slots : Nat} (hc1 : cells + 18 ≤ 600000) (hc2 : slots + 441 ≤ 7302250) {ls : Array Slot} (hl : lv_has ls 4 [(3, .int (nI i)), (2, .ref ma), (1, .ref xa), (0, .ref b)]) (kk : ∀ (E : Nat → Nat) (Gc : th_G) (nn : Nat) (H : Heap) (locs : List Loc), LCx E D adK adV s → LWs E D s xa ma Gc Gm nn H locs → TI E Gc xa nn → W p l e room_1 s m #[Value.ref b] below meth c H locs (cells + 18) (slots + 441) (lw_Z below #[Value.ref b] s) (F0 m 2004 ls [])) : W p l e room_1 s m #[Value.ref b] below meth c H locs cells slots (lw_Z below #[Value.ref b] s) (F0 m 1153 ls []) := by
  obtain ⟨hx, hb, hr, hml, hown, hts0, hX, hbl, hlocks, hgv⟩ := id C0
  obtain ⟨hN, hK, hWS, hCL, hAO⟩ := id X0
  have hbA : ¬ LWa s b := Nat.not_le.mpr hbl
  have hts := lw_tb (w := Cond.initialized RX12) wd_13 hts0
  have hR1 : room_1.cells = 600000 := rfl
  have hR2 : room_1.slots = 7302250 := rfl
  have ti : (nI i).toInt = (i : Int) := nI_toInt (by omega)
  refine lv_aload_n hx hb dLaw_1153 rfl (lv_at hl 2 rfl) ?_
  refine lc_i (As := []) (rest := []) (n := 0) (d := 2) ⟨hx, hb, hml, hown, hts⟩ (c_X11_undo l E D Gc xa nn hW.2.1 ) wd_908 wd_909 wd_910 wd_1 wd_911 (by decide +kernel) ⟨Nat.le_of_ble_eq_true rfl, Nat.le_of_ble_eq_true rfl⟩ hW hN hK rfl hl.1 rfl (Nat.le_of_ble_eq_true rfl) dLaw_1154 ⟨by rw [hR1]; omega, by rw [hR2]; omega⟩ (fun r165 H locs hr165 hW => ?_)
  refine lv_pop hx hb dLaw_1157 rfl ?_
  refine lv_aload_n hx hb dLaw_1158 rfl (lv_at hl 1 rfl) ?_
  refine lm_i (post := fun _ => True) (As := []) (rest := []) (n := 0) (d := 1) ⟨hx, hb, hml, hown, hts⟩ (c_X12_undo l E D Gm ma hW.2.2.2.1 ) wd_1709 wd_1710 wd_1711 wd_13 wd_1712 (by decide +kernel) ⟨Nat.le_of_ble_eq_true rfl, Nat.le_of_ble_eq_true rfl⟩ hW hN hK rfl hl.1 rfl (Nat.le_of_ble_eq_true rfl) dLaw_1159 ⟨by rw [hR1]; omega, by rw [hR2]; omega⟩ (fun r166 H locs hr166 hW => ?_)
  refine lv_pop hx hb dLaw_1162 rfl ?_
  refine lv_goto (tgt := 2004) hx hb dLaw_1163 (by decide) ?_
  exact W.widen (k := cells + 18) (n := slots + 441) (by omega) (by omega) (kk _ _ _ _ _ X0 hW hT)
set_option maxHeartbeats 4000000 in
set_option maxRecDepth 100000 in
theorem law_c26 {p : Program} {e : Env} {s : State} {m : MethodId} {below : List Frame} {meth : Method} {c : Code} {l : Launch} {b L : Nat} {xs : Nat → Int32} (C0 : lw_At p s m meth c b L xs) {E : Nat → Nat} {D : va_G} {adK adV : Nat → Nat} (X0 : LCx E D adK adV s) {xa ma i : Nat} (hi : i + 7 ≤ L) (hL : L ≤ 3584) {Gc Gm : th_G} {nn : Nat} {H : Heap} {locs : List Loc} (hW : LWs E D s xa ma Gc Gm nn H locs) (hT : TI E Gc xa nn) (hU : UQ Gm 1 ∧ UQ Gm 2 ∧ UQ Gm 11 ∧ UQ Gm 4 ∧ UQ Gm 10) {cells slots : Nat} (hc1 : cells + 18 ≤ 600000) (hc2 : slots + 441 ≤ 7302250) {ls : Array Slot} (hl : lv_has ls 4 [(3, .int (nI i)), (2, .ref ma), (1, .ref xa), (0, .ref b)]) (kk : ∀ (E : Nat → Nat) (Gc : th_G) (nn : Nat) (H : Heap) (locs : List Loc), LCx E D adK adV s → LWs E D s xa ma Gc Gm nn H locs → TI E Gc xa nn → W p l e room_1 s m #[Value.ref b] below meth c H locs (cells + 18) (slots + 441) (lw_Z below #[Value.ref b] s) (F0 m 2004 ls [])) : W p l e room_1 s m #[Value.ref b] below meth c H locs cells slots (lw_Z below #[Value.ref b] s) (F0 m 1166 ls []) := by
  obtain ⟨hx, hb, hr, hml, hown, hts0, hX, hbl, hlocks, hgv⟩ := id C0
  obtain ⟨hN, hK, hWS, hCL, hAO⟩ := id X0
  have hbA : ¬ LWa s b := Nat.not_le.mpr hbl
  have hts := lw_tb (w := Cond.initialized RX12) wd_13 hts0
  have hR1 : room_1.cells = 600000 := rfl
  have hR2 : room_1.slots = 7302250 := rfl
  have ti : (nI i).toInt = (i : Int) := nI_toInt (by omega)
  refine lv_aload_n hx hb dLaw_1166 rfl (lv_at hl 2 rfl) ?_
  refine lv_aload_n hx hb dLaw_1167 rfl (lv_at hl 3 rfl) ?_
  refine lv_iload_n hx hb dLaw_1168 rfl (lv_at hl 0 rfl) ?_
  refine lv_iconst (v := 1) hx hb dLaw_1169 (by decide) ?_
  refine lv_iadd hx hb dLaw_1170 ?_
  refine lv_topi (fun z167 ez167 => ?_)
  have tz167 := iv_add (Y := 1) ti (by decide) ez167 (by omega) (by omega)
  refine va_sld hx hb hX hbl hbA hW.2.2.2.2.2.2.2 (iv_in (X := (i : Int) + 1) (by omega) (by omega) (by omega)) dLaw_1171 ?_
  rw [show z167.toNatClampNeg = i + 1 from by show z167.toInt.toNat = _; omega]
  refine lv_aload_n hx hb dLaw_1172 rfl (lv_at hl 3 rfl) ?_
  refine lv_iload_n hx hb dLaw_1173 rfl (lv_at hl 0 rfl) ?_
  refine lv_iconst (v := 2) hx hb dLaw_1174 (by decide) ?_
  refine lv_iadd hx hb dLaw_1175 ?_
  refine lv_topi (fun z168 ez168 => ?_)
  have tz168 := iv_add (Y := 2) ti (by decide) ez168 (by omega) (by omega)
  refine va_sld hx hb hX hbl hbA hW.2.2.2.2.2.2.2 (iv_in (X := (i : Int) + 2) (by omega) (by omega) (by omega)) dLaw_1176 ?_
  rw [show z168.toNatClampNeg = i + 2 from by show z168.toInt.toNat = _; omega]
  refine lv_aload_n hx hb dLaw_1177 rfl (lv_at hl 3 rfl) ?_
  refine lv_iload_n hx hb dLaw_1178 rfl (lv_at hl 0 rfl) ?_
  refine lv_iconst (v := 3) hx hb dLaw_1179 (by decide) ?_
  refine lv_iadd hx hb dLaw_1180 ?_
  refine lv_topi (fun z169 ez169 => ?_)
  have tz169 := iv_add (Y := 3) ti (by decide) ez169 (by omega) (by omega)
  refine va_sld hx hb hX hbl hbA hW.2.2.2.2.2.2.2 (iv_in (X := (i : Int) + 3) (by omega) (by omega) (by omega)) dLaw_1181 ?_
  rw [show z169.toNatClampNeg = i + 3 from by show z169.toInt.toNat = _; omega]
  refine lc_i (As := [.int (xs (i + 1)), .int (xs (i + 2)), .int (xs (i + 3))]) (rest := []) (n := 3) (d := 8) ⟨hx, hb, hml, hown, hts⟩ (c_X11_dye l E D Gc xa nn hW.2.1 (xs (i + 1)) (xs (i + 2)) (xs (i + 3))) wd_912 wd_913 wd_914 wd_1 wd_915 (by decide +kernel) ⟨Nat.le_of_ble_eq_true rfl, Nat.le_of_ble_eq_true rfl⟩ hW hN hK rfl hl.1 rfl (Nat.le_of_ble_eq_true rfl) dLaw_1182 ⟨by rw [hR1]; omega, by rw [hR2]; omega⟩ (fun r170 H locs hr170 hW => ?_)
  refine lv_pop hx hb dLaw_1185 rfl ?_
  refine lv_aload_n hx hb dLaw_1186 rfl (lv_at hl 1 rfl) ?_
  refine lv_aload_n hx hb dLaw_1187 rfl (lv_at hl 3 rfl) ?_
  refine lv_iload_n hx hb dLaw_1188 rfl (lv_at hl 0 rfl) ?_
  refine lv_iconst (v := 1) hx hb dLaw_1189 (by decide) ?_
  refine lv_iadd hx hb dLaw_1190 ?_
  refine lv_topi (fun z171 ez171 => ?_)
  have tz171 := iv_add (Y := 1) ti (by decide) ez171 (by omega) (by omega)
  refine va_sld hx hb hX hbl hbA hW.2.2.2.2.2.2.2 (iv_in (X := (i : Int) + 1) (by omega) (by omega) (by omega)) dLaw_1191 ?_
  rw [show z171.toNatClampNeg = i + 1 from by show z171.toInt.toNat = _; omega]
  refine lv_aload_n hx hb dLaw_1192 rfl (lv_at hl 3 rfl) ?_
  refine lv_iload_n hx hb dLaw_1193 rfl (lv_at hl 0 rfl) ?_
  refine lv_iconst (v := 2) hx hb dLaw_1194 (by decide) ?_
  refine lv_iadd hx hb dLaw_1195 ?_
  refine lv_topi (fun z172 ez172 => ?_)
  have tz172 := iv_add (Y := 2) ti (by decide) ez172 (by omega) (by omega)
  refine va_sld hx hb hX hbl hbA hW.2.2.2.2.2.2.2 (iv_in (X := (i : Int) + 2) (by omega) (by omega) (by omega)) dLaw_1196 ?_
  rw [show z172.toNatClampNeg = i + 2 from by show z172.toInt.toNat = _; omega]
  refine lv_aload_n hx hb dLaw_1197 rfl (lv_at hl 3 rfl) ?_
  refine lv_iload_n hx hb dLaw_1198 rfl (lv_at hl 0 rfl) ?_
  refine lv_iconst (v := 3) hx hb dLaw_1199 (by decide) ?_
  refine lv_iadd hx hb dLaw_1200 ?_
  refine lv_topi (fun z173 ez173 => ?_)
  have tz173 := iv_add (Y := 3) ti (by decide) ez173 (by omega) (by omega)
  refine va_sld hx hb hX hbl hbA hW.2.2.2.2.2.2.2 (iv_in (X := (i : Int) + 3) (by omega) (by omega) (by omega)) dLaw_1201 ?_
  rw [show z173.toNatClampNeg = i + 3 from by show z173.toInt.toNat = _; omega]
  refine lm_i (post := fun _ => True) (As := [.int (xs (i + 1)), .int (xs (i + 2)), .int (xs (i + 3))]) (rest := []) (n := 3) (d := 69) ⟨hx, hb, hml, hown, hts⟩ (c_X12_dye l E D Gm ma hW.2.2.2.1 (xs (i + 1)) (xs (i + 2)) (xs (i + 3))) wd_1713 wd_1714 wd_1715 wd_13 wd_1716 (by decide +kernel) ⟨Nat.le_of_ble_eq_true rfl, Nat.le_of_ble_eq_true rfl⟩ hW hN hK rfl hl.1 rfl (Nat.le_of_ble_eq_true rfl) dLaw_1202 ⟨by rw [hR1]; omega, by rw [hR2]; omega⟩ (fun r174 H locs hr174 hW => ?_)
  refine lv_pop hx hb dLaw_1205 rfl ?_
  refine lv_goto (tgt := 2004) hx hb dLaw_1206 (by decide) ?_
  exact W.widen (k := cells + 18) (n := slots + 441) (by omega) (by omega) (kk _ _ _ _ _ X0 hW hT)
set_option maxHeartbeats 4000000 in
set_option maxRecDepth 100000 in
theorem law_c27 {p : Program} {e : Env} {s : State} {m : MethodId} {below : List Frame} {meth : Method} {c : Code} {l : Launch} {b L : Nat} {xs : Nat → Int32} (C0 : lw_At p s m meth c b L xs) {E : Nat → Nat} {D : va_G} {adK adV : Nat → Nat} (X0 : LCx E D adK adV s) {xa ma i : Nat} (hi : i + 7 ≤ L) (hL : L ≤ 3584) {Gc Gm : th_G} {nn : Nat} {H : Heap} {locs : List Loc} (hW : LWs E D s xa ma Gc Gm nn H locs) (hT : TI E Gc xa nn) (hU : UQ Gm 1 ∧ UQ Gm 2 ∧ UQ Gm 11 ∧ UQ Gm 4 ∧ UQ Gm 10) {cells slots : Nat} (hc1 : cells + 18 ≤ 600000) (hc2 : slots + 441 ≤ 7302250) {ls : Array Slot} (hl : lv_has ls 4 [(3, .int (nI i)), (2, .ref ma), (1, .ref xa), (0, .ref b)]) (kk : ∀ (E : Nat → Nat) (Gc : th_G) (nn : Nat) (H : Heap) (locs : List Loc), LCx E D adK adV s → LWs E D s xa ma Gc Gm nn H locs → TI E Gc xa nn → W p l e room_1 s m #[Value.ref b] below meth c H locs (cells + 18) (slots + 441) (lw_Z below #[Value.ref b] s) (F0 m 2004 ls [])) : W p l e room_1 s m #[Value.ref b] below meth c H locs cells slots (lw_Z below #[Value.ref b] s) (F0 m 1209 ls []) := by
  obtain ⟨hx, hb, hr, hml, hown, hts0, hX, hbl, hlocks, hgv⟩ := id C0
  obtain ⟨hN, hK, hWS, hCL, hAO⟩ := id X0
  have hbA : ¬ LWa s b := Nat.not_le.mpr hbl
  have hts := lw_tb (w := Cond.initialized RX12) wd_13 hts0
  have hR1 : room_1.cells = 600000 := rfl
  have hR2 : room_1.slots = 7302250 := rfl
  have ti : (nI i).toInt = (i : Int) := nI_toInt (by omega)
  refine lv_aload_n hx hb dLaw_1209 rfl (lv_at hl 2 rfl) ?_
  refine lv_aload_n hx hb dLaw_1210 rfl (lv_at hl 3 rfl) ?_
  refine lv_iload_n hx hb dLaw_1211 rfl (lv_at hl 0 rfl) ?_
  refine lv_iconst (v := 1) hx hb dLaw_1212 (by decide) ?_
  refine lv_iadd hx hb dLaw_1213 ?_
  refine lv_topi (fun z175 ez175 => ?_)
  have tz175 := iv_add (Y := 1) ti (by decide) ez175 (by omega) (by omega)
  refine va_sld hx hb hX hbl hbA hW.2.2.2.2.2.2.2 (iv_in (X := (i : Int) + 1) (by omega) (by omega) (by omega)) dLaw_1214 ?_
  rw [show z175.toNatClampNeg = i + 1 from by show z175.toInt.toNat = _; omega]
  refine lv_aload_n hx hb dLaw_1215 rfl (lv_at hl 3 rfl) ?_
  refine lv_iload_n hx hb dLaw_1216 rfl (lv_at hl 0 rfl) ?_
  refine lv_iconst (v := 2) hx hb dLaw_1217 (by decide) ?_
  refine lv_iadd hx hb dLaw_1218 ?_
  refine lv_topi (fun z176 ez176 => ?_)
  have tz176 := iv_add (Y := 2) ti (by decide) ez176 (by omega) (by omega)
  refine va_sld hx hb hX hbl hbA hW.2.2.2.2.2.2.2 (iv_in (X := (i : Int) + 2) (by omega) (by omega) (by omega)) dLaw_1219 ?_
  rw [show z176.toNatClampNeg = i + 2 from by show z176.toInt.toNat = _; omega]
  refine lv_aload_n hx hb dLaw_1220 rfl (lv_at hl 3 rfl) ?_
  refine lv_iload_n hx hb dLaw_1221 rfl (lv_at hl 0 rfl) ?_
  refine lv_iconst (v := 3) hx hb dLaw_1222 (by decide) ?_
  refine lv_iadd hx hb dLaw_1223 ?_
  refine lv_topi (fun z177 ez177 => ?_)
  have tz177 := iv_add (Y := 3) ti (by decide) ez177 (by omega) (by omega)
  refine va_sld hx hb hX hbl hbA hW.2.2.2.2.2.2.2 (iv_in (X := (i : Int) + 3) (by omega) (by omega) (by omega)) dLaw_1224 ?_
  rw [show z177.toNatClampNeg = i + 3 from by show z177.toInt.toNat = _; omega]
  refine lc_i (As := [.int (xs (i + 1)), .int (xs (i + 2)), .int (xs (i + 3))]) (rest := []) (n := 3) (d := 8) ⟨hx, hb, hml, hown, hts⟩ (c_X11_comes l E D Gc xa nn hW.2.1 (xs (i + 1)) (xs (i + 2)) (xs (i + 3))) wd_927 wd_928 wd_929 wd_1 wd_930 (by decide +kernel) ⟨Nat.le_of_ble_eq_true rfl, Nat.le_of_ble_eq_true rfl⟩ hW hN hK rfl hl.1 rfl (Nat.le_of_ble_eq_true rfl) dLaw_1225 ⟨by rw [hR1]; omega, by rw [hR2]; omega⟩ (fun r178 H locs hr178 hW => ?_)
  refine lv_pop hx hb dLaw_1228 rfl ?_
  refine lv_aload_n hx hb dLaw_1229 rfl (lv_at hl 1 rfl) ?_
  refine lv_aload_n hx hb dLaw_1230 rfl (lv_at hl 3 rfl) ?_
  refine lv_iload_n hx hb dLaw_1231 rfl (lv_at hl 0 rfl) ?_
  refine lv_iconst (v := 1) hx hb dLaw_1232 (by decide) ?_
  refine lv_iadd hx hb dLaw_1233 ?_
  refine lv_topi (fun z179 ez179 => ?_)
  have tz179 := iv_add (Y := 1) ti (by decide) ez179 (by omega) (by omega)
  refine va_sld hx hb hX hbl hbA hW.2.2.2.2.2.2.2 (iv_in (X := (i : Int) + 1) (by omega) (by omega) (by omega)) dLaw_1234 ?_
  rw [show z179.toNatClampNeg = i + 1 from by show z179.toInt.toNat = _; omega]
  refine lv_aload_n hx hb dLaw_1235 rfl (lv_at hl 3 rfl) ?_
  refine lv_iload_n hx hb dLaw_1236 rfl (lv_at hl 0 rfl) ?_
  refine lv_iconst (v := 2) hx hb dLaw_1237 (by decide) ?_
  refine lv_iadd hx hb dLaw_1238 ?_
  refine lv_topi (fun z180 ez180 => ?_)
  have tz180 := iv_add (Y := 2) ti (by decide) ez180 (by omega) (by omega)
  refine va_sld hx hb hX hbl hbA hW.2.2.2.2.2.2.2 (iv_in (X := (i : Int) + 2) (by omega) (by omega) (by omega)) dLaw_1239 ?_
  rw [show z180.toNatClampNeg = i + 2 from by show z180.toInt.toNat = _; omega]
  refine lv_aload_n hx hb dLaw_1240 rfl (lv_at hl 3 rfl) ?_
  refine lv_iload_n hx hb dLaw_1241 rfl (lv_at hl 0 rfl) ?_
  refine lv_iconst (v := 3) hx hb dLaw_1242 (by decide) ?_
  refine lv_iadd hx hb dLaw_1243 ?_
  refine lv_topi (fun z181 ez181 => ?_)
  have tz181 := iv_add (Y := 3) ti (by decide) ez181 (by omega) (by omega)
  refine va_sld hx hb hX hbl hbA hW.2.2.2.2.2.2.2 (iv_in (X := (i : Int) + 3) (by omega) (by omega) (by omega)) dLaw_1244 ?_
  rw [show z181.toNatClampNeg = i + 3 from by show z181.toInt.toNat = _; omega]
  refine lm_i (post := fun _ => True) (As := [.int (xs (i + 1)), .int (xs (i + 2)), .int (xs (i + 3))]) (rest := []) (n := 3) (d := 69) ⟨hx, hb, hml, hown, hts⟩ (c_X12_comes l E D Gm ma hW.2.2.2.1 (xs (i + 1)) (xs (i + 2)) (xs (i + 3))) wd_1721 wd_1722 wd_1723 wd_13 wd_1724 (by decide +kernel) ⟨Nat.le_of_ble_eq_true rfl, Nat.le_of_ble_eq_true rfl⟩ hW hN hK rfl hl.1 rfl (Nat.le_of_ble_eq_true rfl) dLaw_1245 ⟨by rw [hR1]; omega, by rw [hR2]; omega⟩ (fun r182 H locs hr182 hW => ?_)
  refine lv_pop hx hb dLaw_1248 rfl ?_
  refine lv_goto (tgt := 2004) hx hb dLaw_1249 (by decide) ?_
  exact W.widen (k := cells + 18) (n := slots + 441) (by omega) (by omega) (kk _ _ _ _ _ X0 hW hT)
set_option maxHeartbeats 4000000 in
set_option maxRecDepth 100000 in
theorem law_c28 {p : Program} {e : Env} {s : State} {m : MethodId} {below : List Frame} {meth : Method} {c : Code} {l : Launch} {b L : Nat} {xs : Nat → Int32} (C0 : lw_At p s m meth c b L xs) {E : Nat → Nat} {D : va_G} {adK adV : Nat → Nat} (X0 : LCx E D adK adV s) {xa ma i : Nat} (hi : i + 7 ≤ L) (hL : L ≤ 3584) {Gc Gm : th_G} {nn : Nat} {H : Heap} {locs : List Loc} (hW : LWs E D s xa ma Gc Gm nn H locs) (hT : TI E Gc xa nn) (hU : UQ Gm 1 ∧ UQ Gm 2 ∧ UQ Gm 11 ∧ UQ Gm 4 ∧ UQ Gm 10) {cells slots : Nat} (hc1 : cells + 18 ≤ 600000) (hc2 : slots + 441 ≤ 7302250) {ls : Array Slot} (hl : lv_has ls 4 [(3, .int (nI i)), (2, .ref ma), (1, .ref xa), (0, .ref b)]) (kk : ∀ (E : Nat → Nat) (Gc : th_G) (nn : Nat) (H : Heap) (locs : List Loc), LCx E D adK adV s → LWs E D s xa ma Gc Gm nn H locs → TI E Gc xa nn → W p l e room_1 s m #[Value.ref b] below meth c H locs (cells + 18) (slots + 441) (lw_Z below #[Value.ref b] s) (F0 m 2004 ls [])) : W p l e room_1 s m #[Value.ref b] below meth c H locs cells slots (lw_Z below #[Value.ref b] s) (F0 m 1252 ls []) := by
  obtain ⟨hx, hb, hr, hml, hown, hts0, hX, hbl, hlocks, hgv⟩ := id C0
  obtain ⟨hN, hK, hWS, hCL, hAO⟩ := id X0
  have hbA : ¬ LWa s b := Nat.not_le.mpr hbl
  have hts := lw_tb (w := Cond.initialized RX12) wd_13 hts0
  have hR1 : room_1.cells = 600000 := rfl
  have hR2 : room_1.slots = 7302250 := rfl
  have ti : (nI i).toInt = (i : Int) := nI_toInt (by omega)
  refine lv_aload_n hx hb dLaw_1252 rfl (lv_at hl 2 rfl) ?_
  refine lv_aload_n hx hb dLaw_1253 rfl (lv_at hl 3 rfl) ?_
  refine lv_iload_n hx hb dLaw_1254 rfl (lv_at hl 0 rfl) ?_
  refine lv_iconst (v := 1) hx hb dLaw_1255 (by decide) ?_
  refine lv_iadd hx hb dLaw_1256 ?_
  refine lv_topi (fun z183 ez183 => ?_)
  have tz183 := iv_add (Y := 1) ti (by decide) ez183 (by omega) (by omega)
  refine va_sld hx hb hX hbl hbA hW.2.2.2.2.2.2.2 (iv_in (X := (i : Int) + 1) (by omega) (by omega) (by omega)) dLaw_1257 ?_
  rw [show z183.toNatClampNeg = i + 1 from by show z183.toInt.toNat = _; omega]
  refine lv_aload_n hx hb dLaw_1258 rfl (lv_at hl 3 rfl) ?_
  refine lv_iload_n hx hb dLaw_1259 rfl (lv_at hl 0 rfl) ?_
  refine lv_iconst (v := 2) hx hb dLaw_1260 (by decide) ?_
  refine lv_iadd hx hb dLaw_1261 ?_
  refine lv_topi (fun z184 ez184 => ?_)
  have tz184 := iv_add (Y := 2) ti (by decide) ez184 (by omega) (by omega)
  refine va_sld hx hb hX hbl hbA hW.2.2.2.2.2.2.2 (iv_in (X := (i : Int) + 2) (by omega) (by omega) (by omega)) dLaw_1262 ?_
  rw [show z184.toNatClampNeg = i + 2 from by show z184.toInt.toNat = _; omega]
  refine lv_aload_n hx hb dLaw_1263 rfl (lv_at hl 3 rfl) ?_
  refine lv_iload_n hx hb dLaw_1264 rfl (lv_at hl 0 rfl) ?_
  refine lv_iconst (v := 3) hx hb dLaw_1265 (by decide) ?_
  refine lv_iadd hx hb dLaw_1266 ?_
  refine lv_topi (fun z185 ez185 => ?_)
  have tz185 := iv_add (Y := 3) ti (by decide) ez185 (by omega) (by omega)
  refine va_sld hx hb hX hbl hbA hW.2.2.2.2.2.2.2 (iv_in (X := (i : Int) + 3) (by omega) (by omega) (by omega)) dLaw_1267 ?_
  rw [show z185.toNatClampNeg = i + 3 from by show z185.toInt.toNat = _; omega]
  refine lc_i (As := [.int (xs (i + 1)), .int (xs (i + 2)), .int (xs (i + 3))]) (rest := []) (n := 3) (d := 8) ⟨hx, hb, hml, hown, hts⟩ (c_X11_most l E D Gc xa nn hW.2.1 (xs (i + 1)) (xs (i + 2)) (xs (i + 3))) wd_937 wd_938 wd_939 wd_1 wd_940 (by decide +kernel) ⟨Nat.le_of_ble_eq_true rfl, Nat.le_of_ble_eq_true rfl⟩ hW hN hK rfl hl.1 rfl (Nat.le_of_ble_eq_true rfl) dLaw_1268 ⟨by rw [hR1]; omega, by rw [hR2]; omega⟩ (fun r186 H locs hr186 hW => ?_)
  refine lv_pop hx hb dLaw_1271 rfl ?_
  refine lv_aload_n hx hb dLaw_1272 rfl (lv_at hl 1 rfl) ?_
  refine lv_aload_n hx hb dLaw_1273 rfl (lv_at hl 3 rfl) ?_
  refine lv_iload_n hx hb dLaw_1274 rfl (lv_at hl 0 rfl) ?_
  refine lv_iconst (v := 1) hx hb dLaw_1275 (by decide) ?_
  refine lv_iadd hx hb dLaw_1276 ?_
  refine lv_topi (fun z187 ez187 => ?_)
  have tz187 := iv_add (Y := 1) ti (by decide) ez187 (by omega) (by omega)
  refine va_sld hx hb hX hbl hbA hW.2.2.2.2.2.2.2 (iv_in (X := (i : Int) + 1) (by omega) (by omega) (by omega)) dLaw_1277 ?_
  rw [show z187.toNatClampNeg = i + 1 from by show z187.toInt.toNat = _; omega]
  refine lv_aload_n hx hb dLaw_1278 rfl (lv_at hl 3 rfl) ?_
  refine lv_iload_n hx hb dLaw_1279 rfl (lv_at hl 0 rfl) ?_
  refine lv_iconst (v := 2) hx hb dLaw_1280 (by decide) ?_
  refine lv_iadd hx hb dLaw_1281 ?_
  refine lv_topi (fun z188 ez188 => ?_)
  have tz188 := iv_add (Y := 2) ti (by decide) ez188 (by omega) (by omega)
  refine va_sld hx hb hX hbl hbA hW.2.2.2.2.2.2.2 (iv_in (X := (i : Int) + 2) (by omega) (by omega) (by omega)) dLaw_1282 ?_
  rw [show z188.toNatClampNeg = i + 2 from by show z188.toInt.toNat = _; omega]
  refine lv_aload_n hx hb dLaw_1283 rfl (lv_at hl 3 rfl) ?_
  refine lv_iload_n hx hb dLaw_1284 rfl (lv_at hl 0 rfl) ?_
  refine lv_iconst (v := 3) hx hb dLaw_1285 (by decide) ?_
  refine lv_iadd hx hb dLaw_1286 ?_
  refine lv_topi (fun z189 ez189 => ?_)
  have tz189 := iv_add (Y := 3) ti (by decide) ez189 (by omega) (by omega)
  refine va_sld hx hb hX hbl hbA hW.2.2.2.2.2.2.2 (iv_in (X := (i : Int) + 3) (by omega) (by omega) (by omega)) dLaw_1287 ?_
  rw [show z189.toNatClampNeg = i + 3 from by show z189.toInt.toNat = _; omega]
  refine lm_i (post := fun _ => True) (As := [.int (xs (i + 1)), .int (xs (i + 2)), .int (xs (i + 3))]) (rest := []) (n := 3) (d := 69) ⟨hx, hb, hml, hown, hts⟩ (c_X12_most l E D Gm ma hW.2.2.2.1 (xs (i + 1)) (xs (i + 2)) (xs (i + 3))) wd_1725 wd_1726 wd_1727 wd_13 wd_1728 (by decide +kernel) ⟨Nat.le_of_ble_eq_true rfl, Nat.le_of_ble_eq_true rfl⟩ hW hN hK rfl hl.1 rfl (Nat.le_of_ble_eq_true rfl) dLaw_1288 ⟨by rw [hR1]; omega, by rw [hR2]; omega⟩ (fun r190 H locs hr190 hW => ?_)
  refine lv_pop hx hb dLaw_1291 rfl ?_
  refine lv_goto (tgt := 2004) hx hb dLaw_1292 (by decide) ?_
  exact W.widen (k := cells + 18) (n := slots + 441) (by omega) (by omega) (kk _ _ _ _ _ X0 hW hT)
set_option maxHeartbeats 4000000 in
set_option maxRecDepth 100000 in
theorem law_c29 {p : Program} {e : Env} {s : State} {m : MethodId} {below : List Frame} {meth : Method} {c : Code} {l : Launch} {b L : Nat} {xs : Nat → Int32} (C0 : lw_At p s m meth c b L xs) {E : Nat → Nat} {D : va_G} {adK adV : Nat → Nat} (X0 : LCx E D adK adV s) {xa ma i : Nat} (hi : i + 7 ≤ L) (hL : L ≤ 3584) {Gc Gm : th_G} {nn : Nat} {H : Heap} {locs : List Loc} (hW : LWs E D s xa ma Gc Gm nn H locs) (hT : TI E Gc xa nn) (hU : UQ Gm 1 ∧ UQ Gm 2 ∧ UQ Gm 11 ∧ UQ Gm 4 ∧ UQ Gm 10) {cells slots : Nat} (hc1 : cells + 18 ≤ 600000) (hc2 : slots + 441 ≤ 7302250) {ls : Array Slot} (hl : lv_has ls 4 [(3, .int (nI i)), (2, .ref ma), (1, .ref xa), (0, .ref b)]) (kk : ∀ (E : Nat → Nat) (Gc : th_G) (nn : Nat) (H : Heap) (locs : List Loc), LCx E D adK adV s → LWs E D s xa ma Gc Gm nn H locs → TI E Gc xa nn → W p l e room_1 s m #[Value.ref b] below meth c H locs (cells + 18) (slots + 441) (lw_Z below #[Value.ref b] s) (F0 m 2004 ls [])) : W p l e room_1 s m #[Value.ref b] below meth c H locs cells slots (lw_Z below #[Value.ref b] s) (F0 m 1295 ls []) := by
  obtain ⟨hx, hb, hr, hml, hown, hts0, hX, hbl, hlocks, hgv⟩ := id C0
  obtain ⟨hN, hK, hWS, hCL, hAO⟩ := id X0
  have hbA : ¬ LWa s b := Nat.not_le.mpr hbl
  have hts := lw_tb (w := Cond.initialized RX12) wd_13 hts0
  have hR1 : room_1.cells = 600000 := rfl
  have hR2 : room_1.slots = 7302250 := rfl
  have ti : (nI i).toInt = (i : Int) := nI_toInt (by omega)
  refine lv_aload_n hx hb dLaw_1295 rfl (lv_at hl 2 rfl) ?_
  refine lv_aload_n hx hb dLaw_1296 rfl (lv_at hl 3 rfl) ?_
  refine lv_iload_n hx hb dLaw_1297 rfl (lv_at hl 0 rfl) ?_
  refine lv_iconst (v := 1) hx hb dLaw_1298 (by decide) ?_
  refine lv_iadd hx hb dLaw_1299 ?_
  refine lv_topi (fun z191 ez191 => ?_)
  have tz191 := iv_add (Y := 1) ti (by decide) ez191 (by omega) (by omega)
  refine va_sld hx hb hX hbl hbA hW.2.2.2.2.2.2.2 (iv_in (X := (i : Int) + 1) (by omega) (by omega) (by omega)) dLaw_1300 ?_
  rw [show z191.toNatClampNeg = i + 1 from by show z191.toInt.toNat = _; omega]
  refine lv_aload_n hx hb dLaw_1301 rfl (lv_at hl 3 rfl) ?_
  refine lv_iload_n hx hb dLaw_1302 rfl (lv_at hl 0 rfl) ?_
  refine lv_iconst (v := 2) hx hb dLaw_1303 (by decide) ?_
  refine lv_iadd hx hb dLaw_1304 ?_
  refine lv_topi (fun z192 ez192 => ?_)
  have tz192 := iv_add (Y := 2) ti (by decide) ez192 (by omega) (by omega)
  refine va_sld hx hb hX hbl hbA hW.2.2.2.2.2.2.2 (iv_in (X := (i : Int) + 2) (by omega) (by omega) (by omega)) dLaw_1305 ?_
  rw [show z192.toNatClampNeg = i + 2 from by show z192.toInt.toNat = _; omega]
  refine lv_aload_n hx hb dLaw_1306 rfl (lv_at hl 3 rfl) ?_
  refine lv_iload_n hx hb dLaw_1307 rfl (lv_at hl 0 rfl) ?_
  refine lv_iconst (v := 3) hx hb dLaw_1308 (by decide) ?_
  refine lv_iadd hx hb dLaw_1309 ?_
  refine lv_topi (fun z193 ez193 => ?_)
  have tz193 := iv_add (Y := 3) ti (by decide) ez193 (by omega) (by omega)
  refine va_sld hx hb hX hbl hbA hW.2.2.2.2.2.2.2 (iv_in (X := (i : Int) + 3) (by omega) (by omega) (by omega)) dLaw_1310 ?_
  rw [show z193.toNatClampNeg = i + 3 from by show z193.toInt.toNat = _; omega]
  refine lv_aload_n hx hb dLaw_1311 rfl (lv_at hl 3 rfl) ?_
  refine lv_iload_n hx hb dLaw_1312 rfl (lv_at hl 0 rfl) ?_
  refine lv_iconst (v := 4) hx hb dLaw_1313 (by decide) ?_
  refine lv_iadd hx hb dLaw_1314 ?_
  refine lv_topi (fun z194 ez194 => ?_)
  have tz194 := iv_add (Y := 4) ti (by decide) ez194 (by omega) (by omega)
  refine va_sld hx hb hX hbl hbA hW.2.2.2.2.2.2.2 (iv_in (X := (i : Int) + 4) (by omega) (by omega) (by omega)) dLaw_1315 ?_
  rw [show z194.toNatClampNeg = i + 4 from by show z194.toInt.toNat = _; omega]
  refine lv_aload_n hx hb dLaw_1316 rfl (lv_at hl 3 rfl) ?_
  refine lv_iload_n hx hb dLaw_1317 rfl (lv_at hl 0 rfl) ?_
  refine lv_iconst (v := 5) hx hb dLaw_1318 (by decide) ?_
  refine lv_iadd hx hb dLaw_1319 ?_
  refine lv_topi (fun z195 ez195 => ?_)
  have tz195 := iv_add (Y := 5) ti (by decide) ez195 (by omega) (by omega)
  refine va_sld hx hb hX hbl hbA hW.2.2.2.2.2.2.2 (iv_in (X := (i : Int) + 5) (by omega) (by omega) (by omega)) dLaw_1320 ?_
  rw [show z195.toNatClampNeg = i + 5 from by show z195.toInt.toNat = _; omega]
  refine lc_i (As := [.int (xs (i + 1)), .int (xs (i + 2)), .int (xs (i + 3)), .int (xs (i + 4)), .int (xs (i + 5))]) (rest := []) (n := 5) (d := 7) ⟨hx, hb, hml, hown, hts⟩ (c_X11_least l E D Gc xa nn hW.2.1 (xs (i + 1)) (xs (i + 2)) (xs (i + 3)) (xs (i + 4)) (xs (i + 5))) wd_955 wd_956 wd_957 wd_1 wd_958 (by decide +kernel) ⟨Nat.le_of_ble_eq_true rfl, Nat.le_of_ble_eq_true rfl⟩ hW hN hK rfl hl.1 rfl (Nat.le_of_ble_eq_true rfl) dLaw_1321 ⟨by rw [hR1]; omega, by rw [hR2]; omega⟩ (fun r196 H locs hr196 hW => ?_)
  refine lv_pop hx hb dLaw_1324 rfl ?_
  refine lv_aload_n hx hb dLaw_1325 rfl (lv_at hl 1 rfl) ?_
  refine lv_aload_n hx hb dLaw_1326 rfl (lv_at hl 3 rfl) ?_
  refine lv_iload_n hx hb dLaw_1327 rfl (lv_at hl 0 rfl) ?_
  refine lv_iconst (v := 1) hx hb dLaw_1328 (by decide) ?_
  refine lv_iadd hx hb dLaw_1329 ?_
  refine lv_topi (fun z197 ez197 => ?_)
  have tz197 := iv_add (Y := 1) ti (by decide) ez197 (by omega) (by omega)
  refine va_sld hx hb hX hbl hbA hW.2.2.2.2.2.2.2 (iv_in (X := (i : Int) + 1) (by omega) (by omega) (by omega)) dLaw_1330 ?_
  rw [show z197.toNatClampNeg = i + 1 from by show z197.toInt.toNat = _; omega]
  refine lv_aload_n hx hb dLaw_1331 rfl (lv_at hl 3 rfl) ?_
  refine lv_iload_n hx hb dLaw_1332 rfl (lv_at hl 0 rfl) ?_
  refine lv_iconst (v := 2) hx hb dLaw_1333 (by decide) ?_
  refine lv_iadd hx hb dLaw_1334 ?_
  refine lv_topi (fun z198 ez198 => ?_)
  have tz198 := iv_add (Y := 2) ti (by decide) ez198 (by omega) (by omega)
  refine va_sld hx hb hX hbl hbA hW.2.2.2.2.2.2.2 (iv_in (X := (i : Int) + 2) (by omega) (by omega) (by omega)) dLaw_1335 ?_
  rw [show z198.toNatClampNeg = i + 2 from by show z198.toInt.toNat = _; omega]
  refine lv_aload_n hx hb dLaw_1336 rfl (lv_at hl 3 rfl) ?_
  refine lv_iload_n hx hb dLaw_1337 rfl (lv_at hl 0 rfl) ?_
  refine lv_iconst (v := 3) hx hb dLaw_1338 (by decide) ?_
  refine lv_iadd hx hb dLaw_1339 ?_
  refine lv_topi (fun z199 ez199 => ?_)
  have tz199 := iv_add (Y := 3) ti (by decide) ez199 (by omega) (by omega)
  refine va_sld hx hb hX hbl hbA hW.2.2.2.2.2.2.2 (iv_in (X := (i : Int) + 3) (by omega) (by omega) (by omega)) dLaw_1340 ?_
  rw [show z199.toNatClampNeg = i + 3 from by show z199.toInt.toNat = _; omega]
  refine lv_aload_n hx hb dLaw_1341 rfl (lv_at hl 3 rfl) ?_
  refine lv_iload_n hx hb dLaw_1342 rfl (lv_at hl 0 rfl) ?_
  refine lv_iconst (v := 4) hx hb dLaw_1343 (by decide) ?_
  refine lv_iadd hx hb dLaw_1344 ?_
  refine lv_topi (fun z200 ez200 => ?_)
  have tz200 := iv_add (Y := 4) ti (by decide) ez200 (by omega) (by omega)
  refine va_sld hx hb hX hbl hbA hW.2.2.2.2.2.2.2 (iv_in (X := (i : Int) + 4) (by omega) (by omega) (by omega)) dLaw_1345 ?_
  rw [show z200.toNatClampNeg = i + 4 from by show z200.toInt.toNat = _; omega]
  refine lv_aload_n hx hb dLaw_1346 rfl (lv_at hl 3 rfl) ?_
  refine lv_iload_n hx hb dLaw_1347 rfl (lv_at hl 0 rfl) ?_
  refine lv_iconst (v := 5) hx hb dLaw_1348 (by decide) ?_
  refine lv_iadd hx hb dLaw_1349 ?_
  refine lv_topi (fun z201 ez201 => ?_)
  have tz201 := iv_add (Y := 5) ti (by decide) ez201 (by omega) (by omega)
  refine va_sld hx hb hX hbl hbA hW.2.2.2.2.2.2.2 (iv_in (X := (i : Int) + 5) (by omega) (by omega) (by omega)) dLaw_1350 ?_
  rw [show z201.toNatClampNeg = i + 5 from by show z201.toInt.toNat = _; omega]
  refine lm_i (post := fun _ => True) (As := [.int (xs (i + 1)), .int (xs (i + 2)), .int (xs (i + 3)), .int (xs (i + 4)), .int (xs (i + 5))]) (rest := []) (n := 5) (d := 69) ⟨hx, hb, hml, hown, hts⟩ (c_X12_least l E D Gm ma hW.2.2.2.1 (xs (i + 1)) (xs (i + 2)) (xs (i + 3)) (xs (i + 4)) (xs (i + 5))) wd_1729 wd_1730 wd_1731 wd_13 wd_1732 (by decide +kernel) ⟨Nat.le_of_ble_eq_true rfl, Nat.le_of_ble_eq_true rfl⟩ hW hN hK rfl hl.1 rfl (Nat.le_of_ble_eq_true rfl) dLaw_1351 ⟨by rw [hR1]; omega, by rw [hR2]; omega⟩ (fun r202 H locs hr202 hW => ?_)
  refine lv_pop hx hb dLaw_1354 rfl ?_
  refine lv_goto (tgt := 2004) hx hb dLaw_1355 (by decide) ?_
  exact W.widen (k := cells + 18) (n := slots + 441) (by omega) (by omega) (kk _ _ _ _ _ X0 hW hT)
