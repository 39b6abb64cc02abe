abbrev rm_J_floorMod : Room := { frames := 0, cells := 0, slots := 0, locals := 0 }
set_option maxHeartbeats 4000000 in
set_option maxRecDepth 100000 in
/-- Math.floorMod of two that are not negative -/
theorem c_J_floorMod (l : Launch) (D : va_G) (cb ci cz : ClassId) (a b : Nat) (ha : a < 2 ^ 31) (hb0 : 0 < b) (hb1 : b < 2 ^ 31) (sz : Nat) : Met l yJ9_floorMod_7cf53 wsJ9_floorMod_7cf53 rm_J_floorMod (va_Pc [.int (nI a), .int (nI b)] (j_pre D (jT cb ci cz) [] sz)) (va_Qi (fun (x : Int32) (_ : Unit) => x = nI (a % b)) (j_post D (jT cb ci cz) (fun _ => []) (va_A [] sz)) (va_A [] sz)) 0 0 (va_A [] sz) := by
  refine j_inF (Qc := fun A => (va_Qi (fun (x : Int32) (_ : Unit) => x = nI (a % b)) (j_post D (jT cb ci cz) (fun _ => []) A) A)) (cc := cJ9_floorMod_7cf53) (maxL := 3) (ret := (some .int)) (by decide +kernel) rfl (Nat.le_of_ble_eq_true rfl) ?_
  intro p e s m av below meth c A ls H locs hx hb hr hml hts hown hlk hin hA hP hK hD hS hl
  have hown : s.vm.findClass RJ9 = some m.cls := hown
  have hl : lv_has ls 3 [(0, .int (nI a)), (1, .int (nI b))] := hl
  have hm : a % b < 2 ^ 31 := Nat.lt_trans (Nat.mod_lt a hb0) hb1
  refine lv_iload_n hx hb dJ9_floorMod_7cf53_0 rfl (lv_at hl 0 rfl) ?_
  refine lv_iload_n hx hb dJ9_floorMod_7cf53_1 rfl (lv_at hl 1 rfl) ?_
  refine lv_irem hx hb dJ9_floorMod_7cf53_2 (nI_ne0 hb0 hb1) ?_
  refine jt_i (y := (nI (a % b))) (pk_rem ha hb0 hb1) ?_
  refine lv_istore_n (lv' := [(2, .int (nI (a % b))), (0, .int (nI a)), (1, .int (nI b))]) hx hb dJ9_floorMod_7cf53_3 rfl hl (by decide) rfl (fun ls hl => ?_)
  refine lv_iload_n hx hb dJ9_floorMod_7cf53_4 rfl (lv_at hl 1 rfl) ?_
  refine lv_iload_n hx hb dJ9_floorMod_7cf53_5 rfl (lv_at hl 2 rfl) ?_
  refine lv_ixor hx hb dJ9_floorMod_7cf53_6 ?_
  refine lv_if_ge (tgt := 18) hx hb dJ9_floorMod_7cf53_7 (by decide) (fun c_7_1 => ?_) (fun c_7_1 => ?_)
  · refine lv_iload_n hx hb dJ9_floorMod_7cf53_18 rfl (lv_at hl 0 rfl) ?_
    exact j_iret (v := (nI (a % b))) (()) hx hb hr hlk hK hP hD hS (rfl) dJ9_floorMod_7cf53_19
  · exact absurd (Int32.not_lt.mp (jx_pos ha hb1)) c_7_1
abbrev rm_R_onRing : Room := { frames := 1, cells := 0, slots := 0, locals := 22 }
set_option maxHeartbeats 4000000 in
set_option maxRecDepth 100000 in
/-- a sector round the ring -/
theorem c_R_onRing (l : Launch) (D : va_G) (cb ci cz : ClassId) (a : Nat) (ha : a < 2 ^ 31) (sz : Nat) : Met l yX0_onRing wsX0_onRing rm_R_onRing (va_Pc [.int (nI a)] (j_pre D (jT cb ci cz) [] sz)) (va_Qi (fun (x : Int32) (_ : Unit) => x = nI (a % 40)) (j_post D (jT cb ci cz) (fun _ => []) (va_A [] sz)) (va_A [] sz)) 0 0 (va_A [] sz) := by
  refine j_in (Qc := fun A => (va_Qi (fun (x : Int32) (_ : Unit) => x = nI (a % 40)) (j_post D (jT cb ci cz) (fun _ => []) A) A)) (cc := cX0_onRing) (maxL := 1) (ret := (some .int)) (by decide) rfl (Nat.le_of_ble_eq_true rfl) ?_
  intro p e s m av below meth c A ls H locs hx hb hr hml hts hown hlk hin hA hP hK hD hS hl
  have hown : s.vm.findClass RX0 = some m.cls := hown
  have hl : lv_has ls 1 [(0, .int (nI a))] := hl
  refine lv_iload_n hx hb dX0_onRing_0 rfl (lv_at hl 0 rfl) ?_
  refine lv_bipush (v := (nI 40)) hx hb dX0_onRing_1 (by decide +kernel) ?_
  refine j_calli (wr := []) hP hD hS hA [] [] rfl rfl (by decide) (by decide) (va_runS (As := [.int (nI a), .int (nI 40)]) (rest := []) ⟨hx, hb, hml, hown, hts⟩ (c_J_floorMod l D cb ci cz a 40 ha (by decide) (by decide) H.size) (va_cwS 2 hts gX0_onRing_J9_floorMod_7cf53 rfl rfl rfl (by decide +kernel) ⟨Nat.le_of_ble_eq_true rfl, Nat.le_of_ble_eq_true rfl⟩) (j_preS [] [0, 1, 2] hK hP hD rfl rfl rfl rfl) rfl rfl hl.1 rfl (lv_room (Nat.le_of_ble_eq_true rfl)) dX0_onRing_3 ⟨Nat.le_of_ble_eq_true rfl, Nat.le_of_ble_eq_true rfl⟩) (fun r3 u9 H locs hw hP hD hS => ?_)
  have hP : va_P D vwCl [] H := hP
  have hD : va_D A [] := hD
  have hw : r3 = (nI (a % 40)) := hw
  subst hw
  exact j_iret (v := (nI (a % 40))) (()) hx hb hr hlk hK hP hD hS (rfl) dX0_onRing_6
abbrev rm_R_place : Room := { frames := 1, cells := 0, slots := 0, locals := 22 }
set_option maxHeartbeats 4000000 in
set_option maxRecDepth 100000 in
/-- the place of byte i of what stands from sector a on -/
theorem c_R_place (l : Launch) (D : va_G) (cb ci cz : ClassId) (a i : Nat) (ha : a < 40) (hi : i < 1000) (sz : Nat) : Met l yX0_place wsX0_place rm_R_place (va_Pc [.int (nI a), .int (nI i)] (j_pre D (jT cb ci cz) [] sz)) (va_Qi (fun (x : Int32) (_ : Unit) => x = nI ((12 * a + i) % 480)) (j_post D (jT cb ci cz) (fun _ => []) (va_A [] sz)) (va_A [] sz)) 0 0 (va_A [] sz) := by
  refine j_in (Qc := fun A => (va_Qi (fun (x : Int32) (_ : Unit) => x = nI ((12 * a + i) % 480)) (j_post D (jT cb ci cz) (fun _ => []) A) A)) (cc := cX0_place) (maxL := 2) (ret := (some .int)) (by decide) rfl (Nat.le_of_ble_eq_true rfl) ?_
  intro p e s m av below meth c A ls H locs hx hb hr hml hts hown hlk hin hA hP hK hD hS hl
  have hown : s.vm.findClass RX0 = some m.cls := hown
  have hl : lv_has ls 2 [(0, .int (nI a)), (1, .int (nI i))] := hl
  refine lv_iload_n hx hb dX0_place_0 rfl (lv_at hl 0 rfl) ?_
  refine lv_bipush (v := (nI 12)) hx hb dX0_place_1 (by decide +kernel) ?_
  refine lv_imul hx hb dX0_place_3 ?_
  refine jt_i (y := (nI (12 * a))) ((pk_mul a 12).trans (by rw [Nat.mul_comm])) ?_
  refine lv_iload_n hx hb dX0_place_4 rfl (lv_at hl 1 rfl) ?_
  refine lv_iadd hx hb dX0_place_5 ?_
  refine jt_i (y := (nI ((12 * a) + i))) (nI_add _ _) ?_
  refine lv_sipush (v := (nI 480)) hx hb dX0_place_6 (by decide +kernel) ?_
  refine j_calli (wr := []) hP hD hS hA [] [] rfl rfl (by decide) (by decide) (va_runS (As := [.int (nI ((12 * a) + i)), .int (nI 480)]) (rest := []) ⟨hx, hb, hml, hown, hts⟩ (c_J_floorMod l D cb ci cz (12 * a + i) 480 (by omega) (by decide) (by decide) H.size) (va_cwS 2 hts gX0_place_J9_floorMod_7cf53 rfl rfl rfl (by decide +kernel) ⟨Nat.le_of_ble_eq_true rfl, Nat.le_of_ble_eq_true rfl⟩) (j_preS [] [0, 1, 2] hK hP hD rfl rfl rfl rfl) rfl rfl hl.1 rfl (lv_room (Nat.le_of_ble_eq_true rfl)) dX0_place_9 ⟨Nat.le_of_ble_eq_true rfl, Nat.le_of_ble_eq_true rfl⟩) (fun r9 u9 H locs hw hP hD hS => ?_)
  have hP : va_P D vwCl [] H := hP
  have hD : va_D A [] := hD
  have hw : r9 = (nI ((12 * a + i) % 480)) := hw
  subst hw
  exact j_iret (v := (nI ((12 * a + i) % 480))) (()) hx hb hr hlk hK hP hD hS (rfl) dX0_place_12
abbrev rm_R_sectorsFor : Room := { frames := 0, cells := 0, slots := 0, locals := 0 }
set_option maxHeartbeats 4000000 in
set_option maxRecDepth 100000 in
/-- the sectors of a bytes -/
theorem c_R_sectorsFor (l : Launch) (D : va_G) (cb ci cz : ClassId) (a : Nat) (ha : a ≤ 100) (sz : Nat) : Met l yX0_sectorsFor wsX0_sectorsFor rm_R_sectorsFor (va_Pc [.int (nI a)] (j_pre D (jT cb ci cz) [] sz)) (va_Qi (fun (x : Int32) (_ : Unit) => x = nI (jsc a)) (j_post D (jT cb ci cz) (fun _ => []) (va_A [] sz)) (va_A [] sz)) 0 0 (va_A [] sz) := by
  refine j_in (Qc := fun A => (va_Qi (fun (x : Int32) (_ : Unit) => x = nI (jsc a)) (j_post D (jT cb ci cz) (fun _ => []) A) A)) (cc := cX0_sectorsFor) (maxL := 1) (ret := (some .int)) (by decide) rfl (Nat.le_of_ble_eq_true rfl) ?_
  intro p e s m av below meth c A ls H locs hx hb hr hml hts hown hlk hin hA hP hK hD hS hl
  have hown : s.vm.findClass RX0 = some m.cls := hown
  have hl : lv_has ls 1 [(0, .int (nI a))] := hl
  refine lv_iload_n hx hb dX0_sectorsFor_0 rfl (lv_at hl 0 rfl) ?_
  refine lv_bipush (v := (nI 12)) hx hb dX0_sectorsFor_1 (by decide +kernel) ?_
  refine lv_icmp_gt (tgt := 10) hx hb dX0_sectorsFor_3 (by decide) (fun c_3_1 => ?_) (fun c_3_1 => ?_)
  · rw [nI_ltI (show 12 < 2 ^ 31 by omega) (show a < 2 ^ 31 by omega)] at c_3_1
    refine lv_iload_n hx hb dX0_sectorsFor_10 rfl (lv_at hl 0 rfl) ?_
    refine lv_bipush (v := (nI 12)) hx hb dX0_sectorsFor_11 (by decide +kernel) ?_
    refine lv_iadd hx hb dX0_sectorsFor_13 ?_
    refine jt_i (y := (nI (a + 12))) (nI_add _ _) ?_
    refine lv_iconst (v := (nI 1)) hx hb dX0_sectorsFor_14 (by decide +kernel) ?_
    refine lv_isub hx hb dX0_sectorsFor_15 ?_
    refine jt_i (y := (nI ((a + 12) - 1))) (pk_sub (by omega)) ?_
    refine lv_bipush (v := (nI 12)) hx hb dX0_sectorsFor_16 (by decide +kernel) ?_
    refine lv_idiv hx hb dX0_sectorsFor_18 (nI_ne0 (by omega) (by omega)) ?_
    refine jt_i (y := (nI (((a + 12) - 1) / 12))) (pk_div (by omega) (by omega) (by omega)) ?_
    exact j_iret (v := (nI (((a + 12) - 1) / 12))) (()) hx hb hr hlk hK hP hD hS (congrArg nI (by unfold jsc; split <;> omega)) dX0_sectorsFor_19
  · rw [nI_ltI (show 12 < 2 ^ 31 by omega) (show a < 2 ^ 31 by omega)] at c_3_1
    refine lv_iconst (v := (nI 1)) hx hb dX0_sectorsFor_6 (by decide +kernel) ?_
    refine lv_goto (tgt := 19) hx hb dX0_sectorsFor_7 (by decide) ?_
    exact j_iret (v := (nI 1)) (()) hx hb hr hlk hK hP hD hS (congrArg nI (by unfold jsc; split <;> omega)) dX0_sectorsFor_19
abbrev rm_R_records : Room := { frames := 0, cells := 0, slots := 0, locals := 0 }
set_option maxHeartbeats 4000000 in
set_option maxRecDepth 100000 in
/-- how many records -/
theorem c_R_records (l : Launch) (D : va_G) (cb ci cz : ClassId) (qr qd ql qn : Nat) (dk L N : Nat → Int32) (old us pr : Nat) (sz : Nat) : Met l yX0_records wsX0_records rm_R_records (va_Pc [.ref qr] (j_pre D (jT cb ci cz) [(qr, .inr (0, [.ref qd, .ref ql, .ref qn, .int (nI old), .int (nI us), .int (nI pr)])), (qd, .inl (cb, 480, .inl dk)), (ql, .inl (ci, 40, .inl L)), (qn, .inl (ci, 40, .inl N))] sz)) (va_Qi (fun (x : Int32) (_ : Unit) => x = nI pr) (j_post D (jT cb ci cz) (fun _ => [(qr, .inr (0, [.ref qd, .ref ql, .ref qn, .int (nI old), .int (nI us), .int (nI pr)])), (qd, .inl (cb, 480, .inl dk)), (ql, .inl (ci, 40, .inl L)), (qn, .inl (ci, 40, .inl N))]) (va_A [(qr, .inr (0, [.ref qd, .ref ql, .ref qn, .int (nI old), .int (nI us), .int (nI pr)])), (qd, .inl (cb, 480, .inl dk)), (ql, .inl (ci, 40, .inl L)), (qn, .inl (ci, 40, .inl N))] sz)) (va_A [(qr, .inr (0, [.ref qd, .ref ql, .ref qn, .int (nI old), .int (nI us), .int (nI pr)])), (qd, .inl (cb, 480, .inl dk)), (ql, .inl (ci, 40, .inl L)), (qn, .inl (ci, 40, .inl N))] sz)) 0 0 (va_A [(qr, .inr (0, [.ref qd, .ref ql, .ref qn, .int (nI old), .int (nI us), .int (nI pr)])), (qd, .inl (cb, 480, .inl dk)), (ql, .inl (ci, 40, .inl L)), (qn, .inl (ci, 40, .inl N))] sz) := by
  refine j_in (Qc := fun A => (va_Qi (fun (x : Int32) (_ : Unit) => x = nI pr) (j_post D (jT cb ci cz) (fun _ => [(qr, .inr (0, [.ref qd, .ref ql, .ref qn, .int (nI old), .int (nI us), .int (nI pr)])), (qd, .inl (cb, 480, .inl dk)), (ql, .inl (ci, 40, .inl L)), (qn, .inl (ci, 40, .inl N))]) A) A)) (cc := cX0_records) (maxL := 1) (ret := (some .int)) (by decide) rfl (Nat.le_of_ble_eq_true rfl) ?_
  intro p e s m av below meth c A ls H locs hx hb hr hml hts hown hlk hin hA hP hK hD hS hl
  have hown : s.vm.findClass RX0 = some m.cls := hown
  have hl : lv_has ls 1 [(0, .ref qr)] := hl
  refine lv_aload_n hx hb dX0_records_0 rfl (lv_at hl 0 rfl) ?_
  refine va_get (D := D) (ci := 0) (v := .int (nI pr)) (C := RX0) (T := TX0) (N := 6) hx hb hts (by decide +kernel) hown hK hP 0 rfl rfl 5 (by decide) (hts (.fieldLink RX0 29 "JournalDesk$Ring" "present" "I") (by decide +kernel)) (fun _ h9 => h9) rfl dX0_records_1 ?_
  exact j_iret (v := (nI pr)) (()) hx hb hr hlk hK hP hD hS (rfl) dX0_records_4
abbrev rm_R_sectors : Room := { frames := 0, cells := 0, slots := 0, locals := 0 }
set_option maxHeartbeats 4000000 in
set_option maxRecDepth 100000 in
/-- how many sectors -/
theorem c_R_sectors (l : Launch) (D : va_G) (cb ci cz : ClassId) (qr qd ql qn : Nat) (dk L N : Nat → Int32) (old us pr : Nat) (sz : Nat) : Met l yX0_sectors wsX0_sectors rm_R_sectors (va_Pc [.ref qr] (j_pre D (jT cb ci cz) [(qr, .inr (0, [.ref qd, .ref ql, .ref qn, .int (nI old), .int (nI us), .int (nI pr)])), (qd, .inl (cb, 480, .inl dk)), (ql, .inl (ci, 40, .inl L)), (qn, .inl (ci, 40, .inl N))] sz)) (va_Qi (fun (x : Int32) (_ : Unit) => x = nI us) (j_post D (jT cb ci cz) (fun _ => [(qr, .inr (0, [.ref qd, .ref ql, .ref qn, .int (nI old), .int (nI us), .int (nI pr)])), (qd, .inl (cb, 480, .inl dk)), (ql, .inl (ci, 40, .inl L)), (qn, .inl (ci, 40, .inl N))]) (va_A [(qr, .inr (0, [.ref qd, .ref ql, .ref qn, .int (nI old), .int (nI us), .int (nI pr)])), (qd, .inl (cb, 480, .inl dk)), (ql, .inl (ci, 40, .inl L)), (qn, .inl (ci, 40, .inl N))] sz)) (va_A [(qr, .inr (0, [.ref qd, .ref ql, .ref qn, .int (nI old), .int (nI us), .int (nI pr)])), (qd, .inl (cb, 480, .inl dk)), (ql, .inl (ci, 40, .inl L)), (qn, .inl (ci, 40, .inl N))] sz)) 0 0 (va_A [(qr, .inr (0, [.ref qd, .ref ql, .ref qn, .int (nI old), .int (nI us), .int (nI pr)])), (qd, .inl (cb, 480, .inl dk)), (ql, .inl (ci, 40, .inl L)), (qn, .inl (ci, 40, .inl N))] sz) := by
  refine j_in (Qc := fun A => (va_Qi (fun (x : Int32) (_ : Unit) => x = nI us) (j_post D (jT cb ci cz) (fun _ => [(qr, .inr (0, [.ref qd, .ref ql, .ref qn, .int (nI old), .int (nI us), .int (nI pr)])), (qd, .inl (cb, 480, .inl dk)), (ql, .inl (ci, 40, .inl L)), (qn, .inl (ci, 40, .inl N))]) A) A)) (cc := cX0_sectors) (maxL := 1) (ret := (some .int)) (by decide) rfl (Nat.le_of_ble_eq_true rfl) ?_
  intro p e s m av below meth c A ls H locs hx hb hr hml hts hown hlk hin hA hP hK hD hS hl
  have hown : s.vm.findClass RX0 = some m.cls := hown
  have hl : lv_has ls 1 [(0, .ref qr)] := hl
  refine lv_aload_n hx hb dX0_sectors_0 rfl (lv_at hl 0 rfl) ?_
  refine va_get (D := D) (ci := 0) (v := .int (nI us)) (C := RX0) (T := TX0) (N := 6) hx hb hts (by decide +kernel) hown hK hP 0 rfl rfl 4 (by decide) (hts (.fieldLink RX0 26 "JournalDesk$Ring" "used" "I") (by decide +kernel)) (fun _ h9 => h9) rfl dX0_sectors_1 ?_
  exact j_iret (v := (nI us)) (()) hx hb hr hlk hK hP hD hS (rfl) dX0_sectors_4
abbrev rm_R_hasRoom : Room := { frames := 0, cells := 0, slots := 0, locals := 0 }
set_option maxHeartbeats 4000000 in
set_option maxRecDepth 100000 in
/-- whether a sectors more find room -/
theorem c_R_hasRoom (l : Launch) (D : va_G) (cb ci cz : ClassId) (qr qd ql qn : Nat) (dk L N : Nat → Int32) (old us pr : Nat) (a : Nat) (ha : a < 2 ^ 30) (hu : us ≤ 40) (sz : Nat) : Met l yX0_hasRoom wsX0_hasRoom rm_R_hasRoom (va_Pc [.ref qr, .int (nI a)] (j_pre D (jT cb ci cz) [(qr, .inr (0, [.ref qd, .ref ql, .ref qn, .int (nI old), .int (nI us), .int (nI pr)])), (qd, .inl (cb, 480, .inl dk)), (ql, .inl (ci, 40, .inl L)), (qn, .inl (ci, 40, .inl N))] sz)) (va_Qi (fun (x : Int32) (_ : Unit) => x = jbi (decide (us + a ≤ 40))) (j_post D (jT cb ci cz) (fun _ => [(qr, .inr (0, [.ref qd, .ref ql, .ref qn, .int (nI old), .int (nI us), .int (nI pr)])), (qd, .inl (cb, 480, .inl dk)), (ql, .inl (ci, 40, .inl L)), (qn, .inl (ci, 40, .inl N))]) (va_A [(qr, .inr (0, [.ref qd, .ref ql, .ref qn, .int (nI old), .int (nI us), .int (nI pr)])), (qd, .inl (cb, 480, .inl dk)), (ql, .inl (ci, 40, .inl L)), (qn, .inl (ci, 40, .inl N))] sz)) (va_A [(qr, .inr (0, [.ref qd, .ref ql, .ref qn, .int (nI old), .int (nI us), .int (nI pr)])), (qd, .inl (cb, 480, .inl dk)), (ql, .inl (ci, 40, .inl L)), (qn, .inl (ci, 40, .inl N))] sz)) 0 0 (va_A [(qr, .inr (0, [.ref qd, .ref ql, .ref qn, .int (nI old), .int (nI us), .int (nI pr)])), (qd, .inl (cb, 480, .inl dk)), (ql, .inl (ci, 40, .inl L)), (qn, .inl (ci, 40, .inl N))] sz) := by
  refine j_in (Qc := fun A => (va_Qi (fun (x : Int32) (_ : Unit) => x = jbi (decide (us + a ≤ 40))) (j_post D (jT cb ci cz) (fun _ => [(qr, .inr (0, [.ref qd, .ref ql, .ref qn, .int (nI old), .int (nI us), .int (nI pr)])), (qd, .inl (cb, 480, .inl dk)), (ql, .inl (ci, 40, .inl L)), (qn, .inl (ci, 40, .inl N))]) A) A)) (cc := cX0_hasRoom) (maxL := 2) (ret := (some .boolean)) (by decide) rfl (Nat.le_of_ble_eq_true rfl) ?_
  intro p e s m av below meth c A ls H locs hx hb hr hml hts hown hlk hin hA hP hK hD hS hl
  have hown : s.vm.findClass RX0 = some m.cls := hown
  have hl : lv_has ls 2 [(0, .ref qr), (1, .int (nI a))] := hl
  refine lv_iload_n hx hb dX0_hasRoom_0 rfl (lv_at hl 1 rfl) ?_
  refine lv_bipush (v := (nI 40)) hx hb dX0_hasRoom_1 (by decide +kernel) ?_
  refine lv_aload_n hx hb dX0_hasRoom_3 rfl (lv_at hl 0 rfl) ?_
  refine va_get (D := D) (ci := 0) (v := .int (nI us)) (C := RX0) (T := TX0) (N := 6) hx hb hts (by decide +kernel) hown hK hP 0 rfl rfl 4 (by decide) (hts (.fieldLink RX0 26 "JournalDesk$Ring" "used" "I") (by decide +kernel)) (fun _ h9 => h9) rfl dX0_hasRoom_4 ?_
  refine lv_isub hx hb dX0_hasRoom_7 ?_
  refine jt_i (y := (nI (40 - us))) (pk_sub (by omega)) ?_
  refine lv_icmp_gt (tgt := 15) hx hb dX0_hasRoom_8 (by decide) (fun c_8_1 => ?_) (fun c_8_1 => ?_)
  · rw [nI_ltI (show 40 - us < 2 ^ 31 by omega) (show a < 2 ^ 31 by omega)] at c_8_1
    refine lv_iconst (v := (nI 0)) hx hb dX0_hasRoom_15 (by decide +kernel) ?_
    exact j_zret (v := (nI 0)) (()) hx hb hr hlk hK hP hD hS (by decide +kernel) (by rw [decide_eq_false (by omega)]; rfl) dX0_hasRoom_16
  · rw [nI_ltI (show 40 - us < 2 ^ 31 by omega) (show a < 2 ^ 31 by omega)] at c_8_1
    refine lv_iconst (v := (nI 1)) hx hb dX0_hasRoom_11 (by decide +kernel) ?_
    refine lv_goto (tgt := 16) hx hb dX0_hasRoom_12 (by decide) ?_
    exact j_zret (v := (nI 1)) (()) hx hb hr hlk hK hP hD hS (by decide +kernel) (by rw [decide_eq_true (by omega)]; rfl) dX0_hasRoom_16
abbrev rm_R_lengthAt : Room := { frames := 2, cells := 0, slots := 0, locals := 42 }
set_option maxHeartbeats 4000000 in
set_option maxRecDepth 100000 in
/-- the length that stands at sector a -/
theorem c_R_lengthAt (l : Launch) (D : va_G) (cb ci cz : ClassId) (qr qd ql qn : Nat) (dk L N : Nat → Int32) (old us pr : Nat) (a : Nat) (ha : a < 40) (sz : Nat) : Met l yX0_lengthAt wsX0_lengthAt rm_R_lengthAt (va_Pc [.ref qr, .int (nI a)] (j_pre D (jT cb ci cz) [(qr, .inr (0, [.ref qd, .ref ql, .ref qn, .int (nI old), .int (nI us), .int (nI pr)])), (qd, .inl (cb, 480, .inl dk)), (ql, .inl (ci, 40, .inl L)), (qn, .inl (ci, 40, .inl N))] sz)) (va_Qi (fun (x : Int32) (_ : Unit) => x = L a) (j_post D (jT cb ci cz) (fun _ => [(qr, .inr (0, [.ref qd, .ref ql, .ref qn, .int (nI old), .int (nI us), .int (nI pr)])), (qd, .inl (cb, 480, .inl dk)), (ql, .inl (ci, 40, .inl L)), (qn, .inl (ci, 40, .inl N))]) (va_A [(qr, .inr (0, [.ref qd, .ref ql, .ref qn, .int (nI old), .int (nI us), .int (nI pr)])), (qd, .inl (cb, 480, .inl dk)), (ql, .inl (ci, 40, .inl L)), (qn, .inl (ci, 40, .inl N))] sz)) (va_A [(qr, .inr (0, [.ref qd, .ref ql, .ref qn, .int (nI old), .int (nI us), .int (nI pr)])), (qd, .inl (cb, 480, .inl dk)), (ql, .inl (ci, 40, .inl L)), (qn, .inl (ci, 40, .inl N))] sz)) 0 0 (va_A [(qr, .inr (0, [.ref qd, .ref ql, .ref qn, .int (nI old), .int (nI us), .int (nI pr)])), (qd, .inl (cb, 480, .inl dk)), (ql, .inl (ci, 40, .inl L)), (qn, .inl (ci, 40, .inl N))] sz) := by
  refine j_in (Qc := fun A => (va_Qi (fun (x : Int32) (_ : Unit) => x = L a) (j_post D (jT cb ci cz) (fun _ => [(qr, .inr (0, [.ref qd, .ref ql, .ref qn, .int (nI old), .int (nI us), .int (nI pr)])), (qd, .inl (cb, 480, .inl dk)), (ql, .inl (ci, 40, .inl L)), (qn, .inl (ci, 40, .inl N))]) A) A)) (cc := cX0_lengthAt) (maxL := 2) (ret := (some .int)) (by decide) rfl (Nat.le_of_ble_eq_true rfl) ?_
  intro p e s m av below meth c A ls H locs hx hb hr hml hts hown hlk hin hA hP hK hD hS hl
  have hown : s.vm.findClass RX0 = some m.cls := hown
  have hl : lv_has ls 2 [(0, .ref qr), (1, .int (nI a))] := hl
  refine lv_aload_n hx hb dX0_lengthAt_0 rfl (lv_at hl 0 rfl) ?_
  refine va_get (D := D) (ci := 0) (v := .ref ql) (C := RX0) (T := TX0) (N := 6) hx hb hts (by decide +kernel) hown hK hP 0 rfl rfl 1 (by decide) (hts (.fieldLink RX0 15 "JournalDesk$Ring" "lengths" "[I") (by decide +kernel)) (fun _ h9 => h9) rfl dX0_lengthAt_1 ?_
  refine lv_iload_n hx hb dX0_lengthAt_4 rfl (lv_at hl 1 rfl) ?_
  refine j_calli (wr := [(qr, .inr (0, [.ref qd, .ref ql, .ref qn, .int (nI old), .int (nI us), .int (nI pr)])), (qd, .inl (cb, 480, .inl dk)), (ql, .inl (ci, 40, .inl L)), (qn, .inl (ci, 40, .inl N))]) hP hD hS hA [] [0, 1, 2, 3] rfl rfl (by decide) (by decide) (va_runS (As := [.int (nI a)]) (rest := [.ref ql]) ⟨hx, hb, hml, hown, hts⟩ (c_R_onRing l D cb ci cz a (by omega) H.size) (va_cwS 1 hts gX0_lengthAt_X0_onRing rfl rfl rfl (by decide +kernel) ⟨Nat.le_of_ble_eq_true rfl, Nat.le_of_ble_eq_true rfl⟩) (j_preS [] [0, 1, 2] hK hP hD rfl rfl rfl rfl) rfl rfl hl.1 rfl (lv_room (Nat.le_of_ble_eq_true rfl)) dX0_lengthAt_5 ⟨Nat.le_of_ble_eq_true rfl, Nat.le_of_ble_eq_true rfl⟩) (fun r5 u9 H locs hw hP hD hS => ?_)
  have hP : va_P D vwCl [(qr, .inr (0, [.ref qd, .ref ql, .ref qn, .int (nI old), .int (nI us), .int (nI pr)])), (qd, .inl (cb, 480, .inl dk)), (ql, .inl (ci, 40, .inl L)), (qn, .inl (ci, 40, .inl N))] H := hP
  have hD : va_D A [(qr, .inr (0, [.ref qd, .ref ql, .ref qn, .int (nI old), .int (nI us), .int (nI pr)])), (qd, .inl (cb, 480, .inl dk)), (ql, .inl (ci, 40, .inl L)), (qn, .inl (ci, 40, .inl N))] := hD
  have hw : r5 = (nI (a % 40)) := hw
  subst hw
  refine jt_i (y := nI a) (congrArg nI (Nat.mod_eq_of_lt ha)) ?_
  refine j_iald hx hb hK hP 2 1 rfl rfl (i := a) (by omega) (by decide) (v := (L a)) (rfl) dX0_lengthAt_8 ?_
  exact j_iret (v := (L a)) (()) hx hb hr hlk hK hP hD hS (rfl) dX0_lengthAt_9
abbrev rm_R_numberAt : Room := { frames := 2, cells := 0, slots := 0, locals := 42 }
set_option maxHeartbeats 4000000 in
set_option maxRecDepth 100000 in
/-- the number that stands at sector a -/
theorem c_R_numberAt (l : Launch) (D : va_G) (cb ci cz : ClassId) (qr qd ql qn : Nat) (dk L N : Nat → Int32) (old us pr : Nat) (a : Nat) (ha : a < 40) (sz : Nat) : Met l yX0_numberAt wsX0_numberAt rm_R_numberAt (va_Pc [.ref qr, .int (nI a)] (j_pre D (jT cb ci cz) [(qr, .inr (0, [.ref qd, .ref ql, .ref qn, .int (nI old), .int (nI us), .int (nI pr)])), (qd, .inl (cb, 480, .inl dk)), (ql, .inl (ci, 40, .inl L)), (qn, .inl (ci, 40, .inl N))] sz)) (va_Qi (fun (x : Int32) (_ : Unit) => x = N a) (j_post D (jT cb ci cz) (fun _ => [(qr, .inr (0, [.ref qd, .ref ql, .ref qn, .int (nI old), .int (nI us), .int (nI pr)])), (qd, .inl (cb, 480, .inl dk)), (ql, .inl (ci, 40, .inl L)), (qn, .inl (ci, 40, .inl N))]) (va_A [(qr, .inr (0, [.ref qd, .ref ql, .ref qn, .int (nI old), .int (nI us), .int (nI pr)])), (qd, .inl (cb, 480, .inl dk)), (ql, .inl (ci, 40, .inl L)), (qn, .inl (ci, 40, .inl N))] sz)) (va_A [(qr, .inr (0, [.ref qd, .ref ql, .ref qn, .int (nI old), .int (nI us), .int (nI pr)])), (qd, .inl (cb, 480, .inl dk)), (ql, .inl (ci, 40, .inl L)), (qn, .inl (ci, 40, .inl N))] sz)) 0 0 (va_A [(qr, .inr (0, [.ref qd, .ref ql, .ref qn, .int (nI old), .int (nI us), .int (nI pr)])), (qd, .inl (cb, 480, .inl dk)), (ql, .inl (ci, 40, .inl L)), (qn, .inl (ci, 40, .inl N))] sz) := by
  refine j_in (Qc := fun A => (va_Qi (fun (x : Int32) (_ : Unit) => x = N a) (j_post D (jT cb ci cz) (fun _ => [(qr, .inr (0, [.ref qd, .ref ql, .ref qn, .int (nI old), .int (nI us), .int (nI pr)])), (qd, .inl (cb, 480, .inl dk)), (ql, .inl (ci, 40, .inl L)), (qn, .inl (ci, 40, .inl N))]) A) A)) (cc := cX0_numberAt) (maxL := 2) (ret := (some .int)) (by decide) rfl (Nat.le_of_ble_eq_true rfl) ?_
  intro p e s m av below meth c A ls H locs hx hb hr hml hts hown hlk hin hA hP hK hD hS hl
  have hown : s.vm.findClass RX0 = some m.cls := hown
  have hl : lv_has ls 2 [(0, .ref qr), (1, .int (nI a))] := hl
  refine lv_aload_n hx hb dX0_numberAt_0 rfl (lv_at hl 0 rfl) ?_
  refine va_get (D := D) (ci := 0) (v := .ref qn) (C := RX0) (T := TX0) (N := 6) hx hb hts (by decide +kernel) hown hK hP 0 rfl rfl 2 (by decide) (hts (.fieldLink RX0 19 "JournalDesk$Ring" "numbers" "[I") (by decide +kernel)) (fun _ h9 => h9) rfl dX0_numberAt_1 ?_
  refine lv_iload_n hx hb dX0_numberAt_4 rfl (lv_at hl 1 rfl) ?_
  refine j_calli (wr := [(qr, .inr (0, [.ref qd, .ref ql, .ref qn, .int (nI old), .int (nI us), .int (nI pr)])), (qd, .inl (cb, 480, .inl dk)), (ql, .inl (ci, 40, .inl L)), (qn, .inl (ci, 40, .inl N))]) hP hD hS hA [] [0, 1, 2, 3] rfl rfl (by decide) (by decide) (va_runS (As := [.int (nI a)]) (rest := [.ref qn]) ⟨hx, hb, hml, hown, hts⟩ (c_R_onRing l D cb ci cz a (by omega) H.size) (va_cwS 1 hts gX0_numberAt_X0_onRing rfl rfl rfl (by decide +kernel) ⟨Nat.le_of_ble_eq_true rfl, Nat.le_of_ble_eq_true rfl⟩) (j_preS [] [0, 1, 2] hK hP hD rfl rfl rfl rfl) rfl rfl hl.1 rfl (lv_room (Nat.le_of_ble_eq_true rfl)) dX0_numberAt_5 ⟨Nat.le_of_ble_eq_true rfl, Nat.le_of_ble_eq_true rfl⟩) (fun r5 u9 H locs hw hP hD hS => ?_)
  have hP : va_P D vwCl [(qr, .inr (0, [.ref qd, .ref ql, .ref qn, .int (nI old), .int (nI us), .int (nI pr)])), (qd, .inl (cb, 480, .inl dk)), (ql, .inl (ci, 40, .inl L)), (qn, .inl (ci, 40, .inl N))] H := hP
  have hD : va_D A [(qr, .inr (0, [.ref qd, .ref ql, .ref qn, .int (nI old), .int (nI us), .int (nI pr)])), (qd, .inl (cb, 480, .inl dk)), (ql, .inl (ci, 40, .inl L)), (qn, .inl (ci, 40, .inl N))] := hD
  have hw : r5 = (nI (a % 40)) := hw
  subst hw
  refine jt_i (y := nI a) (congrArg nI (Nat.mod_eq_of_lt ha)) ?_
  refine j_iald hx hb hK hP 3 1 rfl rfl (i := a) (by omega) (by decide) (v := (N a)) (rfl) dX0_numberAt_8 ?_
  exact j_iret (v := (N a)) (()) hx hb hr hlk hK hP hD hS (rfl) dX0_numberAt_9
abbrev rm_R_isRecord : Room := { frames := 3, cells := 0, slots := 0, locals := 63 }
set_option maxHeartbeats 4000000 in
set_option maxRecDepth 100000 in
/-- whether a record begins at sector a -/
theorem c_R_isRecord (l : Launch) (D : va_G) (cb ci cz : ClassId) (qr qd ql qn : Nat) (dk L N : Nat → Int32) (old us pr : Nat) (a : Nat) (b : Bool) (w : Nat) (ha : a < 40) (hw0 : w ≤ 100) (hL : L a = if b = true then nI w else -1) (sz : Nat) : Met l yX0_isRecord wsX0_isRecord rm_R_isRecord (va_Pc [.ref qr, .int (nI a)] (j_pre D (jT cb ci cz) [(qr, .inr (0, [.ref qd, .ref ql, .ref qn, .int (nI old), .int (nI us), .int (nI pr)])), (qd, .inl (cb, 480, .inl dk)), (ql, .inl (ci, 40, .inl L)), (qn, .inl (ci, 40, .inl N))] sz)) (va_Qi (fun (x : Int32) (_ : Unit) => x = jbi b) (j_post D (jT cb ci cz) (fun _ => [(qr, .inr (0, [.ref qd, .ref ql, .ref qn, .int (nI old), .int (nI us), .int (nI pr)])), (qd, .inl (cb, 480, .inl dk)), (ql, .inl (ci, 40, .inl L)), (qn, .inl (ci, 40, .inl N))]) (va_A [(qr, .inr (0, [.ref qd, .ref ql, .ref qn, .int (nI old), .int (nI us), .int (nI pr)])), (qd, .inl (cb, 480, .inl dk)), (ql, .inl (ci, 40, .inl L)), (qn, .inl (ci, 40, .inl N))] sz)) (va_A [(qr, .inr (0, [.ref qd, .ref ql, .ref qn, .int (nI old), .int (nI us), .int (nI pr)])), (qd, .inl (cb, 480, .inl dk)), (ql, .inl (ci, 40, .inl L)), (qn, .inl (ci, 40, .inl N))] sz)) 0 0 (va_A [(qr, .inr (0, [.ref qd, .ref ql, .ref qn, .int (nI old), .int (nI us), .int (nI pr)])), (qd, .inl (cb, 480, .inl dk)), (ql, .inl (ci, 40, .inl L)), (qn, .inl (ci, 40, .inl N))] sz) := by
  refine j_in (Qc := fun A => (va_Qi (fun (x : Int32) (_ : Unit) => x = jbi b) (j_post D (jT cb ci cz) (fun _ => [(qr, .inr (0, [.ref qd, .ref ql, .ref qn, .int (nI old), .int (nI us), .int (nI pr)])), (qd, .inl (cb, 480, .inl dk)), (ql, .inl (ci, 40, .inl L)), (qn, .inl (ci, 40, .inl N))]) A) A)) (cc := cX0_isRecord) (maxL := 2) (ret := (some .boolean)) (by decide) rfl (Nat.le_of_ble_eq_true rfl) ?_
  intro p e s m av below meth c A ls H locs hx hb hr hml hts hown hlk hin hA hP hK hD hS hl
  have hown : s.vm.findClass RX0 = some m.cls := hown
  have hl : lv_has ls 2 [(0, .ref qr), (1, .int (nI a))] := hl
  refine lv_aload_n hx hb dX0_isRecord_0 rfl (lv_at hl 0 rfl) ?_
  refine lv_iload_n hx hb dX0_isRecord_1 rfl (lv_at hl 1 rfl) ?_
  refine j_calli (wr := []) hP hD hS hA [0, 1, 2, 3] [] rfl rfl (by decide) (by decide) (va_runV (As := [.int (nI a)]) (rest := []) ⟨hx, hb, hml, hown, hts⟩ (c_R_lengthAt l D cb ci cz qr qd ql qn dk L N old us pr a ha H.size) (cwV 1 hts gX0_isRecord_X0_lengthAt rfl rfl rfl (by decide +kernel) ⟨Nat.le_of_ble_eq_true rfl, Nat.le_of_ble_eq_true rfl⟩) (j_preV (ci := 0) (q0 := 0) [0, 1, 2, 3] [0, 1, 2] hK hP hD rfl rfl rfl rfl rfl rfl) rfl rfl hl.1 rfl (lv_room (Nat.le_of_ble_eq_true rfl)) dX0_isRecord_2 ⟨Nat.le_of_ble_eq_true rfl, Nat.le_of_ble_eq_true rfl⟩) (fun r2 u9 H locs hw hP hD hS => ?_)
  have hP : va_P D vwCl [(qr, .inr (0, [.ref qd, .ref ql, .ref qn, .int (nI old), .int (nI us), .int (nI pr)])), (qd, .inl (cb, 480, .inl dk)), (ql, .inl (ci, 40, .inl L)), (qn, .inl (ci, 40, .inl N))] H := hP
  have hD : va_D A [(qr, .inr (0, [.ref qd, .ref ql, .ref qn, .int (nI old), .int (nI us), .int (nI pr)])), (qd, .inl (cb, 480, .inl dk)), (ql, .inl (ci, 40, .inl L)), (qn, .inl (ci, 40, .inl N))] := hD
  have hw : r2 = (L a) := hw
  subst hw
  refine lv_iconst (v := (-1)) hx hb dX0_isRecord_5 (by decide +kernel) ?_
  refine lv_icmp_eq (tgt := 13) hx hb dX0_isRecord_6 (by decide) (fun c_6_1 => ?_) (fun c_6_1 => ?_)
  · have hb1 : b = false := (j_lb hw0 hL).mp c_6_1
    refine lv_iconst (v := (nI 0)) hx hb dX0_isRecord_13 (by decide +kernel) ?_
    exact j_zret (v := (nI 0)) (()) hx hb hr hlk hK hP hD hS (by decide +kernel) (by rw [hb1]; rfl) dX0_isRecord_14
  · have hb1 : b = true := j_lbt hw0 hL c_6_1
    refine lv_iconst (v := (nI 1)) hx hb dX0_isRecord_9 (by decide +kernel) ?_
    refine lv_goto (tgt := 14) hx hb dX0_isRecord_10 (by decide) ?_
    exact j_zret (v := (nI 1)) (()) hx hb hr hlk hK hP hD hS (by decide +kernel) (by rw [hb1]; rfl) dX0_isRecord_14
abbrev rm_R_sectorsAt : Room := { frames := 4, cells := 0, slots := 0, locals := 84 }
set_option maxHeartbeats 4000000 in
set_option maxRecDepth 100000 in
/-- the sectors of the entry that begins at sector a -/
theorem c_R_sectorsAt (l : Launch) (D : va_G) (cb ci cz : ClassId) (qr qd ql qn : Nat) (dk L N : Nat → Int32) (old us pr : Nat) (a : Nat) (b : Bool) (w : Nat) (ha : a < 40) (hw0 : w ≤ 100) (hL : L a = if b = true then nI w else -1) (sz : Nat) : Met l yX0_sectorsAt wsX0_sectorsAt rm_R_sectorsAt (va_Pc [.ref qr, .int (nI a)] (j_pre D (jT cb ci cz) [(qr, .inr (0, [.ref qd, .ref ql, .ref qn, .int (nI old), .int (nI us), .int (nI pr)])), (qd, .inl (cb, 480, .inl dk)), (ql, .inl (ci, 40, .inl L)), (qn, .inl (ci, 40, .inl N))] sz)) (va_Qi (fun (x : Int32) (_ : Unit) => x = nI (if b = true then jsc w else 1)) (j_post D (jT cb ci cz) (fun _ => [(qr, .inr (0, [.ref qd, .ref ql, .ref qn, .int (nI old), .int (nI us), .int (nI pr)])), (qd, .inl (cb, 480, .inl dk)), (ql, .inl (ci, 40, .inl L)), (qn, .inl (ci, 40, .inl N))]) (va_A [(qr, .inr (0, [.ref qd, .ref ql, .ref qn, .int (nI old), .int (nI us), .int (nI pr)])), (qd, .inl (cb, 480, .inl dk)), (ql, .inl (ci, 40, .inl L)), (qn, .inl (ci, 40, .inl N))] sz)) (va_A [(qr, .inr (0, [.ref qd, .ref ql, .ref qn, .int (nI old), .int (nI us), .int (nI pr)])), (qd, .inl (cb, 480, .inl dk)), (ql, .inl (ci, 40, .inl L)), (qn, .inl (ci, 40, .inl N))] sz)) 0 0 (va_A [(qr, .inr (0, [.ref qd, .ref ql, .ref qn, .int (nI old), .int (nI us), .int (nI pr)])), (qd, .inl (cb, 480, .inl dk)), (ql, .inl (ci, 40, .inl L)), (qn, .inl (ci, 40, .inl N))] sz) := by
  refine j_in (Qc := fun A => (va_Qi (fun (x : Int32) (_ : Unit) => x = nI (if b = true then jsc w else 1)) (j_post D (jT cb ci cz) (fun _ => [(qr, .inr (0, [.ref qd, .ref ql, .ref qn, .int (nI old), .int (nI us), .int (nI pr)])), (qd, .inl (cb, 480, .inl dk)), (ql, .inl (ci, 40, .inl L)), (qn, .inl (ci, 40, .inl N))]) A) A)) (cc := cX0_sectorsAt) (maxL := 2) (ret := (some .int)) (by decide) rfl (Nat.le_of_ble_eq_true rfl) ?_
  intro p e s m av below meth c A ls H locs hx hb hr hml hts hown hlk hin hA hP hK hD hS hl
  have hown : s.vm.findClass RX0 = some m.cls := hown
  have hl : lv_has ls 2 [(0, .ref qr), (1, .int (nI a))] := hl
  refine lv_aload_n hx hb dX0_sectorsAt_0 rfl (lv_at hl 0 rfl) ?_
  refine lv_iload_n hx hb dX0_sectorsAt_1 rfl (lv_at hl 1 rfl) ?_
  refine j_calli (wr := []) hP hD hS hA [0, 1, 2, 3] [] rfl rfl (by decide) (by decide) (va_runV (As := [.int (nI a)]) (rest := []) ⟨hx, hb, hml, hown, hts⟩ (c_R_isRecord l D cb ci cz qr qd ql qn dk L N old us pr a b w ha hw0 hL H.size) (cwV 1 hts gX0_sectorsAt_X0_isRecord rfl rfl rfl (by decide +kernel) ⟨Nat.le_of_ble_eq_true rfl, Nat.le_of_ble_eq_true rfl⟩) (j_preV (ci := 0) (q0 := 0) [0, 1, 2, 3] [0, 1, 2] hK hP hD rfl rfl rfl rfl rfl rfl) rfl rfl hl.1 rfl (lv_room (Nat.le_of_ble_eq_true rfl)) dX0_sectorsAt_2 ⟨Nat.le_of_ble_eq_true rfl, Nat.le_of_ble_eq_true rfl⟩) (fun r2 u9 H locs hw hP hD hS => ?_)
  have hP : va_P D vwCl [(qr, .inr (0, [.ref qd, .ref ql, .ref qn, .int (nI old), .int (nI us), .int (nI pr)])), (qd, .inl (cb, 480, .inl dk)), (ql, .inl (ci, 40, .inl L)), (qn, .inl (ci, 40, .inl N))] H := hP
  have hD : va_D A [(qr, .inr (0, [.ref qd, .ref ql, .ref qn, .int (nI old), .int (nI us), .int (nI pr)])), (qd, .inl (cb, 480, .inl dk)), (ql, .inl (ci, 40, .inl L)), (qn, .inl (ci, 40, .inl N))] := hD
  have hw : r2 = (jbi b) := hw
  subst hw
  refine lv_if_eq (tgt := 19) hx hb dX0_sectorsAt_5 (by decide) (fun c_5_1 => ?_) (fun c_5_1 => ?_)
  · have hb1 : b = false := jbi_0.mp c_5_1
    refine lv_iconst (v := (nI 1)) hx hb dX0_sectorsAt_19 (by decide +kernel) ?_
    exact j_iret (v := (nI 1)) (()) hx hb hr hlk hK hP hD hS (by rw [hb1]; rfl) dX0_sectorsAt_20
  · have hb1 : b = true := jbi_n0.mp c_5_1
    refine lv_aload_n hx hb dX0_sectorsAt_8 rfl (lv_at hl 0 rfl) ?_
    refine lv_iload_n hx hb dX0_sectorsAt_9 rfl (lv_at hl 1 rfl) ?_
    refine j_calli (wr := []) hP hD hS hA [0, 1, 2, 3] [] rfl rfl (by decide) (by decide) (va_runV (As := [.int (nI a)]) (rest := []) ⟨hx, hb, hml, hown, hts⟩ (c_R_lengthAt l D cb ci cz qr qd ql qn dk L N old us pr a ha H.size) (cwV 1 hts gX0_sectorsAt_X0_lengthAt rfl rfl rfl (by decide +kernel) ⟨Nat.le_of_ble_eq_true rfl, Nat.le_of_ble_eq_true rfl⟩) (j_preV (ci := 0) (q0 := 0) [0, 1, 2, 3] [0, 1, 2] hK hP hD rfl rfl rfl rfl rfl rfl) rfl rfl hl.1 rfl (lv_room (Nat.le_of_ble_eq_true rfl)) dX0_sectorsAt_10 ⟨Nat.le_of_ble_eq_true rfl, Nat.le_of_ble_eq_true rfl⟩) (fun r10 u9 H locs hw hP hD hS => ?_)
    have hP : va_P D vwCl [(qr, .inr (0, [.ref qd, .ref ql, .ref qn, .int (nI old), .int (nI us), .int (nI pr)])), (qd, .inl (cb, 480, .inl dk)), (ql, .inl (ci, 40, .inl L)), (qn, .inl (ci, 40, .inl N))] H := hP
    have hD : va_D A [(qr, .inr (0, [.ref qd, .ref ql, .ref qn, .int (nI old), .int (nI us), .int (nI pr)])), (qd, .inl (cb, 480, .inl dk)), (ql, .inl (ci, 40, .inl L)), (qn, .inl (ci, 40, .inl N))] := hD
    have hw : r10 = (L a) := hw
    subst hw
    refine jt_i (y := nI w) (by rw [hL, hb1]; rfl) ?_
    refine j_calli (wr := [(qr, .inr (0, [.ref qd, .ref ql, .ref qn, .int (nI old), .int (nI us), .int (nI pr)])), (qd, .inl (cb, 480, .inl dk)), (ql, .inl (ci, 40, .inl L)), (qn, .inl (ci, 40, .inl N))]) hP hD hS hA [] [0, 1, 2, 3] rfl rfl (by decide) (by decide) (va_runS (As := [.int (nI w)]) (rest := []) ⟨hx, hb, hml, hown, hts⟩ (c_R_sectorsFor l D cb ci cz w hw0 H.size) (va_cwS 1 hts gX0_sectorsAt_X0_sectorsFor rfl rfl rfl (by decide +kernel) ⟨Nat.le_of_ble_eq_true rfl, Nat.le_of_ble_eq_true rfl⟩) (j_preS [] [0, 1, 2] hK hP hD rfl rfl rfl rfl) rfl rfl hl.1 rfl (lv_room (Nat.le_of_ble_eq_true rfl)) dX0_sectorsAt_13 ⟨Nat.le_of_ble_eq_true rfl, Nat.le_of_ble_eq_true rfl⟩) (fun r13 u9 H locs hw hP hD hS => ?_)
    have hP : va_P D vwCl [(qr, .inr (0, [.ref qd, .ref ql, .ref qn, .int (nI old), .int (nI us), .int (nI pr)])), (qd, .inl (cb, 480, .inl dk)), (ql, .inl (ci, 40, .inl L)), (qn, .inl (ci, 40, .inl N))] H := hP
    have hD : va_D A [(qr, .inr (0, [.ref qd, .ref ql, .ref qn, .int (nI old), .int (nI us), .int (nI pr)])), (qd, .inl (cb, 480, .inl dk)), (ql, .inl (ci, 40, .inl L)), (qn, .inl (ci, 40, .inl N))] := hD
    have hw : r13 = (nI (jsc w)) := hw
    subst hw
    refine lv_goto (tgt := 20) hx hb dX0_sectorsAt_16 (by decide) ?_
    exact j_iret (v := (nI (jsc w))) (()) hx hb hr hlk hK hP hD hS (by rw [hb1]; rfl) dX0_sectorsAt_20
abbrev rm_R_addEntry : Room := { frames := 2, cells := 0, slots := 0, locals := 42 }
set_option maxHeartbeats 4000000 in
set_option maxRecDepth 100000 in
/-- an entry of sc sectors comes behind the others -/
theorem c_R_addEntry (l : Launch) (D : va_G) (cb ci cz : ClassId) (qr qd ql qn : Nat) (dk L N : Nat → Int32) (old us pr : Nat) (len : Int32) (sc : Nat) (ho : old < 40) (hu : us ≤ 40) (hs : sc ≤ 40) (sz : Nat) : Met l yX0_addEntry wsX0_addEntry rm_R_addEntry (va_Pc [.ref qr, .int len, .int (nI sc)] (j_pre D (jT cb ci cz) [(qr, .inr (0, [.ref qd, .ref ql, .ref qn, .int (nI old), .int (nI us), .int (nI pr)])), (qd, .inl (cb, 480, .inl dk)), (ql, .inl (ci, 40, .inl L)), (qn, .inl (ci, 40, .inl N))] sz)) (va_Qi (fun (x : Int32) (_ : Unit) => x = nI ((old + us) % 40)) (j_post D (jT cb ci cz) (fun _ => [(qr, .inr (0, [.ref qd, .ref ql, .ref qn, .int (nI old), .int (nI (us + sc)), .int (nI pr)])), (qd, .inl (cb, 480, .inl dk)), (ql, .inl (ci, 40, .inl (upd L ((old + us) % 40) len))), (qn, .inl (ci, 40, .inl N))]) (va_A [(qr, .inr (0, [.ref qd, .ref ql, .ref qn, .int (nI old), .int (nI us), .int (nI pr)])), (qd, .inl (cb, 480, .inl dk)), (ql, .inl (ci, 40, .inl L)), (qn, .inl (ci, 40, .inl N))] sz)) (va_A [(qr, .inr (0, [.ref qd, .ref ql, .ref qn, .int (nI old), .int (nI us), .int (nI pr)])), (qd, .inl (cb, 480, .inl dk)), (ql, .inl (ci, 40, .inl L)), (qn, .inl (ci, 40, .inl N))] sz)) 0 0 (va_A [(qr, .inr (0, [.ref qd, .ref ql, .ref qn, .int (nI old), .int (nI us), .int (nI pr)])), (qd, .inl (cb, 480, .inl dk)), (ql, .inl (ci, 40, .inl L)), (qn, .inl (ci, 40, .inl N))] sz) := by
  refine j_in (Qc := fun A => (va_Qi (fun (x : Int32) (_ : Unit) => x = nI ((old + us) % 40)) (j_post D (jT cb ci cz) (fun _ => [(qr, .inr (0, [.ref qd, .ref ql, .ref qn, .int (nI old), .int (nI (us + sc)), .int (nI pr)])), (qd, .inl (cb, 480, .inl dk)), (ql, .inl (ci, 40, .inl (upd L ((old + us) % 40) len))), (qn, .inl (ci, 40, .inl N))]) A) A)) (cc := cX0_addEntry) (maxL := 4) (ret := (some .int)) (by decide) rfl (Nat.le_of_ble_eq_true rfl) ?_
  intro p e s m av below meth c A ls H locs hx hb hr hml hts hown hlk hin hA hP hK hD hS hl
  have hown : s.vm.findClass RX0 = some m.cls := hown
  have hl : lv_has ls 4 [(0, .ref qr), (1, .int len), (2, .int (nI sc))] := hl
  refine lv_aload_n hx hb dX0_addEntry_0 rfl (lv_at hl 0 rfl) ?_
  refine va_get (D := D) (ci := 0) (v := .int (nI old)) (C := RX0) (T := TX0) (N := 6) hx hb hts (by decide +kernel) hown hK hP 0 rfl rfl 3 (by decide) (hts (.fieldLink RX0 22 "JournalDesk$Ring" "oldest" "I") (by decide +kernel)) (fun _ h9 => h9) rfl dX0_addEntry_1 ?_
  refine lv_aload_n hx hb dX0_addEntry_4 rfl (lv_at hl 0 rfl) ?_
  refine va_get (D := D) (ci := 0) (v := .int (nI us)) (C := RX0) (T := TX0) (N := 6) hx hb hts (by decide +kernel) hown hK hP 0 rfl rfl 4 (by decide) (hts (.fieldLink RX0 26 "JournalDesk$Ring" "used" "I") (by decide +kernel)) (fun _ h9 => h9) rfl dX0_addEntry_5 ?_
  refine lv_iadd hx hb dX0_addEntry_8 ?_
  refine jt_i (y := (nI (old + us))) (nI_add _ _) ?_
  refine j_calli (wr := [(qr, .inr (0, [.ref qd, .ref ql, .ref qn, .int (nI old), .int (nI us), .int (nI pr)])), (qd, .inl (cb, 480, .inl dk)), (ql, .inl (ci, 40, .inl L)), (qn, .inl (ci, 40, .inl N))]) hP hD hS hA [] [0, 1, 2, 3] rfl rfl (by decide) (by decide) (va_runS (As := [.int (nI (old + us))]) (rest := []) ⟨hx, hb, hml, hown, hts⟩ (c_R_onRing l D cb ci cz (old + us) (by omega) H.size) (va_cwS 1 hts gX0_addEntry_X0_onRing rfl rfl rfl (by decide +kernel) ⟨Nat.le_of_ble_eq_true rfl, Nat.le_of_ble_eq_true rfl⟩) (j_preS [] [0, 1, 2] hK hP hD rfl rfl rfl rfl) rfl rfl hl.1 rfl (lv_room (Nat.le_of_ble_eq_true rfl)) dX0_addEntry_9 ⟨Nat.le_of_ble_eq_true rfl, Nat.le_of_ble_eq_true rfl⟩) (fun r9 u9 H locs hw hP hD hS => ?_)
  have hP : va_P D vwCl [(qr, .inr (0, [.ref qd, .ref ql, .ref qn, .int (nI old), .int (nI us), .int (nI pr)])), (qd, .inl (cb, 480, .inl dk)), (ql, .inl (ci, 40, .inl L)), (qn, .inl (ci, 40, .inl N))] H := hP
  have hD : va_D A [(qr, .inr (0, [.ref qd, .ref ql, .ref qn, .int (nI old), .int (nI us), .int (nI pr)])), (qd, .inl (cb, 480, .inl dk)), (ql, .inl (ci, 40, .inl L)), (qn, .inl (ci, 40, .inl N))] := hD
  have hw : r9 = (nI ((old + us) % 40)) := hw
  subst hw
  refine lv_istore_n (lv' := [(3, .int (nI ((old + us) % 40))), (0, .ref qr), (1, .int len), (2, .int (nI sc))]) hx hb dX0_addEntry_12 rfl hl (by decide) rfl (fun ls hl => ?_)
  refine lv_aload_n hx hb dX0_addEntry_13 rfl (lv_at hl 1 rfl) ?_
  refine va_get (D := D) (ci := 0) (v := .ref ql) (C := RX0) (T := TX0) (N := 6) hx hb hts (by decide +kernel) hown hK hP 0 rfl rfl 1 (by decide) (hts (.fieldLink RX0 15 "JournalDesk$Ring" "lengths" "[I") (by decide +kernel)) (fun _ h9 => h9) rfl dX0_addEntry_14 ?_
  refine lv_iload_n hx hb dX0_addEntry_17 rfl (lv_at hl 0 rfl) ?_
  refine lv_iload_n hx hb dX0_addEntry_18 rfl (lv_at hl 2 rfl) ?_
  refine j_iast hx hb hK hP hD hS 2 1 rfl rfl (i := (old + us) % 40) (by omega) (by decide) dX0_addEntry_19 (fun H locs hP hD hS => ?_)
  have hP : va_P D vwCl [(qr, .inr (0, [.ref qd, .ref ql, .ref qn, .int (nI old), .int (nI us), .int (nI pr)])), (qd, .inl (cb, 480, .inl dk)), (ql, .inl (ci, 40, .inl (upd L ((old + us) % 40) len))), (qn, .inl (ci, 40, .inl N))] H := hP
  have hD : va_D A [(qr, .inr (0, [.ref qd, .ref ql, .ref qn, .int (nI old), .int (nI us), .int (nI pr)])), (qd, .inl (cb, 480, .inl dk)), (ql, .inl (ci, 40, .inl (upd L ((old + us) % 40) len))), (qn, .inl (ci, 40, .inl N))] := hD
  refine lv_aload_n hx hb dX0_addEntry_20 rfl (lv_at hl 1 rfl) ?_
  refine lv_dup hx hb dX0_addEntry_21 rfl ?_
  refine va_get (D := D) (ci := 0) (v := .int (nI us)) (C := RX0) (T := TX0) (N := 6) hx hb hts (by decide +kernel) hown hK hP 0 rfl rfl 4 (by decide) (hts (.fieldLink RX0 26 "JournalDesk$Ring" "used" "I") (by decide +kernel)) (fun _ h9 => h9) rfl dX0_addEntry_22 ?_
  refine lv_iload_n hx hb dX0_addEntry_25 rfl (lv_at hl 3 rfl) ?_
  refine lv_iadd hx hb dX0_addEntry_26 ?_
  refine jt_i (y := (nI (us + sc))) (nI_add _ _) ?_
  refine va_put (D := D) (ci := 0) (v := .int (nI (us + sc))) (ty := .int) (C := RX0) (T := TX0) (N := 6) hx hb hts (by decide +kernel) tyX0 tyX0_ok nmX0 hown hK hP hD hS 0 rfl rfl 4 (by decide) (hts (.fieldLink RX0 26 "JournalDesk$Ring" "used" "I") (by decide +kernel)) (fun _ h9 => h9) rfl (by decide +kernel) (rfl) (rfl) (Nat.le_of_ble_eq_true rfl) dX0_addEntry_27 (fun H locs hP hD hS => ?_)
  have hP : va_P D vwCl [(qr, .inr (0, [.ref qd, .ref ql, .ref qn, .int (nI old), .int (nI (us + sc)), .int (nI pr)])), (qd, .inl (cb, 480, .inl dk)), (ql, .inl (ci, 40, .inl (upd L ((old + us) % 40) len))), (qn, .inl (ci, 40, .inl N))] H := hP
  have hD : va_D A [(qr, .inr (0, [.ref qd, .ref ql, .ref qn, .int (nI old), .int (nI (us + sc)), .int (nI pr)])), (qd, .inl (cb, 480, .inl dk)), (ql, .inl (ci, 40, .inl (upd L ((old + us) % 40) len))), (qn, .inl (ci, 40, .inl N))] := hD
  refine lv_iload_n hx hb dX0_addEntry_30 rfl (lv_at hl 0 rfl) ?_
  exact j_iret (v := (nI ((old + us) % 40))) (()) hx hb hr hlk hK hP hD hS (rfl) dX0_addEntry_31
abbrev rm_R_giveBackOldest : Room := { frames := 5, cells := 0, slots := 0, locals := 105 }
set_option maxHeartbeats 4000000 in
set_option maxRecDepth 100000 in
/-- the oldest entry gives its sectors back -/
theorem c_R_giveBackOldest (l : Launch) (D : va_G) (cb ci cz : ClassId) (qr qd ql qn : Nat) (dk L N : Nat → Int32) (old us pr : Nat) (b : Bool) (w : Nat) (ho : old < 40) (hu : us ≤ 40) (hw0 : w ≤ 100) (hL : L old = if b = true then nI w else -1) (hX : (if b = true then jsc w else 1) ≤ us) (sz : Nat) : Met l yX0_giveBackOldest wsX0_giveBackOldest rm_R_giveBackOldest (va_Pc [.ref qr] (j_pre D (jT cb ci cz) [(qr, .inr (0, [.ref qd, .ref ql, .ref qn, .int (nI old), .int (nI us), .int (nI pr)])), (qd, .inl (cb, 480, .inl dk)), (ql, .inl (ci, 40, .inl L)), (qn, .inl (ci, 40, .inl N))] sz)) (va_Qv (fun (_ : Unit) => True) (j_post D (jT cb ci cz) (fun _ => [(qr, .inr (0, [.ref qd, .ref ql, .ref qn, .int (nI ((old + (if b = true then jsc w else 1)) % 40)), .int (nI (us - (if b = true then jsc w else 1))), .int (nI pr)])), (qd, .inl (cb, 480, .inl dk)), (ql, .inl (ci, 40, .inl L)), (qn, .inl (ci, 40, .inl N))]) (va_A [(qr, .inr (0, [.ref qd, .ref ql, .ref qn, .int (nI old), .int (nI us), .int (nI pr)])), (qd, .inl (cb, 480, .inl dk)), (ql, .inl (ci, 40, .inl L)), (qn, .inl (ci, 40, .inl N))] sz)) (va_A [(qr, .inr (0, [.ref qd, .ref ql, .ref qn, .int (nI old), .int (nI us), .int (nI pr)])), (qd, .inl (cb, 480, .inl dk)), (ql, .inl (ci, 40, .inl L)), (qn, .inl (ci, 40, .inl N))] sz)) 0 0 (va_A [(qr, .inr (0, [.ref qd, .ref ql, .ref qn, .int (nI old), .int (nI us), .int (nI pr)])), (qd, .inl (cb, 480, .inl dk)), (ql, .inl (ci, 40, .inl L)), (qn, .inl (ci, 40, .inl N))] sz) := by
  refine j_in (Qc := fun A => (va_Qv (fun (_ : Unit) => True) (j_post D (jT cb ci cz) (fun _ => [(qr, .inr (0, [.ref qd, .ref ql, .ref qn, .int (nI ((old + (if b = true then jsc w else 1)) % 40)), .int (nI (us - (if b = true then jsc w else 1))), .int (nI pr)])), (qd, .inl (cb, 480, .inl dk)), (ql, .inl (ci, 40, .inl L)), (qn, .inl (ci, 40, .inl N))]) A) A)) (cc := cX0_giveBackOldest) (maxL := 2) (ret := none) (by decide) rfl (Nat.le_of_ble_eq_true rfl) ?_
  intro p e s m av below meth c A ls H locs hx hb hr hml hts hown hlk hin hA hP hK hD hS hl
  have hown : s.vm.findClass RX0 = some m.cls := hown
  have hl : lv_has ls 2 [(0, .ref qr)] := hl
  refine lv_aload_n hx hb dX0_giveBackOldest_0 rfl (lv_at hl 0 rfl) ?_
  refine lv_aload_n hx hb dX0_giveBackOldest_1 rfl (lv_at hl 0 rfl) ?_
  refine va_get (D := D) (ci := 0) (v := .int (nI old)) (C := RX0) (T := TX0) (N := 6) hx hb hts (by decide +kernel) hown hK hP 0 rfl rfl 3 (by decide) (hts (.fieldLink RX0 22 "JournalDesk$Ring" "oldest" "I") (by decide +kernel)) (fun _ h9 => h9) rfl dX0_giveBackOldest_2 ?_
  refine j_calli (wr := []) hP hD hS hA [0, 1, 2, 3] [] rfl rfl (by decide) (by decide) (va_runV (As := [.int (nI old)]) (rest := []) ⟨hx, hb, hml, hown, hts⟩ (c_R_sectorsAt l D cb ci cz qr qd ql qn dk L N old us pr old b w ho hw0 hL H.size) (cwV 1 hts gX0_giveBackOldest_X0_sectorsAt rfl rfl rfl (by decide +kernel) ⟨Nat.le_of_ble_eq_true rfl, Nat.le_of_ble_eq_true rfl⟩) (j_preV (ci := 0) (q0 := 0) [0, 1, 2, 3] [0, 1, 2] hK hP hD rfl rfl rfl rfl rfl rfl) rfl rfl hl.1 rfl (lv_room (Nat.le_of_ble_eq_true rfl)) dX0_giveBackOldest_5 ⟨Nat.le_of_ble_eq_true rfl, Nat.le_of_ble_eq_true rfl⟩) (fun r5 u9 H locs hw hP hD hS => ?_)
  have hP : va_P D vwCl [(qr, .inr (0, [.ref qd, .ref ql, .ref qn, .int (nI old), .int (nI us), .int (nI pr)])), (qd, .inl (cb, 480, .inl dk)), (ql, .inl (ci, 40, .inl L)), (qn, .inl (ci, 40, .inl N))] H := hP
  have hD : va_D A [(qr, .inr (0, [.ref qd, .ref ql, .ref qn, .int (nI old), .int (nI us), .int (nI pr)])), (qd, .inl (cb, 480, .inl dk)), (ql, .inl (ci, 40, .inl L)), (qn, .inl (ci, 40, .inl N))] := hD
  have hw : r5 = (nI (if b = true then jsc w else 1)) := hw
  subst hw
  refine lv_istore_n (lv' := [(1, .int (nI (if b = true then jsc w else 1))), (0, .ref qr)]) hx hb dX0_giveBackOldest_8 rfl hl (by decide) rfl (fun ls hl => ?_)
  refine lv_aload_n hx hb dX0_giveBackOldest_9 rfl (lv_at hl 1 rfl) ?_
  refine lv_aload_n hx hb dX0_giveBackOldest_10 rfl (lv_at hl 1 rfl) ?_
  refine va_get (D := D) (ci := 0) (v := .int (nI old)) (C := RX0) (T := TX0) (N := 6) hx hb hts (by decide +kernel) hown hK hP 0 rfl rfl 3 (by decide) (hts (.fieldLink RX0 22 "JournalDesk$Ring" "oldest" "I") (by decide +kernel)) (fun _ h9 => h9) rfl dX0_giveBackOldest_11 ?_
  refine lv_iload_n hx hb dX0_giveBackOldest_14 rfl (lv_at hl 0 rfl) ?_
  refine lv_iadd hx hb dX0_giveBackOldest_15 ?_
  refine jt_i (y := (nI (old + (if b = true then jsc w else 1)))) (nI_add _ _) ?_
  refine j_calli (wr := [(qr, .inr (0, [.ref qd, .ref ql, .ref qn, .int (nI old), .int (nI us), .int (nI pr)])), (qd, .inl (cb, 480, .inl dk)), (ql, .inl (ci, 40, .inl L)), (qn, .inl (ci, 40, .inl N))]) hP hD hS hA [] [0, 1, 2, 3] rfl rfl (by decide) (by decide) (va_runS (As := [.int (nI (old + (if b = true then jsc w else 1)))]) (rest := [.ref qr]) ⟨hx, hb, hml, hown, hts⟩ (c_R_onRing l D cb ci cz (old + (if b = true then jsc w else 1)) (by omega) H.size) (va_cwS 1 hts gX0_giveBackOldest_X0_onRing rfl rfl rfl (by decide +kernel) ⟨Nat.le_of_ble_eq_true rfl, Nat.le_of_ble_eq_true rfl⟩) (j_preS [] [0, 1, 2] hK hP hD rfl rfl rfl rfl) rfl rfl hl.1 rfl (lv_room (Nat.le_of_ble_eq_true rfl)) dX0_giveBackOldest_16 ⟨Nat.le_of_ble_eq_true rfl, Nat.le_of_ble_eq_true rfl⟩) (fun r16 u9 H locs hw hP hD hS => ?_)
  have hP : va_P D vwCl [(qr, .inr (0, [.ref qd, .ref ql, .ref qn, .int (nI old), .int (nI us), .int (nI pr)])), (qd, .inl (cb, 480, .inl dk)), (ql, .inl (ci, 40, .inl L)), (qn, .inl (ci, 40, .inl N))] H := hP
  have hD : va_D A [(qr, .inr (0, [.ref qd, .ref ql, .ref qn, .int (nI old), .int (nI us), .int (nI pr)])), (qd, .inl (cb, 480, .inl dk)), (ql, .inl (ci, 40, .inl L)), (qn, .inl (ci, 40, .inl N))] := hD
  have hw : r16 = (nI ((old + (if b = true then jsc w else 1)) % 40)) := hw
  subst hw
  refine va_put (D := D) (ci := 0) (v := .int (nI ((old + (if b = true then jsc w else 1)) % 40))) (ty := .int) (C := RX0) (T := TX0) (N := 6) hx hb hts (by decide +kernel) tyX0 tyX0_ok nmX0 hown hK hP hD hS 0 rfl rfl 3 (by decide) (hts (.fieldLink RX0 22 "JournalDesk$Ring" "oldest" "I") (by decide +kernel)) (fun _ h9 => h9) rfl (by decide +kernel) (rfl) (rfl) (Nat.le_of_ble_eq_true rfl) dX0_giveBackOldest_19 (fun H locs hP hD hS => ?_)
  have hP : va_P D vwCl [(qr, .inr (0, [.ref qd, .ref ql, .ref qn, .int (nI ((old + (if b = true then jsc w else 1)) % 40)), .int (nI us), .int (nI pr)])), (qd, .inl (cb, 480, .inl dk)), (ql, .inl (ci, 40, .inl L)), (qn, .inl (ci, 40, .inl N))] H := hP
  have hD : va_D A [(qr, .inr (0, [.ref qd, .ref ql, .ref qn, .int (nI ((old + (if b = true then jsc w else 1)) % 40)), .int (nI us), .int (nI pr)])), (qd, .inl (cb, 480, .inl dk)), (ql, .inl (ci, 40, .inl L)), (qn, .inl (ci, 40, .inl N))] := hD
  refine lv_aload_n hx hb dX0_giveBackOldest_22 rfl (lv_at hl 1 rfl) ?_
  refine lv_dup hx hb dX0_giveBackOldest_23 rfl ?_
  refine va_get (D := D) (ci := 0) (v := .int (nI us)) (C := RX0) (T := TX0) (N := 6) hx hb hts (by decide +kernel) hown hK hP 0 rfl rfl 4 (by decide) (hts (.fieldLink RX0 26 "JournalDesk$Ring" "used" "I") (by decide +kernel)) (fun _ h9 => h9) rfl dX0_giveBackOldest_24 ?_
  refine lv_iload_n hx hb dX0_giveBackOldest_27 rfl (lv_at hl 0 rfl) ?_
  refine lv_isub hx hb dX0_giveBackOldest_28 ?_
  refine jt_i (y := (nI (us - (if b = true then jsc w else 1)))) (pk_sub hX) ?_
  refine va_put (D := D) (ci := 0) (v := .int (nI (us - (if b = true then jsc w else 1)))) (ty := .int) (C := RX0) (T := TX0) (N := 6) hx hb hts (by decide +kernel) tyX0 tyX0_ok nmX0 hown hK hP hD hS 0 rfl rfl 4 (by decide) (hts (.fieldLink RX0 26 "JournalDesk$Ring" "used" "I") (by decide +kernel)) (fun _ h9 => h9) rfl (by decide +kernel) (rfl) (rfl) (Nat.le_of_ble_eq_true rfl) dX0_giveBackOldest_29 (fun H locs hP hD hS => ?_)
  have hP : va_P D vwCl [(qr, .inr (0, [.ref qd, .ref ql, .ref qn, .int (nI ((old + (if b = true then jsc w else 1)) % 40)), .int (nI (us - (if b = true then jsc w else 1))), .int (nI pr)])), (qd, .inl (cb, 480, .inl dk)), (ql, .inl (ci, 40, .inl L)), (qn, .inl (ci, 40, .inl N))] H := hP
  have hD : va_D A [(qr, .inr (0, [.ref qd, .ref ql, .ref qn, .int (nI ((old + (if b = true then jsc w else 1)) % 40)), .int (nI (us - (if b = true then jsc w else 1))), .int (nI pr)])), (qd, .inl (cb, 480, .inl dk)), (ql, .inl (ci, 40, .inl L)), (qn, .inl (ci, 40, .inl N))] := hD
  exact j_vret (()) hx hb hr hlk hK hP hD hS (trivial) dX0_giveBackOldest_32
