abbrev rm_R_addRecord : Room := { frames := 3, cells := 0, slots := 0, locals := 65 }
set_option maxHeartbeats 4000000 in
set_option maxRecDepth 100000 in
/-- a record of a bytes comes behind the others -/
theorem c_R_addRecord (l : Launch) (D : va_G) (cb ci cz : ClassId) (qt : Nat) (tp : Nat → Int32) (qr qd ql qn : Nat) (dk L N : Nat → Int32) (old us pr : Nat) (a : Nat) (num : Int32) (ho : old < 40) (hu : us ≤ 40) (ha : a ≤ 100) (hpr : pr ≤ 40) (sz : Nat) : Met l yX0_addRecord wsX0_addRecord rm_R_addRecord (va_Pc [.ref qr, .ref qt, .int (nI a), .int num] (j_pre D (jT cb ci cz) [(qt, .inl (cb, 100, .inl tp)), (qr, .inr (0, [.ref qd, .ref ql, .ref qn, .int (nI old), .int (nI us), .int (nI pr)])), (qd, .inl (cb, 480, .inl dk)), (ql, .inl (ci, 40, .inl L)), (qn, .inl (ci, 40, .inl N))] sz)) (va_Qv (fun (d : Nat → Int32) => (∀ i, i < a → d ((12 * ((old + us) % 40) + i) % 480) = (tp i).toInt8.toInt32) ∧ ∀ q, q < 480 → (∀ i, i < a → q ≠ (12 * ((old + us) % 40) + i) % 480) → d q = dk q) (j_post D (jT cb ci cz) (fun (d : Nat → Int32) => [(qt, .inl (cb, 100, .inl tp)), (qr, .inr (0, [.ref qd, .ref ql, .ref qn, .int (nI old), .int (nI (us + jsc a)), .int (nI (pr + 1))])), (qd, .inl (cb, 480, .inl d)), (ql, .inl (ci, 40, .inl (upd L ((old + us) % 40) (nI a)))), (qn, .inl (ci, 40, .inl (upd N ((old + us) % 40) num)))]) (va_A [(qt, .inl (cb, 100, .inl tp)), (qr, .inr (0, [.ref qd, .ref ql, .ref qn, .int (nI old), .int (nI us), .int (nI pr)])), (qd, .inl (cb, 480, .inl dk)), (ql, .inl (ci, 40, .inl L)), (qn, .inl (ci, 40, .inl N))] sz)) (va_A [(qt, .inl (cb, 100, .inl tp)), (qr, .inr (0, [.ref qd, .ref ql, .ref qn, .int (nI old), .int (nI us), .int (nI pr)])), (qd, .inl (cb, 480, .inl dk)), (ql, .inl (ci, 40, .inl L)), (qn, .inl (ci, 40, .inl N))] sz)) 0 0 (va_A [(qt, .inl (cb, 100, .inl tp)), (qr, .inr (0, [.ref qd, .ref ql, .ref qn, .int (nI old), .int (nI us), .int (nI pr)])), (qd, .inl (cb, 480, .inl dk)), (ql, .inl (ci, 40, .inl L)), (qn, .inl (ci, 40, .inl N))] sz) := by
  refine j_in (Qc := fun A => (va_Qv (fun (d : Nat → Int32) => (∀ i, i < a → d ((12 * ((old + us) % 40) + i) % 480) = (tp i).toInt8.toInt32) ∧ ∀ q, q < 480 → (∀ i, i < a → q ≠ (12 * ((old + us) % 40) + i) % 480) → d q = dk q) (j_post D (jT cb ci cz) (fun (d : Nat → Int32) => [(qt, .inl (cb, 100, .inl tp)), (qr, .inr (0, [.ref qd, .ref ql, .ref qn, .int (nI old), .int (nI (us + jsc a)), .int (nI (pr + 1))])), (qd, .inl (cb, 480, .inl d)), (ql, .inl (ci, 40, .inl (upd L ((old + us) % 40) (nI a)))), (qn, .inl (ci, 40, .inl (upd N ((old + us) % 40) num)))]) A) A)) (cc := cX0_addRecord) (maxL := 6) (ret := none) (by decide) rfl (Nat.le_of_ble_eq_true rfl) ?_
  intro p e s m av below meth c A ls H locs hx hb hr hml hts hown hlk hin hA hP hK hD hS hl
  have hown : s.vm.findClass RX0 = some m.cls := hown
  have hl : lv_has ls 6 [(0, .ref qr), (1, .ref qt), (2, .int (nI a)), (3, .int num)] := hl
  refine lv_aload_n hx hb dX0_addRecord_0 rfl (lv_at hl 0 rfl) ?_
  refine lv_iload_n hx hb dX0_addRecord_1 rfl (lv_at hl 2 rfl) ?_
  refine lv_iload_n hx hb dX0_addRecord_2 rfl (lv_at hl 2 rfl) ?_
  refine j_calli (wr := [(qt, .inl (cb, 100, .inl tp)), (qr, .inr (0, [.ref qd, .ref ql, .ref qn, .int (nI old), .int (nI us), .int (nI pr)])), (qd, .inl (cb, 480, .inl dk)), (ql, .inl (ci, 40, .inl L)), (qn, .inl (ci, 40, .inl N))]) hP hD hS hA [] [0, 1, 2, 3, 4] rfl rfl (by decide) (by decide) (va_runS (As := [.int (nI a)]) (rest := [.int (nI a), .ref qr]) ⟨hx, hb, hml, hown, hts⟩ (c_R_sectorsFor l D cb ci cz a ha H.size) (va_cwS 1 hts gX0_addRecord_X0_sectorsFor rfl rfl rfl (by decide +kernel) ⟨Nat.le_of_ble_eq_true rfl, Nat.le_of_ble_eq_true rfl⟩) (j_preS [] [0, 1, 2] hK hP hD rfl rfl rfl rfl) rfl rfl hl.1 rfl (lv_room (Nat.le_of_ble_eq_true rfl)) dX0_addRecord_3 ⟨Nat.le_of_ble_eq_true rfl, Nat.le_of_ble_eq_true rfl⟩) (fun r3 u9 H locs hw hP hD hS => ?_)
  have hP : va_P D vwCl [(qt, .inl (cb, 100, .inl tp)), (qr, .inr (0, [.ref qd, .ref ql, .ref qn, .int (nI old), .int (nI us), .int (nI pr)])), (qd, .inl (cb, 480, .inl dk)), (ql, .inl (ci, 40, .inl L)), (qn, .inl (ci, 40, .inl N))] H := hP
  have hD : va_D A [(qt, .inl (cb, 100, .inl tp)), (qr, .inr (0, [.ref qd, .ref ql, .ref qn, .int (nI old), .int (nI us), .int (nI pr)])), (qd, .inl (cb, 480, .inl dk)), (ql, .inl (ci, 40, .inl L)), (qn, .inl (ci, 40, .inl N))] := hD
  have hw : r3 = (nI (jsc a)) := hw
  subst hw
  refine j_calli (wr := [(qt, .inl (cb, 100, .inl tp))]) hP hD hS hA [1, 2, 3, 4] [0] rfl rfl (by decide) (by decide) (va_runV (As := [.int (nI a), .int (nI (jsc a))]) (rest := []) ⟨hx, hb, hml, hown, hts⟩ (c_R_addEntry l D cb ci cz qr qd ql qn dk L N old us pr (nI a) (jsc a) ho hu (Nat.le_trans (jsc_le ha) (by decide)) H.size) (cwV 2 hts gX0_addRecord_X0_addEntry rfl rfl rfl (by decide +kernel) ⟨Nat.le_of_ble_eq_true rfl, Nat.le_of_ble_eq_true rfl⟩) (j_preV (ci := 0) (q0 := 0) [1, 2, 3, 4] [0, 1, 2] hK hP hD rfl rfl rfl rfl rfl rfl) rfl rfl hl.1 rfl (lv_room (Nat.le_of_ble_eq_true rfl)) dX0_addRecord_6 ⟨Nat.le_of_ble_eq_true rfl, Nat.le_of_ble_eq_true rfl⟩) (fun r6 u9 H locs hw hP hD hS => ?_)
  have hP : va_P D vwCl [(qt, .inl (cb, 100, .inl tp)), (qr, .inr (0, [.ref qd, .ref ql, .ref qn, .int (nI old), .int (nI (us + jsc a)), .int (nI pr)])), (qd, .inl (cb, 480, .inl dk)), (ql, .inl (ci, 40, .inl (upd L ((old + us) % 40) (nI a)))), (qn, .inl (ci, 40, .inl N))] H := hP
  have hD : va_D A [(qt, .inl (cb, 100, .inl tp)), (qr, .inr (0, [.ref qd, .ref ql, .ref qn, .int (nI old), .int (nI (us + jsc a)), .int (nI pr)])), (qd, .inl (cb, 480, .inl dk)), (ql, .inl (ci, 40, .inl (upd L ((old + us) % 40) (nI a)))), (qn, .inl (ci, 40, .inl N))] := hD
  have hw : r6 = (nI ((old + us) % 40)) := hw
  subst hw
  refine lv_istore (lv' := [(4, .int (nI ((old + us) % 40))), (0, .ref qr), (1, .ref qt), (2, .int (nI a)), (3, .int num)]) hx hb dX0_addRecord_9 hl (by decide) rfl (fun ls hl => ?_)
  refine lv_aload_n hx hb dX0_addRecord_11 rfl (lv_at hl 1 rfl) ?_
  refine va_get (D := D) (ci := 0) (v := .ref qn) (C := RX0) (T := TX0) (N := 6) hx hb hts (by decide +kernel) hown hK hP 1 rfl rfl 2 (by decide) (hts (.fieldLink RX0 19 "JournalDesk$Ring" "numbers" "[I") (by decide +kernel)) (fun _ h9 => h9) rfl dX0_addRecord_12 ?_
  refine lv_iload hx hb dX0_addRecord_15 (lv_at hl 0 rfl) ?_
  refine lv_iload_n hx hb dX0_addRecord_17 rfl (lv_at hl 4 rfl) ?_
  refine j_iast hx hb hK hP hD hS 4 1 rfl rfl (i := ((old + us) % 40)) (Nat.mod_lt _ (by decide)) (by decide) dX0_addRecord_18 (fun H locs hP hD hS => ?_)
  have hP : va_P D vwCl [(qt, .inl (cb, 100, .inl tp)), (qr, .inr (0, [.ref qd, .ref ql, .ref qn, .int (nI old), .int (nI (us + jsc a)), .int (nI pr)])), (qd, .inl (cb, 480, .inl dk)), (ql, .inl (ci, 40, .inl (upd L ((old + us) % 40) (nI a)))), (qn, .inl (ci, 40, .inl (upd N ((old + us) % 40) num)))] H := hP
  have hD : va_D A [(qt, .inl (cb, 100, .inl tp)), (qr, .inr (0, [.ref qd, .ref ql, .ref qn, .int (nI old), .int (nI (us + jsc a)), .int (nI pr)])), (qd, .inl (cb, 480, .inl dk)), (ql, .inl (ci, 40, .inl (upd L ((old + us) % 40) (nI a)))), (qn, .inl (ci, 40, .inl (upd N ((old + us) % 40) num)))] := hD
  refine lv_iconst (v := (nI 0)) hx hb dX0_addRecord_19 (by decide +kernel) ?_
  refine lv_istore (lv' := [(5, .int (nI 0)), (4, .int (nI ((old + us) % 40))), (0, .ref qr), (1, .ref qt), (2, .int (nI a)), (3, .int num)]) hx hb dX0_addRecord_20 hl (by decide) rfl (fun ls hl => ?_)
  have LOOP22 : ∀ (fuel : Nat) (i : Nat) (d : Nat → Int32) (hf : a < i + fuel) (hia : i ≤ a) (h1 : ∀ i0, i0 < i → d ((12 * ((old + us) % 40) + i0) % 480) = (tp i0).toInt8.toInt32) (h2 : ∀ q, q < 480 → (∀ i0, i0 < i → q ≠ (12 * ((old + us) % 40) + i0) % 480) → d q = dk q) (H : Heap) (locs : List Loc), va_P D vwCl [(qt, .inl (cb, 100, .inl tp)), (qr, .inr (0, [.ref qd, .ref ql, .ref qn, .int (nI old), .int (nI (us + jsc a)), .int (nI pr)])), (qd, .inl (cb, 480, .inl d)), (ql, .inl (ci, 40, .inl (upd L ((old + us) % 40) (nI a)))), (qn, .inl (ci, 40, .inl (upd N ((old + us) % 40) num)))] H → va_D A [(qt, .inl (cb, 100, .inl tp)), (qr, .inr (0, [.ref qd, .ref ql, .ref qn, .int (nI old), .int (nI (us + jsc a)), .int (nI pr)])), (qd, .inl (cb, 480, .inl d)), (ql, .inl (ci, 40, .inl (upd L ((old + us) % 40) (nI a)))), (qn, .inl (ci, 40, .inl (upd N ((old + us) % 40) num)))] → va_S A s.heap H locs → ∀ ls : Array Slot, lv_has ls 6 [(0, .ref qr), (1, .ref qt), (2, .int (nI a)), (3, .int num), (4, .int (nI ((old + us) % 40))), (5, .int (nI i))] → W p l e rm_R_addRecord s m av below meth c H locs 0 0 (MQ below (va_Qv (fun (d : Nat → Int32) => (∀ i, i < a → d ((12 * ((old + us) % 40) + i) % 480) = (tp i).toInt8.toInt32) ∧ ∀ q, q < 480 → (∀ i, i < a → q ≠ (12 * ((old + us) % 40) + i) % 480) → d q = dk q) (j_post D (jT cb ci cz) (fun (d : Nat → Int32) => [(qt, .inl (cb, 100, .inl tp)), (qr, .inr (0, [.ref qd, .ref ql, .ref qn, .int (nI old), .int (nI (us + jsc a)), .int (nI (pr + 1))])), (qd, .inl (cb, 480, .inl d)), (ql, .inl (ci, 40, .inl (upd L ((old + us) % 40) (nI a)))), (qn, .inl (ci, 40, .inl (upd N ((old + us) % 40) num)))]) A) A) av s 0 0 A) (F0 m 22 ls []) := by
    clear hP hD hS hl
    intro fuel
    induction fuel with
    | zero => intro i d hf hia h1 h2; exfalso; omega
    | succ fuel ih22 =>
      intro i d hf hia h1 h2 H locs hP hD hS ls hl
      refine lv_iload hx hb dX0_addRecord_22 (lv_at hl 5 rfl) ?_
      refine lv_iload_n hx hb dX0_addRecord_24 rfl (lv_at hl 2 rfl) ?_
      refine lv_icmp_ge (tgt := 57) hx hb dX0_addRecord_25 (by decide) (fun c_25_1 => ?_) (fun c_25_1 => ?_)
      · rw [nI_leI (show a < 2 ^ 31 by omega) (show i < 2 ^ 31 by omega)] at c_25_1
        refine lv_aload_n hx hb dX0_addRecord_57 rfl (lv_at hl 0 rfl) ?_
        refine lv_dup hx hb dX0_addRecord_58 rfl ?_
        refine va_get (D := D) (ci := 0) (v := .int (nI pr)) (C := RX0) (T := TX0) (N := 6) hx hb hts (by decide +kernel) hown hK hP 1 rfl rfl 5 (by decide) (hts (.fieldLink RX0 29 "JournalDesk$Ring" "present" "I") (by decide +kernel)) (fun _ h9 => h9) rfl dX0_addRecord_59 ?_
        refine lv_iconst (v := (nI 1)) hx hb dX0_addRecord_62 (by decide +kernel) ?_
        refine lv_iadd hx hb dX0_addRecord_63 ?_
        refine jt_i (y := (nI (pr + 1))) (nI_add _ _) ?_
        refine va_put (D := D) (ci := 0) (v := .int (nI (pr + 1))) (ty := .int) (C := RX0) (T := TX0) (N := 6) hx hb hts (by decide +kernel) tyX0 tyX0_ok nmX0 hown hK hP hD hS 1 rfl rfl 5 (by decide) (hts (.fieldLink RX0 29 "JournalDesk$Ring" "present" "I") (by decide +kernel)) (fun _ h9 => h9) rfl (by decide +kernel) (rfl) (rfl) (Nat.le_of_ble_eq_true rfl) dX0_addRecord_64 (fun H locs hP hD hS => ?_)
        have hP : va_P D vwCl [(qt, .inl (cb, 100, .inl tp)), (qr, .inr (0, [.ref qd, .ref ql, .ref qn, .int (nI old), .int (nI (us + jsc a)), .int (nI (pr + 1))])), (qd, .inl (cb, 480, .inl d)), (ql, .inl (ci, 40, .inl (upd L ((old + us) % 40) (nI a)))), (qn, .inl (ci, 40, .inl (upd N ((old + us) % 40) num)))] H := hP
        have hD : va_D A [(qt, .inl (cb, 100, .inl tp)), (qr, .inr (0, [.ref qd, .ref ql, .ref qn, .int (nI old), .int (nI (us + jsc a)), .int (nI (pr + 1))])), (qd, .inl (cb, 480, .inl d)), (ql, .inl (ci, 40, .inl (upd L ((old + us) % 40) (nI a)))), (qn, .inl (ci, 40, .inl (upd N ((old + us) % 40) num)))] := hD
        exact j_vret (d) hx hb hr hlk hK hP hD hS (⟨fun i0 h0 => h1 i0 (by omega), fun q hq hn => h2 q hq (fun i0 h0 => hn i0 (by omega))⟩) dX0_addRecord_67
      · rw [nI_leI (show a < 2 ^ 31 by omega) (show i < 2 ^ 31 by omega)] at c_25_1
        refine lv_iload hx hb dX0_addRecord_28 (lv_at hl 5 rfl) ?_
        refine lv_aload_n hx hb dX0_addRecord_30 rfl (lv_at hl 1 rfl) ?_
        refine va_alen hx hb hK hP 0 0 rfl rfl (v := nI 100) rfl dX0_addRecord_31 ?_
        refine lv_icmp_ge (tgt := 57) hx hb dX0_addRecord_32 (by decide) (fun c_32_2 => ?_) (fun c_32_2 => ?_)
        · rw [nI_leI (show 100 < 2 ^ 31 by omega) (show i < 2 ^ 31 by omega)] at c_32_2
          exfalso; omega
        · rw [nI_leI (show 100 < 2 ^ 31 by omega) (show i < 2 ^ 31 by omega)] at c_32_2
          refine lv_aload_n hx hb dX0_addRecord_35 rfl (lv_at hl 0 rfl) ?_
          refine va_get (D := D) (ci := 0) (v := .ref qd) (C := RX0) (T := TX0) (N := 6) hx hb hts (by decide +kernel) hown hK hP 1 rfl rfl 0 (by decide) (hts (.fieldLink RX0 11 "JournalDesk$Ring" "disk" "[B") (by decide +kernel)) (fun _ h9 => h9) rfl dX0_addRecord_36 ?_
          refine lv_iload hx hb dX0_addRecord_39 (lv_at hl 4 rfl) ?_
          refine lv_iload hx hb dX0_addRecord_41 (lv_at hl 5 rfl) ?_
          refine j_calli (wr := [(qt, .inl (cb, 100, .inl tp)), (qr, .inr (0, [.ref qd, .ref ql, .ref qn, .int (nI old), .int (nI (us + jsc a)), .int (nI pr)])), (qd, .inl (cb, 480, .inl d)), (ql, .inl (ci, 40, .inl (upd L ((old + us) % 40) (nI a)))), (qn, .inl (ci, 40, .inl (upd N ((old + us) % 40) num)))]) hP hD hS hA [] [0, 1, 2, 3, 4] rfl rfl (by decide) (by decide) (va_runS (As := [.int (nI ((old + us) % 40)), .int (nI i)]) (rest := [.ref qd]) ⟨hx, hb, hml, hown, hts⟩ (c_R_place l D cb ci cz ((old + us) % 40) i (Nat.mod_lt _ (by decide)) (by omega) H.size) (va_cwS 2 hts gX0_addRecord_X0_place rfl rfl rfl (by decide +kernel) ⟨Nat.le_of_ble_eq_true rfl, Nat.le_of_ble_eq_true rfl⟩) (j_preS [] [0, 1, 2] hK hP hD rfl rfl rfl rfl) rfl rfl hl.1 rfl (lv_room (Nat.le_of_ble_eq_true rfl)) dX0_addRecord_43 ⟨Nat.le_of_ble_eq_true rfl, Nat.le_of_ble_eq_true rfl⟩) (fun r43 u9 H locs hw hP hD hS => ?_)
          have hP : va_P D vwCl [(qt, .inl (cb, 100, .inl tp)), (qr, .inr (0, [.ref qd, .ref ql, .ref qn, .int (nI old), .int (nI (us + jsc a)), .int (nI pr)])), (qd, .inl (cb, 480, .inl d)), (ql, .inl (ci, 40, .inl (upd L ((old + us) % 40) (nI a)))), (qn, .inl (ci, 40, .inl (upd N ((old + us) % 40) num)))] H := hP
          have hD : va_D A [(qt, .inl (cb, 100, .inl tp)), (qr, .inr (0, [.ref qd, .ref ql, .ref qn, .int (nI old), .int (nI (us + jsc a)), .int (nI pr)])), (qd, .inl (cb, 480, .inl d)), (ql, .inl (ci, 40, .inl (upd L ((old + us) % 40) (nI a)))), (qn, .inl (ci, 40, .inl (upd N ((old + us) % 40) num)))] := hD
          have hw : r43 = (nI ((12 * ((old + us) % 40) + i) % 480)) := hw
          subst hw
          refine lv_aload_n hx hb dX0_addRecord_46 rfl (lv_at hl 1 rfl) ?_
          refine lv_iload hx hb dX0_addRecord_47 (lv_at hl 5 rfl) ?_
          refine j_bald hx hb hK hP 0 0 rfl rfl (i := i) (by omega) (by decide) (v := (tp i)) (rfl) dX0_addRecord_49 ?_
          refine j_bast hx hb hK hP hD hS 2 0 rfl rfl (i := (12 * ((old + us) % 40) + i) % 480) (Nat.mod_lt _ (by decide)) (by decide) (y := (tp i).toInt8.toInt32) (rfl) dX0_addRecord_50 (fun H locs hP hD hS => ?_)
          have hP : va_P D vwCl [(qt, .inl (cb, 100, .inl tp)), (qr, .inr (0, [.ref qd, .ref ql, .ref qn, .int (nI old), .int (nI (us + jsc a)), .int (nI pr)])), (qd, .inl (cb, 480, .inl (upd d ((12 * ((old + us) % 40) + i) % 480) ((tp i).toInt8.toInt32)))), (ql, .inl (ci, 40, .inl (upd L ((old + us) % 40) (nI a)))), (qn, .inl (ci, 40, .inl (upd N ((old + us) % 40) num)))] H := hP
          have hD : va_D A [(qt, .inl (cb, 100, .inl tp)), (qr, .inr (0, [.ref qd, .ref ql, .ref qn, .int (nI old), .int (nI (us + jsc a)), .int (nI pr)])), (qd, .inl (cb, 480, .inl (upd d ((12 * ((old + us) % 40) + i) % 480) ((tp i).toInt8.toInt32)))), (ql, .inl (ci, 40, .inl (upd L ((old + us) % 40) (nI a)))), (qn, .inl (ci, 40, .inl (upd N ((old + us) % 40) num)))] := hD
          refine lv_iinc (v := (nI (i + 1))) (lv' := [(5, .int (nI (i + 1))), (0, .ref qr), (1, .ref qt), (2, .int (nI a)), (3, .int num), (4, .int (nI ((old + us) % 40)))]) hx hb dX0_addRecord_51 hl (k := 5) rfl (nI_1 _) (by decide) rfl (fun ls hl => ?_)
          refine lv_goto (tgt := 22) hx hb dX0_addRecord_54 (by decide) ?_
          exact ih22 (i + 1) _ (by omega) (by omega) (j_ar1 h1 (by omega)) (j_ar2 h2) _ _ hP hD hS ls (lv_sub hl [1, 2, 3, 4, 5, 0] rfl)
  exact LOOP22 (a + 1) 0 dk (by omega) (by omega) (fun _ h => absurd h (Nat.not_lt_zero _)) (fun _ _ _ => rfl) _ _ hP hD hS ls (lv_sub hl [2, 3, 4, 5, 1, 0] rfl)
abbrev rm_R_addDrop : Room := { frames := 6, cells := 0, slots := 0, locals := 126 }
set_option maxHeartbeats 4000000 in
set_option maxRecDepth 100000 in
/-- a drop comes behind the others; the oldest mm records go, and what stands ahead of the first that is left -/
theorem c_R_addDrop (l : Launch) (D : va_G) (cb ci cz : ClassId) (qr qd ql qn : Nat) (dk L N : Nat → Int32) (old us pr : Nat) (k : Nat) (r : Nat → Bool) (z : Nat → Nat) (u : Nat → Int32) (y : Nat → Nat → Int32) (mm : Nat) (hR : jR old us pr dk L N k r z u y) (hfit : us + 1 ≤ 40) (hmm : mm ≤ pr) (sz : Nat) : Met l yX0_addDrop wsX0_addDrop rm_R_addDrop (va_Pc [.ref qr, .int (nI mm)] (j_pre D (jT cb ci cz) [(qr, .inr (0, [.ref qd, .ref ql, .ref qn, .int (nI old), .int (nI us), .int (nI pr)])), (qd, .inl (cb, 480, .inl dk)), (ql, .inl (ci, 40, .inl L)), (qn, .inl (ci, 40, .inl N))] sz)) (va_Qv (fun (_ : Unit) => js (jcn (va_up r k false)) (jdrF k r mm) = mm) (j_post D (jT cb ci cz) (fun _ => [(qr, .inr (0, [.ref qd, .ref ql, .ref qn, .int (nI ((old + js (jse (va_up r k false) (va_up z k 0)) (jdrF k r mm)) % 40)), .int (nI (us + 1 - js (jse (va_up r k false) (va_up z k 0)) (jdrF k r mm))), .int (nI (pr - mm))])), (qd, .inl (cb, 480, .inl dk)), (ql, .inl (ci, 40, .inl (upd L ((old + us) % 40) (-1)))), (qn, .inl (ci, 40, .inl N))]) (va_A [(qr, .inr (0, [.ref qd, .ref ql, .ref qn, .int (nI old), .int (nI us), .int (nI pr)])), (qd, .inl (cb, 480, .inl dk)), (ql, .inl (ci, 40, .inl L)), (qn, .inl (ci, 40, .inl N))] sz)) (va_A [(qr, .inr (0, [.ref qd, .ref ql, .ref qn, .int (nI old), .int (nI us), .int (nI pr)])), (qd, .inl (cb, 480, .inl dk)), (ql, .inl (ci, 40, .inl L)), (qn, .inl (ci, 40, .inl N))] sz)) 0 0 (va_A [(qr, .inr (0, [.ref qd, .ref ql, .ref qn, .int (nI old), .int (nI us), .int (nI pr)])), (qd, .inl (cb, 480, .inl dk)), (ql, .inl (ci, 40, .inl L)), (qn, .inl (ci, 40, .inl N))] sz) := by
  refine j_in (Qc := fun A => (va_Qv (fun (_ : Unit) => js (jcn (va_up r k false)) (jdrF k r mm) = mm) (j_post D (jT cb ci cz) (fun _ => [(qr, .inr (0, [.ref qd, .ref ql, .ref qn, .int (nI ((old + js (jse (va_up r k false) (va_up z k 0)) (jdrF k r mm)) % 40)), .int (nI (us + 1 - js (jse (va_up r k false) (va_up z k 0)) (jdrF k r mm))), .int (nI (pr - mm))])), (qd, .inl (cb, 480, .inl dk)), (ql, .inl (ci, 40, .inl (upd L ((old + us) % 40) (-1)))), (qn, .inl (ci, 40, .inl N))]) A) A)) (cc := cX0_addDrop) (maxL := 5) (ret := none) (by decide) rfl (Nat.le_of_ble_eq_true rfl) ?_
  intro p e s m av below meth c A ls H locs hx hb hr hml hts hown hlk hin hA hP hK hD hS hl
  have hown : s.vm.findClass RX0 = some m.cls := hown
  have hl : lv_has ls 5 [(0, .ref qr), (1, .int (nI mm))] := hl
  have hR1 := jR_drp hR hfit (s := ((old + us) % 40)) rfl
  have js_rk : js (jse (va_up r k false) (va_up z k 0)) k = js (jse r z) k := js_congr k (fun i hi => by unfold jse; rw [va_up_ne r false (show i ≠ k by omega), va_up_ne z 0 (show i ≠ k by omega)])
  have js_rkc : js (jcn (va_up r k false)) k = js (jcn r) k := js_congr k (fun i hi => by unfold jcn; rw [va_up_ne r false (show i ≠ k by omega)])
  have hk40 := jR_k hR
  have hp40 := jR_pr hR
  have ho40 := hR.1
  have hu40 := hR.2.2.1
  refine lv_aload_n hx hb dX0_addDrop_0 rfl (lv_at hl 0 rfl) ?_
  refine lv_iconst (v := (-1)) hx hb dX0_addDrop_1 (by decide +kernel) ?_
  refine lv_iconst (v := (nI 1)) hx hb dX0_addDrop_2 (by decide +kernel) ?_
  refine j_calli (wr := []) hP hD hS hA [0, 1, 2, 3] [] rfl rfl (by decide) (by decide) (va_runV (As := [.int (-1), .int (nI 1)]) (rest := []) ⟨hx, hb, hml, hown, hts⟩ (c_R_addEntry l D cb ci cz qr qd ql qn dk L N old us pr (-1) 1 hR.1 (by omega) (by decide) H.size) (cwV 2 hts gX0_addDrop_X0_addEntry rfl rfl rfl (by decide +kernel) ⟨Nat.le_of_ble_eq_true rfl, Nat.le_of_ble_eq_true rfl⟩) (j_preV (ci := 0) (q0 := 0) [0, 1, 2, 3] [0, 1, 2] hK hP hD rfl rfl rfl rfl rfl rfl) rfl rfl hl.1 rfl (lv_room (Nat.le_of_ble_eq_true rfl)) dX0_addDrop_3 ⟨Nat.le_of_ble_eq_true rfl, Nat.le_of_ble_eq_true rfl⟩) (fun r3 u9 H locs hw hP hD hS => ?_)
  have hP : va_P D vwCl [(qr, .inr (0, [.ref qd, .ref ql, .ref qn, .int (nI old), .int (nI (us + 1)), .int (nI pr)])), (qd, .inl (cb, 480, .inl dk)), (ql, .inl (ci, 40, .inl (upd L ((old + us) % 40) (-1)))), (qn, .inl (ci, 40, .inl N))] H := hP
  have hD : va_D A [(qr, .inr (0, [.ref qd, .ref ql, .ref qn, .int (nI old), .int (nI (us + 1)), .int (nI pr)])), (qd, .inl (cb, 480, .inl dk)), (ql, .inl (ci, 40, .inl (upd L ((old + us) % 40) (-1)))), (qn, .inl (ci, 40, .inl N))] := hD
  have hw : r3 = (nI ((old + us) % 40)) := hw
  subst hw
  refine lv_istore_n (lv' := [(2, .int (nI ((old + us) % 40))), (0, .ref qr), (1, .int (nI mm))]) hx hb dX0_addDrop_6 rfl hl (by decide) rfl (fun ls hl => ?_)
  refine lv_aload_n hx hb dX0_addDrop_7 rfl (lv_at hl 1 rfl) ?_
  refine lv_dup hx hb dX0_addDrop_8 rfl ?_
  refine va_get (D := D) (ci := 0) (v := .int (nI pr)) (C := RX0) (T := TX0) (N := 6) hx hb hts (by decide +kernel) hown hK hP 0 rfl rfl 5 (by decide) (hts (.fieldLink RX0 29 "JournalDesk$Ring" "present" "I") (by decide +kernel)) (fun _ h9 => h9) rfl dX0_addDrop_9 ?_
  refine lv_iload_n hx hb dX0_addDrop_12 rfl (lv_at hl 2 rfl) ?_
  refine lv_isub hx hb dX0_addDrop_13 ?_
  refine jt_i (y := (nI (pr - mm))) (pk_sub (by omega)) ?_
  refine va_put (D := D) (ci := 0) (v := .int (nI (pr - mm))) (ty := .int) (C := RX0) (T := TX0) (N := 6) hx hb hts (by decide +kernel) tyX0 tyX0_ok nmX0 hown hK hP hD hS 0 rfl rfl 5 (by decide) (hts (.fieldLink RX0 29 "JournalDesk$Ring" "present" "I") (by decide +kernel)) (fun _ h9 => h9) rfl (by decide +kernel) (rfl) (rfl) (Nat.le_of_ble_eq_true rfl) dX0_addDrop_14 (fun H locs hP hD hS => ?_)
  have hP : va_P D vwCl [(qr, .inr (0, [.ref qd, .ref ql, .ref qn, .int (nI old), .int (nI (us + 1)), .int (nI (pr - mm))])), (qd, .inl (cb, 480, .inl dk)), (ql, .inl (ci, 40, .inl (upd L ((old + us) % 40) (-1)))), (qn, .inl (ci, 40, .inl N))] H := hP
  have hD : va_D A [(qr, .inr (0, [.ref qd, .ref ql, .ref qn, .int (nI old), .int (nI (us + 1)), .int (nI (pr - mm))])), (qd, .inl (cb, 480, .inl dk)), (ql, .inl (ci, 40, .inl (upd L ((old + us) % 40) (-1)))), (qn, .inl (ci, 40, .inl N))] := hD
  refine lv_iload_n hx hb dX0_addDrop_17 rfl (lv_at hl 2 rfl) ?_
  refine lv_istore_n (lv' := [(3, .int (nI mm)), (2, .int (nI ((old + us) % 40))), (0, .ref qr), (1, .int (nI mm))]) hx hb dX0_addDrop_18 rfl hl (by decide) rfl (fun ls hl => ?_)
  refine lv_iconst (v := (nI 0)) hx hb dX0_addDrop_19 (by decide +kernel) ?_
  refine lv_istore (lv' := [(4, .int (nI 0)), (3, .int (nI mm)), (2, .int (nI ((old + us) % 40))), (0, .ref qr), (1, .int (nI mm))]) hx hb dX0_addDrop_20 hl (by decide) rfl (fun ls hl => ?_)
  have LOOP22 : ∀ (fuel : Nat) (f : Nat) (hf : k < f + fuel) (hfk0 : f ≤ k) (hc : js (jcn (va_up r k false)) f ≤ mm) (hq : ∀ g, g < f → jPd (va_up r k false) mm g = false) (H : Heap) (locs : List Loc), va_P D vwCl [(qr, .inr (0, [.ref qd, .ref ql, .ref qn, .int (nI ((old + js (jse (va_up r k false) (va_up z k 0)) f) % 40)), .int (nI (us + 1 - js (jse (va_up r k false) (va_up z k 0)) f)), .int (nI (pr - mm))])), (qd, .inl (cb, 480, .inl dk)), (ql, .inl (ci, 40, .inl (upd L ((old + us) % 40) (-1)))), (qn, .inl (ci, 40, .inl N))] H → va_D A [(qr, .inr (0, [.ref qd, .ref ql, .ref qn, .int (nI ((old + js (jse (va_up r k false) (va_up z k 0)) f) % 40)), .int (nI (us + 1 - js (jse (va_up r k false) (va_up z k 0)) f)), .int (nI (pr - mm))])), (qd, .inl (cb, 480, .inl dk)), (ql, .inl (ci, 40, .inl (upd L ((old + us) % 40) (-1)))), (qn, .inl (ci, 40, .inl N))] → va_S A s.heap H locs → ∀ ls : Array Slot, lv_has ls 5 [(0, .ref qr), (1, .int (nI mm)), (2, .int (nI ((old + us) % 40))), (3, .int (nI (mm - js (jcn (va_up r k false)) f))), (4, .int (nI f))] → W p l e rm_R_addDrop s m av below meth c H locs 0 0 (MQ below (va_Qv (fun (_ : Unit) => js (jcn (va_up r k false)) (jdrF k r mm) = mm) (j_post D (jT cb ci cz) (fun _ => [(qr, .inr (0, [.ref qd, .ref ql, .ref qn, .int (nI ((old + js (jse (va_up r k false) (va_up z k 0)) (jdrF k r mm)) % 40)), .int (nI (us + 1 - js (jse (va_up r k false) (va_up z k 0)) (jdrF k r mm))), .int (nI (pr - mm))])), (qd, .inl (cb, 480, .inl dk)), (ql, .inl (ci, 40, .inl (upd L ((old + us) % 40) (-1)))), (qn, .inl (ci, 40, .inl N))]) A) A) av s 0 0 A) (F0 m 22 ls []) := by
    clear hP hD hS hl
    intro fuel
    induction fuel with
    | zero => intro f hf hfk0 hc hq; exfalso; omega
    | succ fuel ih22 =>
      intro f hf hfk0 hc hq H locs hP hD hS ls hl
      have a1 := jR_in hR1 (show f < k + 1 by omega)
      have a2 := jR_L hR1 (show f < k + 1 by omega)
      have a3 := jR_z hR1 (show f < k + 1 by omega)
      have a4 := jct_le (va_up r k false) f
      have a5 := js_ge (jse_pos (va_up r k false) (va_up z k 0)) f
      have a6 := hR1.2.2.1
      refine lv_iload hx hb dX0_addDrop_22 (lv_at hl 4 rfl) ?_
      refine lv_bipush (v := (nI 40)) hx hb dX0_addDrop_24 (by decide +kernel) ?_
      refine lv_icmp_ge (tgt := 66) hx hb dX0_addDrop_26 (by decide) (fun c_26_1 => ?_) (fun c_26_1 => ?_)
      · rw [nI_leI (show 40 < 2 ^ 31 by omega) (show f < 2 ^ 31 by omega)] at c_26_1
        exfalso; omega
      · rw [nI_leI (show 40 < 2 ^ 31 by omega) (show f < 2 ^ 31 by omega)] at c_26_1
        refine lv_aload_n hx hb dX0_addDrop_29 rfl (lv_at hl 0 rfl) ?_
        refine va_get (D := D) (ci := 0) (v := .int (nI ((old + js (jse (va_up r k false) (va_up z k 0)) f) % 40))) (C := RX0) (T := TX0) (N := 6) hx hb hts (by decide +kernel) hown hK hP 0 rfl rfl 3 (by decide) (hts (.fieldLink RX0 22 "JournalDesk$Ring" "oldest" "I") (by decide +kernel)) (fun _ h9 => h9) rfl dX0_addDrop_30 ?_
        refine lv_iload_n hx hb dX0_addDrop_33 rfl (lv_at hl 2 rfl) ?_
        refine lv_icmp_eq (tgt := 66) hx hb dX0_addDrop_34 (by decide) (fun c_34_2 => ?_) (fun c_34_2 => ?_)
        · rw [nI_eq (show (old + js (jse (va_up r k false) (va_up z k 0)) f) % 40 < 2 ^ 31 by omega) (show ((old + us) % 40) < 2 ^ 31 by omega)] at c_34_2
          have hfk : f = k := by
            rcases Nat.lt_or_ge f k with q | q
            · exfalso
              have b1 := js_mono (jse (va_up r k false) (va_up z k 0)) (show f + 1 ≤ k from q)
              rw [js_step, js_rk] at b1
              have b2 := jse_pos (va_up r k false) (va_up z k 0) f
              have b3 := hR.2.1
              omega
            · omega
          have hce : js (jcn (va_up r k false)) f = mm := by
            have b1 := hR.2.2.2.1
            have b2 : js (jcn (va_up r k false)) f = js (jcn r) k := by rw [hfk]; exact js_rkc
            omega
          have hfe : (jdrF k r mm) = f := by rw [hfk]; exact jfs_none (k + 1) (fun g hg => by rcases Nat.lt_or_ge g k with q | q; exact hq g (by omega); rw [show g = k by omega]; exact jPd_r (va_up_self r k false))
          rw [← hfe] at hP hD
          exact j_vret (()) hx hb hr hlk hK hP hD hS (by rw [hfe]; exact hce) dX0_addDrop_66
        · rw [nI_eq (show (old + js (jse (va_up r k false) (va_up z k 0)) f) % 40 < 2 ^ 31 by omega) (show ((old + us) % 40) < 2 ^ 31 by omega)] at c_34_2
          have hfk : f < k := by
            rcases Nat.lt_or_ge f k with q | q
            · exact q
            · exfalso
              have q2 : f = k := by omega
              rw [q2, js_rk, ← hR.2.1] at c_34_2
              exact c_34_2 rfl
          refine lv_aload_n hx hb dX0_addDrop_37 rfl (lv_at hl 0 rfl) ?_
          refine lv_aload_n hx hb dX0_addDrop_38 rfl (lv_at hl 0 rfl) ?_
          refine va_get (D := D) (ci := 0) (v := .int (nI ((old + js (jse (va_up r k false) (va_up z k 0)) f) % 40))) (C := RX0) (T := TX0) (N := 6) hx hb hts (by decide +kernel) hown hK hP 0 rfl rfl 3 (by decide) (hts (.fieldLink RX0 22 "JournalDesk$Ring" "oldest" "I") (by decide +kernel)) (fun _ h9 => h9) rfl dX0_addDrop_39 ?_
          refine j_calli (wr := []) hP hD hS hA [0, 1, 2, 3] [] rfl rfl (by decide) (by decide) (va_runV (As := [.int (nI ((old + js (jse (va_up r k false) (va_up z k 0)) f) % 40))]) (rest := []) ⟨hx, hb, hml, hown, hts⟩ (c_R_isRecord l D cb ci cz qr qd ql qn dk (upd L ((old + us) % 40) (-1)) N ((old + js (jse (va_up r k false) (va_up z k 0)) f) % 40) (us + 1 - js (jse (va_up r k false) (va_up z k 0)) f) (pr - mm) ((old + js (jse (va_up r k false) (va_up z k 0)) f) % 40) ((va_up r k false) f) ((va_up z k 0) f) (Nat.mod_lt _ (by decide)) a3 a2 H.size) (cwV 1 hts gX0_addDrop_X0_isRecord rfl rfl rfl (by decide +kernel) ⟨Nat.le_of_ble_eq_true rfl, Nat.le_of_ble_eq_true rfl⟩) (j_preV (ci := 0) (q0 := 0) [0, 1, 2, 3] [0, 1, 2] hK hP hD rfl rfl rfl rfl rfl rfl) rfl rfl hl.1 rfl (lv_room (Nat.le_of_ble_eq_true rfl)) dX0_addDrop_42 ⟨Nat.le_of_ble_eq_true rfl, Nat.le_of_ble_eq_true rfl⟩) (fun r42 u9 H locs hw hP hD hS => ?_)
          have hP : va_P D vwCl [(qr, .inr (0, [.ref qd, .ref ql, .ref qn, .int (nI ((old + js (jse (va_up r k false) (va_up z k 0)) f) % 40)), .int (nI (us + 1 - js (jse (va_up r k false) (va_up z k 0)) f)), .int (nI (pr - mm))])), (qd, .inl (cb, 480, .inl dk)), (ql, .inl (ci, 40, .inl (upd L ((old + us) % 40) (-1)))), (qn, .inl (ci, 40, .inl N))] H := hP
          have hD : va_D A [(qr, .inr (0, [.ref qd, .ref ql, .ref qn, .int (nI ((old + js (jse (va_up r k false) (va_up z k 0)) f) % 40)), .int (nI (us + 1 - js (jse (va_up r k false) (va_up z k 0)) f)), .int (nI (pr - mm))])), (qd, .inl (cb, 480, .inl dk)), (ql, .inl (ci, 40, .inl (upd L ((old + us) % 40) (-1)))), (qn, .inl (ci, 40, .inl N))] := hD
          have hw : r42 = (jbi ((va_up r k false) f)) := hw
          subst hw
          refine lv_if_eq (tgt := 56) hx hb dX0_addDrop_45 (by decide) (fun c_45_3 => ?_) (fun c_45_3 => ?_)
          · have hb1 : (va_up r k false) f = false := jbi_0.mp c_45_3
            rw [show js (jcn (va_up r k false)) f = js (jcn (va_up r k false)) (f + 1) by rw [js_step, jcn_f hb1, Nat.add_zero]] at hl
            refine lv_aload_n hx hb dX0_addDrop_56 rfl (lv_at hl 0 rfl) ?_
            refine j_callv (wr := []) hP hD hS hA [0, 1, 2, 3] [] rfl rfl (by decide) (by decide) (va_runV (As := []) (rest := []) ⟨hx, hb, hml, hown, hts⟩ (c_R_giveBackOldest l D cb ci cz qr qd ql qn dk (upd L ((old + us) % 40) (-1)) N ((old + js (jse (va_up r k false) (va_up z k 0)) f) % 40) (us + 1 - js (jse (va_up r k false) (va_up z k 0)) f) (pr - mm) ((va_up r k false) f) ((va_up z k 0) f) (Nat.mod_lt _ (by decide)) (by omega) a3 a2 (by show jse (va_up r k false) (va_up z k 0) f ≤ _; omega) H.size) (cwV 0 hts gX0_addDrop_X0_giveBackOldest rfl rfl rfl (by decide +kernel) ⟨Nat.le_of_ble_eq_true rfl, Nat.le_of_ble_eq_true rfl⟩) (j_preV (ci := 0) (q0 := 0) [0, 1, 2, 3] [0, 1, 2] hK hP hD rfl rfl rfl rfl rfl rfl) rfl rfl hl.1 rfl (lv_room (Nat.le_of_ble_eq_true rfl)) dX0_addDrop_57 ⟨Nat.le_of_ble_eq_true rfl, Nat.le_of_ble_eq_true rfl⟩) (fun u9 H locs hw hP hD hS => ?_)
            rw [show ((old + js (jse (va_up r k false) (va_up z k 0)) f) % 40 + (if (va_up r k false) f = true then jsc ((va_up z k 0) f) else 1)) % 40 = (old + js (jse (va_up r k false) (va_up z k 0)) (f + 1)) % 40 by rw [js_step]; show ((old + js (jse (va_up r k false) (va_up z k 0)) f) % 40 + jse (va_up r k false) (va_up z k 0) f) % 40 = _; omega, show us + 1 - js (jse (va_up r k false) (va_up z k 0)) f - (if (va_up r k false) f = true then jsc ((va_up z k 0) f) else 1) = us + 1 - js (jse (va_up r k false) (va_up z k 0)) (f + 1) by rw [js_step]; show us + 1 - js (jse (va_up r k false) (va_up z k 0)) f - jse (va_up r k false) (va_up z k 0) f = _; omega] at hP hD
            have hP : va_P D vwCl [(qr, .inr (0, [.ref qd, .ref ql, .ref qn, .int (nI ((old + js (jse (va_up r k false) (va_up z k 0)) (f + 1)) % 40)), .int (nI (us + 1 - js (jse (va_up r k false) (va_up z k 0)) (f + 1))), .int (nI (pr - mm))])), (qd, .inl (cb, 480, .inl dk)), (ql, .inl (ci, 40, .inl (upd L ((old + us) % 40) (-1)))), (qn, .inl (ci, 40, .inl N))] H := hP
            have hD : va_D A [(qr, .inr (0, [.ref qd, .ref ql, .ref qn, .int (nI ((old + js (jse (va_up r k false) (va_up z k 0)) (f + 1)) % 40)), .int (nI (us + 1 - js (jse (va_up r k false) (va_up z k 0)) (f + 1))), .int (nI (pr - mm))])), (qd, .inl (cb, 480, .inl dk)), (ql, .inl (ci, 40, .inl (upd L ((old + us) % 40) (-1)))), (qn, .inl (ci, 40, .inl N))] := hD
            refine lv_iinc (v := (nI (f + 1))) (lv' := [(4, .int (nI (f + 1))), (0, .ref qr), (1, .int (nI mm)), (2, .int (nI ((old + us) % 40))), (3, .int (nI (mm - js (jcn (va_up r k false)) (f + 1))))]) hx hb dX0_addDrop_60 hl (k := 4) rfl (nI_1 _) (by decide) rfl (fun ls hl => ?_)
            refine lv_goto (tgt := 22) hx hb dX0_addDrop_63 (by decide) ?_
            exact ih22 (f + 1) (by omega) (by omega) (by rw [js_step]; have b1 := jcn_f hb1; omega) (lt_s hq (jPd_r hb1)) _ _ hP hD hS ls (lv_sub hl [1, 2, 3, 4, 0] rfl)
          · have hb1 : (va_up r k false) f = true := jbi_n0.mp c_45_3
            refine lv_iload_n hx hb dX0_addDrop_48 rfl (lv_at hl 3 rfl) ?_
            refine lv_if_ne (tgt := 53) hx hb dX0_addDrop_49 (by decide) (fun c_49_4 => ?_) (fun c_49_4 => ?_)
            · rw [← nI_0] at c_49_4
              rw [nI_eq (show mm - js (jcn (va_up r k false)) f < 2 ^ 31 by omega) (show 0 < 2 ^ 31 by omega)] at c_49_4
              refine lv_iinc (v := (nI (mm - js (jcn (va_up r k false)) (f + 1)))) (lv' := [(3, .int (nI (mm - js (jcn (va_up r k false)) (f + 1)))), (0, .ref qr), (1, .int (nI mm)), (2, .int (nI ((old + us) % 40))), (4, .int (nI f))]) hx hb dX0_addDrop_53 hl (k := 3) rfl (by rw [js_step, jcn_t hb1]; exact j_dec (by omega)) (by decide) rfl (fun ls hl => ?_)
              refine lv_aload_n hx hb dX0_addDrop_56 rfl (lv_at hl 1 rfl) ?_
              refine j_callv (wr := []) hP hD hS hA [0, 1, 2, 3] [] rfl rfl (by decide) (by decide) (va_runV (As := []) (rest := []) ⟨hx, hb, hml, hown, hts⟩ (c_R_giveBackOldest l D cb ci cz qr qd ql qn dk (upd L ((old + us) % 40) (-1)) N ((old + js (jse (va_up r k false) (va_up z k 0)) f) % 40) (us + 1 - js (jse (va_up r k false) (va_up z k 0)) f) (pr - mm) ((va_up r k false) f) ((va_up z k 0) f) (Nat.mod_lt _ (by decide)) (by omega) a3 a2 (by show jse (va_up r k false) (va_up z k 0) f ≤ _; omega) H.size) (cwV 0 hts gX0_addDrop_X0_giveBackOldest rfl rfl rfl (by decide +kernel) ⟨Nat.le_of_ble_eq_true rfl, Nat.le_of_ble_eq_true rfl⟩) (j_preV (ci := 0) (q0 := 0) [0, 1, 2, 3] [0, 1, 2] hK hP hD rfl rfl rfl rfl rfl rfl) rfl rfl hl.1 rfl (lv_room (Nat.le_of_ble_eq_true rfl)) dX0_addDrop_57 ⟨Nat.le_of_ble_eq_true rfl, Nat.le_of_ble_eq_true rfl⟩) (fun u9 H locs hw hP hD hS => ?_)
              rw [show ((old + js (jse (va_up r k false) (va_up z k 0)) f) % 40 + (if (va_up r k false) f = true then jsc ((va_up z k 0) f) else 1)) % 40 = (old + js (jse (va_up r k false) (va_up z k 0)) (f + 1)) % 40 by rw [js_step]; show ((old + js (jse (va_up r k false) (va_up z k 0)) f) % 40 + jse (va_up r k false) (va_up z k 0) f) % 40 = _; omega, show us + 1 - js (jse (va_up r k false) (va_up z k 0)) f - (if (va_up r k false) f = true then jsc ((va_up z k 0) f) else 1) = us + 1 - js (jse (va_up r k false) (va_up z k 0)) (f + 1) by rw [js_step]; show us + 1 - js (jse (va_up r k false) (va_up z k 0)) f - jse (va_up r k false) (va_up z k 0) f = _; omega] at hP hD
              have hP : va_P D vwCl [(qr, .inr (0, [.ref qd, .ref ql, .ref qn, .int (nI ((old + js (jse (va_up r k false) (va_up z k 0)) (f + 1)) % 40)), .int (nI (us + 1 - js (jse (va_up r k false) (va_up z k 0)) (f + 1))), .int (nI (pr - mm))])), (qd, .inl (cb, 480, .inl dk)), (ql, .inl (ci, 40, .inl (upd L ((old + us) % 40) (-1)))), (qn, .inl (ci, 40, .inl N))] H := hP
              have hD : va_D A [(qr, .inr (0, [.ref qd, .ref ql, .ref qn, .int (nI ((old + js (jse (va_up r k false) (va_up z k 0)) (f + 1)) % 40)), .int (nI (us + 1 - js (jse (va_up r k false) (va_up z k 0)) (f + 1))), .int (nI (pr - mm))])), (qd, .inl (cb, 480, .inl dk)), (ql, .inl (ci, 40, .inl (upd L ((old + us) % 40) (-1)))), (qn, .inl (ci, 40, .inl N))] := hD
              refine lv_iinc (v := (nI (f + 1))) (lv' := [(4, .int (nI (f + 1))), (3, .int (nI (mm - js (jcn (va_up r k false)) (f + 1)))), (0, .ref qr), (1, .int (nI mm)), (2, .int (nI ((old + us) % 40)))]) hx hb dX0_addDrop_60 hl (k := 4) rfl (nI_1 _) (by decide) rfl (fun ls hl => ?_)
              refine lv_goto (tgt := 22) hx hb dX0_addDrop_63 (by decide) ?_
              exact ih22 (f + 1) (by omega) (by omega) (by rw [js_step]; have b1 := jcn_t hb1; omega) (lt_s hq (jPd_m (by omega))) _ _ hP hD hS ls (lv_sub hl [2, 3, 4, 1, 0] rfl)
            · rw [← nI_0] at c_49_4
              rw [nI_eq (show mm - js (jcn (va_up r k false)) f < 2 ^ 31 by omega) (show 0 < 2 ^ 31 by omega)] at c_49_4
              have hce : js (jcn (va_up r k false)) f = mm := by omega
              have hfe : (jdrF k r mm) = f := jfs_some (jPd_t hb1 (by omega)) hq (k + 1) (by omega) k
              rw [← hfe] at hP hD
              exact j_vret (()) hx hb hr hlk hK hP hD hS (by rw [hfe]; exact hce) dX0_addDrop_52
  have e0 : (old + js (jse (va_up r k false) (va_up z k 0)) 0) % 40 = old := Nat.mod_eq_of_lt ho40
  have hP : va_P D vwCl [(qr, .inr (0, [.ref qd, .ref ql, .ref qn, .int (nI ((old + js (jse (va_up r k false) (va_up z k 0)) 0) % 40)), .int (nI (us + 1 - js (jse (va_up r k false) (va_up z k 0)) 0)), .int (nI (pr - mm))])), (qd, .inl (cb, 480, .inl dk)), (ql, .inl (ci, 40, .inl (upd L ((old + us) % 40) (-1)))), (qn, .inl (ci, 40, .inl N))] H := by rw [e0]; exact hP
  have hD : va_D A [(qr, .inr (0, [.ref qd, .ref ql, .ref qn, .int (nI ((old + js (jse (va_up r k false) (va_up z k 0)) 0) % 40)), .int (nI (us + 1 - js (jse (va_up r k false) (va_up z k 0)) 0)), .int (nI (pr - mm))])), (qd, .inl (cb, 480, .inl dk)), (ql, .inl (ci, 40, .inl (upd L ((old + us) % 40) (-1)))), (qn, .inl (ci, 40, .inl N))] := by rw [e0]; exact hD
  exact LOOP22 (k + 1) 0 (by omega) (by omega) (Nat.zero_le _) (fun _ h => absurd h (Nat.not_lt_zero _)) _ _ hP hD hS ls (lv_sub hl [3, 4, 2, 1, 0] rfl)
abbrev rm_R_sectorOfRecord : Room := { frames := 5, cells := 0, slots := 0, locals := 105 }
set_option maxHeartbeats 4000000 in
set_option maxRecDepth 100000 in
/-- the first sector of the i-th record -/
theorem c_R_sectorOfRecord (l : Launch) (D : va_G) (cb ci cz : ClassId) (qr qd ql qn : Nat) (dk L N : Nat → Int32) (old us pr : Nat) (k : Nat) (r : Nat → Bool) (z : Nat → Nat) (u : Nat → Int32) (y : Nat → Nat → Int32) (i : Int32) (hR : jR old us pr dk L N k r z u y) (sz : Nat) : Met l yX0_sectorOfRecord wsX0_sectorOfRecord rm_R_sectorOfRecord (va_Pc [.ref qr, .int i] (j_pre D (jT cb ci cz) [(qr, .inr (0, [.ref qd, .ref ql, .ref qn, .int (nI old), .int (nI us), .int (nI pr)])), (qd, .inl (cb, 480, .inl dk)), (ql, .inl (ci, 40, .inl L)), (qn, .inl (ci, 40, .inl N))] sz)) (va_Qi (fun (x : Int32) (_ : Unit) => (∃ j, jfd k r true i j ∧ x = nI ((old + js (jse r z) j) % 40)) ∨ ((∀ j, ¬ jfd k r true i j) ∧ x = -1)) (j_post D (jT cb ci cz) (fun _ => [(qr, .inr (0, [.ref qd, .ref ql, .ref qn, .int (nI old), .int (nI us), .int (nI pr)])), (qd, .inl (cb, 480, .inl dk)), (ql, .inl (ci, 40, .inl L)), (qn, .inl (ci, 40, .inl N))]) (va_A [(qr, .inr (0, [.ref qd, .ref ql, .ref qn, .int (nI old), .int (nI us), .int (nI pr)])), (qd, .inl (cb, 480, .inl dk)), (ql, .inl (ci, 40, .inl L)), (qn, .inl (ci, 40, .inl N))] sz)) (va_A [(qr, .inr (0, [.ref qd, .ref ql, .ref qn, .int (nI old), .int (nI us), .int (nI pr)])), (qd, .inl (cb, 480, .inl dk)), (ql, .inl (ci, 40, .inl L)), (qn, .inl (ci, 40, .inl N))] sz)) 0 0 (va_A [(qr, .inr (0, [.ref qd, .ref ql, .ref qn, .int (nI old), .int (nI us), .int (nI pr)])), (qd, .inl (cb, 480, .inl dk)), (ql, .inl (ci, 40, .inl L)), (qn, .inl (ci, 40, .inl N))] sz) := by
  refine j_in (Qc := fun A => (va_Qi (fun (x : Int32) (_ : Unit) => (∃ j, jfd k r true i j ∧ x = nI ((old + js (jse r z) j) % 40)) ∨ ((∀ j, ¬ jfd k r true i j) ∧ x = -1)) (j_post D (jT cb ci cz) (fun _ => [(qr, .inr (0, [.ref qd, .ref ql, .ref qn, .int (nI old), .int (nI us), .int (nI pr)])), (qd, .inl (cb, 480, .inl dk)), (ql, .inl (ci, 40, .inl L)), (qn, .inl (ci, 40, .inl N))]) A) A)) (cc := cX0_sectorOfRecord) (maxL := 5) (ret := (some .int)) (by decide) rfl (Nat.le_of_ble_eq_true rfl) ?_
  intro p e s m av below meth c A ls H locs hx hb hr hml hts hown hlk hin hA hP hK hD hS hl
  have hown : s.vm.findClass RX0 = some m.cls := hown
  have hl : lv_has ls 5 [(0, .ref qr), (1, .int i)] := hl
  have hk40 := jR_k hR
  have hp40 := jR_pr hR
  have ho40 := hR.1
  have hu40 := hR.2.2.1
  refine lv_iload_n hx hb dX0_sectorOfRecord_0 rfl (lv_at hl 1 rfl) ?_
  refine lv_if_lt (tgt := 12) hx hb dX0_sectorOfRecord_1 (by decide) (fun c_1_1 => ?_) (fun c_1_1 => ?_)
  · have hno : ∀ j, ¬ jfd k r true i j := fun j q => absurd (show nI (js (jcn r) j) < 0 from q.2.2.2 ▸ c_1_1) (nI_pos (by have := jct_le r j; have := q.2.1; omega))
    refine lv_iconst (v := (-1)) hx hb dX0_sectorOfRecord_12 (by decide +kernel) ?_
    exact j_iret (v := (-1)) (()) hx hb hr hlk hK hP hD hS (Or.inr ⟨hno, rfl⟩) dX0_sectorOfRecord_13
  · obtain ⟨ii, hii, hi2⟩ := nI_of c_1_1
    rw [hi2] at hl
    refine lv_iload_n hx hb dX0_sectorOfRecord_4 rfl (lv_at hl 1 rfl) ?_
    refine lv_aload_n hx hb dX0_sectorOfRecord_5 rfl (lv_at hl 0 rfl) ?_
    refine va_get (D := D) (ci := 0) (v := .int (nI pr)) (C := RX0) (T := TX0) (N := 6) hx hb hts (by decide +kernel) hown hK hP 0 rfl rfl 5 (by decide) (hts (.fieldLink RX0 29 "JournalDesk$Ring" "present" "I") (by decide +kernel)) (fun _ h9 => h9) rfl dX0_sectorOfRecord_6 ?_
    refine lv_icmp_lt (tgt := 14) hx hb dX0_sectorOfRecord_9 (by decide) (fun c_9_2 => ?_) (fun c_9_2 => ?_)
    · rw [nI_ltI (show ii < 2 ^ 31 by omega) (show pr < 2 ^ 31 by omega)] at c_9_2
      refine lv_aload_n hx hb dX0_sectorOfRecord_14 rfl (lv_at hl 0 rfl) ?_
      refine va_get (D := D) (ci := 0) (v := .int (nI old)) (C := RX0) (T := TX0) (N := 6) hx hb hts (by decide +kernel) hown hK hP 0 rfl rfl 3 (by decide) (hts (.fieldLink RX0 22 "JournalDesk$Ring" "oldest" "I") (by decide +kernel)) (fun _ h9 => h9) rfl dX0_sectorOfRecord_15 ?_
      refine lv_istore_n (lv' := [(2, .int (nI old)), (0, .ref qr), (1, .int (nI ii))]) hx hb dX0_sectorOfRecord_18 rfl hl (by decide) rfl (fun ls hl => ?_)
      refine lv_iload_n hx hb dX0_sectorOfRecord_19 rfl (lv_at hl 2 rfl) ?_
      refine lv_istore_n (lv' := [(3, .int (nI ii)), (2, .int (nI old)), (0, .ref qr), (1, .int (nI ii))]) hx hb dX0_sectorOfRecord_20 rfl hl (by decide) rfl (fun ls hl => ?_)
      refine lv_iconst (v := (nI 0)) hx hb dX0_sectorOfRecord_21 (by decide +kernel) ?_
      refine lv_istore (lv' := [(4, .int (nI 0)), (3, .int (nI ii)), (2, .int (nI old)), (0, .ref qr), (1, .int (nI ii))]) hx hb dX0_sectorOfRecord_22 hl (by decide) rfl (fun ls hl => ?_)
      have LOOP24 : ∀ (fuel : Nat) (f : Nat) (hf : k < f + fuel) (hfk0 : f ≤ k) (hc : js (jcn r) f ≤ ii) (H : Heap) (locs : List Loc), va_P D vwCl [(qr, .inr (0, [.ref qd, .ref ql, .ref qn, .int (nI old), .int (nI us), .int (nI pr)])), (qd, .inl (cb, 480, .inl dk)), (ql, .inl (ci, 40, .inl L)), (qn, .inl (ci, 40, .inl N))] H → va_D A [(qr, .inr (0, [.ref qd, .ref ql, .ref qn, .int (nI old), .int (nI us), .int (nI pr)])), (qd, .inl (cb, 480, .inl dk)), (ql, .inl (ci, 40, .inl L)), (qn, .inl (ci, 40, .inl N))] → va_S A s.heap H locs → ∀ ls : Array Slot, lv_has ls 5 [(0, .ref qr), (1, .int (nI ii)), (2, .int (nI ((old + js (jse r z) f) % 40))), (3, .int (nI (ii - js (jcn r) f))), (4, .int (nI f))] → W p l e rm_R_sectorOfRecord s m av below meth c H locs 0 0 (MQ below (va_Qi (fun (x : Int32) (_ : Unit) => (∃ j, jfd k r true i j ∧ x = nI ((old + js (jse r z) j) % 40)) ∨ ((∀ j, ¬ jfd k r true i j) ∧ x = -1)) (j_post D (jT cb ci cz) (fun _ => [(qr, .inr (0, [.ref qd, .ref ql, .ref qn, .int (nI old), .int (nI us), .int (nI pr)])), (qd, .inl (cb, 480, .inl dk)), (ql, .inl (ci, 40, .inl L)), (qn, .inl (ci, 40, .inl N))]) A) A) av s 0 0 A) (F0 m 24 ls []) := by
        clear hP hD hS hl
        intro fuel
        induction fuel with
        | zero => intro f hf hfk0 hc; exfalso; omega
        | succ fuel ih24 =>
          intro f hf hfk0 hc H locs hP hD hS ls hl
          have a4 := jct_le r f
          have a5 := js_ge (jse_pos r z) f
          have hfk : f < k := by
            rcases Nat.lt_or_ge f k with q | q
            · exact q
            · exfalso
              have q2 : f = k := by omega
              rw [q2] at hc
              have b3 := hR.2.2.2.1
              omega
          have a1 := jR_in hR hfk
          have a2 := jR_L hR hfk
          have a3 := jR_z hR hfk
          have a6 := hR.2.2.1
          refine lv_iload hx hb dX0_sectorOfRecord_24 (lv_at hl 4 rfl) ?_
          refine lv_bipush (v := (nI 40)) hx hb dX0_sectorOfRecord_26 (by decide +kernel) ?_
          refine lv_icmp_ge (tgt := 65) hx hb dX0_sectorOfRecord_28 (by decide) (fun c_28_3 => ?_) (fun c_28_3 => ?_)
          · rw [nI_leI (show 40 < 2 ^ 31 by omega) (show f < 2 ^ 31 by omega)] at c_28_3
            exfalso; omega
          · rw [nI_leI (show 40 < 2 ^ 31 by omega) (show f < 2 ^ 31 by omega)] at c_28_3
            refine lv_aload_n hx hb dX0_sectorOfRecord_31 rfl (lv_at hl 0 rfl) ?_
            refine lv_iload_n hx hb dX0_sectorOfRecord_32 rfl (lv_at hl 2 rfl) ?_
            refine j_calli (wr := []) hP hD hS hA [0, 1, 2, 3] [] rfl rfl (by decide) (by decide) (va_runV (As := [.int (nI ((old + js (jse r z) f) % 40))]) (rest := []) ⟨hx, hb, hml, hown, hts⟩ (c_R_isRecord l D cb ci cz qr qd ql qn dk L N old us pr ((old + js (jse r z) f) % 40) (r f) (z f) (Nat.mod_lt _ (by decide)) a3 a2 H.size) (cwV 1 hts gX0_sectorOfRecord_X0_isRecord rfl rfl rfl (by decide +kernel) ⟨Nat.le_of_ble_eq_true rfl, Nat.le_of_ble_eq_true rfl⟩) (j_preV (ci := 0) (q0 := 0) [0, 1, 2, 3] [0, 1, 2] hK hP hD rfl rfl rfl rfl rfl rfl) rfl rfl hl.1 rfl (lv_room (Nat.le_of_ble_eq_true rfl)) dX0_sectorOfRecord_33 ⟨Nat.le_of_ble_eq_true rfl, Nat.le_of_ble_eq_true rfl⟩) (fun r33 u9 H locs hw hP hD hS => ?_)
            have hP : va_P D vwCl [(qr, .inr (0, [.ref qd, .ref ql, .ref qn, .int (nI old), .int (nI us), .int (nI pr)])), (qd, .inl (cb, 480, .inl dk)), (ql, .inl (ci, 40, .inl L)), (qn, .inl (ci, 40, .inl N))] H := hP
            have hD : va_D A [(qr, .inr (0, [.ref qd, .ref ql, .ref qn, .int (nI old), .int (nI us), .int (nI pr)])), (qd, .inl (cb, 480, .inl dk)), (ql, .inl (ci, 40, .inl L)), (qn, .inl (ci, 40, .inl N))] := hD
            have hw : r33 = (jbi (r f)) := hw
            subst hw
            refine lv_if_eq (tgt := 48) hx hb dX0_sectorOfRecord_36 (by decide) (fun c_36_4 => ?_) (fun c_36_4 => ?_)
            · have hb1 : r f = false := jbi_0.mp c_36_4
              rw [show js (jcn r) f = js (jcn r) (f + 1) by rw [js_step, jcn_f hb1, Nat.add_zero]] at hl
              refine lv_iload_n hx hb dX0_sectorOfRecord_48 rfl (lv_at hl 2 rfl) ?_
              refine lv_aload_n hx hb dX0_sectorOfRecord_49 rfl (lv_at hl 0 rfl) ?_
              refine lv_iload_n hx hb dX0_sectorOfRecord_50 rfl (lv_at hl 2 rfl) ?_
              refine j_calli (wr := []) hP hD hS hA [0, 1, 2, 3] [] rfl rfl (by decide) (by decide) (va_runV (As := [.int (nI ((old + js (jse r z) f) % 40))]) (rest := [.int (nI ((old + js (jse r z) f) % 40))]) ⟨hx, hb, hml, hown, hts⟩ (c_R_sectorsAt l D cb ci cz qr qd ql qn dk L N old us pr ((old + js (jse r z) f) % 40) (r f) (z f) (Nat.mod_lt _ (by decide)) a3 a2 H.size) (cwV 1 hts gX0_sectorOfRecord_X0_sectorsAt rfl rfl rfl (by decide +kernel) ⟨Nat.le_of_ble_eq_true rfl, Nat.le_of_ble_eq_true rfl⟩) (j_preV (ci := 0) (q0 := 0) [0, 1, 2, 3] [0, 1, 2] hK hP hD rfl rfl rfl rfl rfl rfl) rfl rfl hl.1 rfl (lv_room (Nat.le_of_ble_eq_true rfl)) dX0_sectorOfRecord_51 ⟨Nat.le_of_ble_eq_true rfl, Nat.le_of_ble_eq_true rfl⟩) (fun r51 u9 H locs hw hP hD hS => ?_)
              have hP : va_P D vwCl [(qr, .inr (0, [.ref qd, .ref ql, .ref qn, .int (nI old), .int (nI us), .int (nI pr)])), (qd, .inl (cb, 480, .inl dk)), (ql, .inl (ci, 40, .inl L)), (qn, .inl (ci, 40, .inl N))] H := hP
              have hD : va_D A [(qr, .inr (0, [.ref qd, .ref ql, .ref qn, .int (nI old), .int (nI us), .int (nI pr)])), (qd, .inl (cb, 480, .inl dk)), (ql, .inl (ci, 40, .inl L)), (qn, .inl (ci, 40, .inl N))] := hD
              have hw : r51 = (nI (if r f = true then jsc (z f) else 1)) := hw
              subst hw
              refine jt_i (y := nI (jse r z f)) rfl ?_
              refine lv_iadd hx hb dX0_sectorOfRecord_54 ?_
              refine jt_i (y := (nI (((old + js (jse r z) f) % 40) + (jse r z f)))) (nI_add _ _) ?_
              refine j_calli (wr := [(qr, .inr (0, [.ref qd, .ref ql, .ref qn, .int (nI old), .int (nI us), .int (nI pr)])), (qd, .inl (cb, 480, .inl dk)), (ql, .inl (ci, 40, .inl L)), (qn, .inl (ci, 40, .inl N))]) hP hD hS hA [] [0, 1, 2, 3] rfl rfl (by decide) (by decide) (va_runS (As := [.int (nI (((old + js (jse r z) f) % 40) + (jse r z f)))]) (rest := []) ⟨hx, hb, hml, hown, hts⟩ (c_R_onRing l D cb ci cz ((old + js (jse r z) f) % 40 + jse r z f) (by omega) H.size) (va_cwS 1 hts gX0_sectorOfRecord_X0_onRing rfl rfl rfl (by decide +kernel) ⟨Nat.le_of_ble_eq_true rfl, Nat.le_of_ble_eq_true rfl⟩) (j_preS [] [0, 1, 2] hK hP hD rfl rfl rfl rfl) rfl rfl hl.1 rfl (lv_room (Nat.le_of_ble_eq_true rfl)) dX0_sectorOfRecord_55 ⟨Nat.le_of_ble_eq_true rfl, Nat.le_of_ble_eq_true rfl⟩) (fun r55 u9 H locs hw hP hD hS => ?_)
              have hP : va_P D vwCl [(qr, .inr (0, [.ref qd, .ref ql, .ref qn, .int (nI old), .int (nI us), .int (nI pr)])), (qd, .inl (cb, 480, .inl dk)), (ql, .inl (ci, 40, .inl L)), (qn, .inl (ci, 40, .inl N))] H := hP
              have hD : va_D A [(qr, .inr (0, [.ref qd, .ref ql, .ref qn, .int (nI old), .int (nI us), .int (nI pr)])), (qd, .inl (cb, 480, .inl dk)), (ql, .inl (ci, 40, .inl L)), (qn, .inl (ci, 40, .inl N))] := hD
              have hw : r55 = (nI (((old + js (jse r z) f) % 40 + jse r z f) % 40)) := hw
              subst hw
              refine jt_i (y := nI ((old + js (jse r z) (f + 1)) % 40)) (congrArg nI (by rw [js_step]; omega)) ?_
              refine lv_istore_n (lv' := [(2, .int (nI ((old + js (jse r z) (f + 1)) % 40))), (0, .ref qr), (1, .int (nI ii)), (3, .int (nI (ii - js (jcn r) (f + 1)))), (4, .int (nI f))]) hx hb dX0_sectorOfRecord_58 rfl hl (by decide) rfl (fun ls hl => ?_)
              refine lv_iinc (v := (nI (f + 1))) (lv' := [(4, .int (nI (f + 1))), (2, .int (nI ((old + js (jse r z) (f + 1)) % 40))), (0, .ref qr), (1, .int (nI ii)), (3, .int (nI (ii - js (jcn r) (f + 1))))]) hx hb dX0_sectorOfRecord_59 hl (k := 4) rfl (nI_1 _) (by decide) rfl (fun ls hl => ?_)
              refine lv_goto (tgt := 24) hx hb dX0_sectorOfRecord_62 (by decide) ?_
              exact ih24 (f + 1) (by omega) (by omega) (by rw [js_step]; have b1 := jcn_f hb1; omega) _ _ hP hD hS ls (lv_sub hl [2, 3, 1, 4, 0] rfl)
            · have hb1 : r f = true := jbi_n0.mp c_36_4
              refine lv_iload_n hx hb dX0_sectorOfRecord_39 rfl (lv_at hl 3 rfl) ?_
              refine lv_if_ne (tgt := 45) hx hb dX0_sectorOfRecord_40 (by decide) (fun c_40_5 => ?_) (fun c_40_5 => ?_)
              · rw [← nI_0] at c_40_5
                rw [nI_eq (show ii - js (jcn r) f < 2 ^ 31 by omega) (show 0 < 2 ^ 31 by omega)] at c_40_5
                refine lv_iinc (v := (nI (ii - js (jcn r) (f + 1)))) (lv' := [(3, .int (nI (ii - js (jcn r) (f + 1)))), (0, .ref qr), (1, .int (nI ii)), (2, .int (nI ((old + js (jse r z) f) % 40))), (4, .int (nI f))]) hx hb dX0_sectorOfRecord_45 hl (k := 3) rfl (by rw [js_step, jcn_t hb1]; exact j_dec (by omega)) (by decide) rfl (fun ls hl => ?_)
                refine lv_iload_n hx hb dX0_sectorOfRecord_48 rfl (lv_at hl 3 rfl) ?_
                refine lv_aload_n hx hb dX0_sectorOfRecord_49 rfl (lv_at hl 1 rfl) ?_
                refine lv_iload_n hx hb dX0_sectorOfRecord_50 rfl (lv_at hl 3 rfl) ?_
                refine j_calli (wr := []) hP hD hS hA [0, 1, 2, 3] [] rfl rfl (by decide) (by decide) (va_runV (As := [.int (nI ((old + js (jse r z) f) % 40))]) (rest := [.int (nI ((old + js (jse r z) f) % 40))]) ⟨hx, hb, hml, hown, hts⟩ (c_R_sectorsAt l D cb ci cz qr qd ql qn dk L N old us pr ((old + js (jse r z) f) % 40) (r f) (z f) (Nat.mod_lt _ (by decide)) a3 a2 H.size) (cwV 1 hts gX0_sectorOfRecord_X0_sectorsAt rfl rfl rfl (by decide +kernel) ⟨Nat.le_of_ble_eq_true rfl, Nat.le_of_ble_eq_true rfl⟩) (j_preV (ci := 0) (q0 := 0) [0, 1, 2, 3] [0, 1, 2] hK hP hD rfl rfl rfl rfl rfl rfl) rfl rfl hl.1 rfl (lv_room (Nat.le_of_ble_eq_true rfl)) dX0_sectorOfRecord_51 ⟨Nat.le_of_ble_eq_true rfl, Nat.le_of_ble_eq_true rfl⟩) (fun r51 u9 H locs hw hP hD hS => ?_)
                have hP : va_P D vwCl [(qr, .inr (0, [.ref qd, .ref ql, .ref qn, .int (nI old), .int (nI us), .int (nI pr)])), (qd, .inl (cb, 480, .inl dk)), (ql, .inl (ci, 40, .inl L)), (qn, .inl (ci, 40, .inl N))] H := hP
                have hD : va_D A [(qr, .inr (0, [.ref qd, .ref ql, .ref qn, .int (nI old), .int (nI us), .int (nI pr)])), (qd, .inl (cb, 480, .inl dk)), (ql, .inl (ci, 40, .inl L)), (qn, .inl (ci, 40, .inl N))] := hD
                have hw : r51 = (nI (if r f = true then jsc (z f) else 1)) := hw
                subst hw
                refine jt_i (y := nI (jse r z f)) rfl ?_
                refine lv_iadd hx hb dX0_sectorOfRecord_54 ?_
                refine jt_i (y := (nI (((old + js (jse r z) f) % 40) + (jse r z f)))) (nI_add _ _) ?_
                refine j_calli (wr := [(qr, .inr (0, [.ref qd, .ref ql, .ref qn, .int (nI old), .int (nI us), .int (nI pr)])), (qd, .inl (cb, 480, .inl dk)), (ql, .inl (ci, 40, .inl L)), (qn, .inl (ci, 40, .inl N))]) hP hD hS hA [] [0, 1, 2, 3] rfl rfl (by decide) (by decide) (va_runS (As := [.int (nI (((old + js (jse r z) f) % 40) + (jse r z f)))]) (rest := []) ⟨hx, hb, hml, hown, hts⟩ (c_R_onRing l D cb ci cz ((old + js (jse r z) f) % 40 + jse r z f) (by omega) H.size) (va_cwS 1 hts gX0_sectorOfRecord_X0_onRing rfl rfl rfl (by decide +kernel) ⟨Nat.le_of_ble_eq_true rfl, Nat.le_of_ble_eq_true rfl⟩) (j_preS [] [0, 1, 2] hK hP hD rfl rfl rfl rfl) rfl rfl hl.1 rfl (lv_room (Nat.le_of_ble_eq_true rfl)) dX0_sectorOfRecord_55 ⟨Nat.le_of_ble_eq_true rfl, Nat.le_of_ble_eq_true rfl⟩) (fun r55 u9 H locs hw hP hD hS => ?_)
                have hP : va_P D vwCl [(qr, .inr (0, [.ref qd, .ref ql, .ref qn, .int (nI old), .int (nI us), .int (nI pr)])), (qd, .inl (cb, 480, .inl dk)), (ql, .inl (ci, 40, .inl L)), (qn, .inl (ci, 40, .inl N))] H := hP
                have hD : va_D A [(qr, .inr (0, [.ref qd, .ref ql, .ref qn, .int (nI old), .int (nI us), .int (nI pr)])), (qd, .inl (cb, 480, .inl dk)), (ql, .inl (ci, 40, .inl L)), (qn, .inl (ci, 40, .inl N))] := hD
                have hw : r55 = (nI (((old + js (jse r z) f) % 40 + jse r z f) % 40)) := hw
                subst hw
                refine jt_i (y := nI ((old + js (jse r z) (f + 1)) % 40)) (congrArg nI (by rw [js_step]; omega)) ?_
                refine lv_istore_n (lv' := [(2, .int (nI ((old + js (jse r z) (f + 1)) % 40))), (3, .int (nI (ii - js (jcn r) (f + 1)))), (0, .ref qr), (1, .int (nI ii)), (4, .int (nI f))]) hx hb dX0_sectorOfRecord_58 rfl hl (by decide) rfl (fun ls hl => ?_)
                refine lv_iinc (v := (nI (f + 1))) (lv' := [(4, .int (nI (f + 1))), (2, .int (nI ((old + js (jse r z) (f + 1)) % 40))), (3, .int (nI (ii - js (jcn r) (f + 1)))), (0, .ref qr), (1, .int (nI ii))]) hx hb dX0_sectorOfRecord_59 hl (k := 4) rfl (nI_1 _) (by decide) rfl (fun ls hl => ?_)
                refine lv_goto (tgt := 24) hx hb dX0_sectorOfRecord_62 (by decide) ?_
                exact ih24 (f + 1) (by omega) (by omega) (by rw [js_step]; have b1 := jcn_t hb1; omega) _ _ hP hD hS ls (lv_sub hl [3, 4, 1, 2, 0] rfl)
              · rw [← nI_0] at c_40_5
                rw [nI_eq (show ii - js (jcn r) f < 2 ^ 31 by omega) (show 0 < 2 ^ 31 by omega)] at c_40_5
                refine lv_iload_n hx hb dX0_sectorOfRecord_43 rfl (lv_at hl 2 rfl) ?_
                exact j_iret (v := (nI ((old + js (jse r z) f) % 40))) (()) hx hb hr hlk hK hP hD hS (Or.inl ⟨f, ⟨rfl, hfk, hb1, hi2.trans (congrArg nI (by omega))⟩, rfl⟩) dX0_sectorOfRecord_44
      have e0 : (old + js (jse r z) 0) % 40 = old := Nat.mod_eq_of_lt ho40
      rw [← e0] at hl
      exact LOOP24 (k + 1) 0 (by omega) (by omega) (Nat.zero_le _) _ _ hP hD hS ls (lv_sub hl [3, 4, 2, 1, 0] rfl)
    · rw [nI_ltI (show ii < 2 ^ 31 by omega) (show pr < 2 ^ 31 by omega)] at c_9_2
      have hno : ∀ j, ¬ jfd k r true i j := fun j q => by
        obtain ⟨-, q1, q2, q3⟩ := q
        have b1 := jct_le r j
        have b2 := js_mono (jcn r) (show j + 1 ≤ k from q1)
        rw [js_step, jcn_t q2] at b2
        have b3 := hR.2.2.2.1
        rw [hi2, nI_eq (by omega) (by omega)] at q3
        omega
      refine lv_iconst (v := (-1)) hx hb dX0_sectorOfRecord_12 (by decide +kernel) ?_
      exact j_iret (v := (-1)) (()) hx hb hr hlk hK hP hD hS (Or.inr ⟨hno, rfl⟩) dX0_sectorOfRecord_13
abbrev rm_R_eightBytes : Room := { frames := 3, cells := 0, slots := 0, locals := 63 }
set_option maxHeartbeats 4000000 in
set_option maxRecDepth 100000 in
/-- eight bytes of what begins at sector a, from byte cc on -/
theorem c_R_eightBytes (l : Launch) (D : va_G) (cb ci cz : ClassId) (qr qd ql qn : Nat) (dk L N : Nat → Int32) (old us pr : Nat) (a cc w : Nat) (yy : Nat → Int32) (ha : a < 40) (hw0 : w ≤ 100) (hL : L a = nI w) (hyy : ∀ i, i < w → dk ((12 * a + i) % 480) &&& 255 = yy i) (hcc : cc < 2 ^ 31) (sz : Nat) : Met l yX0_eightBytes wsX0_eightBytes rm_R_eightBytes (va_Pc [.ref qr, .int (nI a), .int (nI cc)] (j_pre D (jT cb ci cz) [(qr, .inr (0, [.ref qd, .ref ql, .ref qn, .int (nI old), .int (nI us), .int (nI pr)])), (qd, .inl (cb, 480, .inl dk)), (ql, .inl (ci, 40, .inl L)), (qn, .inl (ci, 40, .inl N))] sz)) (va_Ql (fun (x : Int64) (_ : Unit) => x = je8 (fun b => if cc + b < w then yy (cc + b) else 0) 8) (j_post D (jT cb ci cz) (fun _ => [(qr, .inr (0, [.ref qd, .ref ql, .ref qn, .int (nI old), .int (nI us), .int (nI pr)])), (qd, .inl (cb, 480, .inl dk)), (ql, .inl (ci, 40, .inl L)), (qn, .inl (ci, 40, .inl N))]) (va_A [(qr, .inr (0, [.ref qd, .ref ql, .ref qn, .int (nI old), .int (nI us), .int (nI pr)])), (qd, .inl (cb, 480, .inl dk)), (ql, .inl (ci, 40, .inl L)), (qn, .inl (ci, 40, .inl N))] sz)) (va_A [(qr, .inr (0, [.ref qd, .ref ql, .ref qn, .int (nI old), .int (nI us), .int (nI pr)])), (qd, .inl (cb, 480, .inl dk)), (ql, .inl (ci, 40, .inl L)), (qn, .inl (ci, 40, .inl N))] sz)) 0 0 (va_A [(qr, .inr (0, [.ref qd, .ref ql, .ref qn, .int (nI old), .int (nI us), .int (nI pr)])), (qd, .inl (cb, 480, .inl dk)), (ql, .inl (ci, 40, .inl L)), (qn, .inl (ci, 40, .inl N))] sz) := by
  refine j_in (Qc := fun A => (va_Ql (fun (x : Int64) (_ : Unit) => x = je8 (fun b => if cc + b < w then yy (cc + b) else 0) 8) (j_post D (jT cb ci cz) (fun _ => [(qr, .inr (0, [.ref qd, .ref ql, .ref qn, .int (nI old), .int (nI us), .int (nI pr)])), (qd, .inl (cb, 480, .inl dk)), (ql, .inl (ci, 40, .inl L)), (qn, .inl (ci, 40, .inl N))]) A) A)) (cc := cX0_eightBytes) (maxL := 8) (ret := (some .long)) (by decide) rfl (Nat.le_of_ble_eq_true rfl) ?_
  intro p e s m av below meth c A ls H locs hx hb hr hml hts hown hlk hin hA hP hK hD hS hl
  have hown : s.vm.findClass RX0 = some m.cls := hown
  have hl : lv_has ls 8 [(0, .ref qr), (1, .int (nI a)), (2, .int (nI cc))] := hl
  refine lv_aload_n hx hb dX0_eightBytes_0 rfl (lv_at hl 0 rfl) ?_
  refine lv_iload_n hx hb dX0_eightBytes_1 rfl (lv_at hl 1 rfl) ?_
  refine j_calli (wr := []) hP hD hS hA [0, 1, 2, 3] [] rfl rfl (by decide) (by decide) (va_runV (As := [.int (nI a)]) (rest := []) ⟨hx, hb, hml, hown, hts⟩ (c_R_lengthAt l D cb ci cz qr qd ql qn dk L N old us pr a ha H.size) (cwV 1 hts gX0_eightBytes_X0_lengthAt rfl rfl rfl (by decide +kernel) ⟨Nat.le_of_ble_eq_true rfl, Nat.le_of_ble_eq_true rfl⟩) (j_preV (ci := 0) (q0 := 0) [0, 1, 2, 3] [0, 1, 2] hK hP hD rfl rfl rfl rfl rfl rfl) rfl rfl hl.1 rfl (lv_room (Nat.le_of_ble_eq_true rfl)) dX0_eightBytes_2 ⟨Nat.le_of_ble_eq_true rfl, Nat.le_of_ble_eq_true rfl⟩) (fun r2 u9 H locs hw hP hD hS => ?_)
  have hP : va_P D vwCl [(qr, .inr (0, [.ref qd, .ref ql, .ref qn, .int (nI old), .int (nI us), .int (nI pr)])), (qd, .inl (cb, 480, .inl dk)), (ql, .inl (ci, 40, .inl L)), (qn, .inl (ci, 40, .inl N))] H := hP
  have hD : va_D A [(qr, .inr (0, [.ref qd, .ref ql, .ref qn, .int (nI old), .int (nI us), .int (nI pr)])), (qd, .inl (cb, 480, .inl dk)), (ql, .inl (ci, 40, .inl L)), (qn, .inl (ci, 40, .inl N))] := hD
  have hw : r2 = (L a) := hw
  subst hw
  refine jt_i (y := nI w) hL ?_
  refine lv_istore_n (lv' := [(3, .int (nI w)), (0, .ref qr), (1, .int (nI a)), (2, .int (nI cc))]) hx hb dX0_eightBytes_5 rfl hl (by decide) rfl (fun ls hl => ?_)
  refine lv_iload_n hx hb dX0_eightBytes_6 rfl (lv_at hl 3 rfl) ?_
  refine lv_if_lt (tgt := 15) hx hb dX0_eightBytes_7 (by decide) (fun c_7_1 => ?_) (fun c_7_1 => ?_)
  · rw [← nI_0] at c_7_1
    rw [nI_ltI (show cc < 2 ^ 31 by omega) (show 0 < 2 ^ 31 by omega)] at c_7_1
    exfalso; omega
  · rw [← nI_0] at c_7_1
    rw [nI_ltI (show cc < 2 ^ 31 by omega) (show 0 < 2 ^ 31 by omega)] at c_7_1
    refine lv_iload_n hx hb dX0_eightBytes_10 rfl (lv_at hl 3 rfl) ?_
    refine lv_iload_n hx hb dX0_eightBytes_11 rfl (lv_at hl 0 rfl) ?_
    refine lv_icmp_lt (tgt := 17) hx hb dX0_eightBytes_12 (by decide) (fun c_12_2 => ?_) (fun c_12_2 => ?_)
    · rw [nI_ltI (show cc < 2 ^ 31 by omega) (show w < 2 ^ 31 by omega)] at c_12_2
      refine lv_lconst (v := 0) hx hb dX0_eightBytes_17 (by decide +kernel) ?_
      refine lv_lstore (lv' := [(4, .long (0 : Int64)), (3, .int (nI w)), (0, .ref qr), (1, .int (nI a)), (2, .int (nI cc))]) hx hb dX0_eightBytes_18 hl (by decide) rfl (fun ls hl => ?_)
      refine lv_iload_n hx hb dX0_eightBytes_20 rfl (lv_at hl 4 rfl) ?_
      refine lv_istore (lv' := [(6, .int (nI cc)), (4, .long (0 : Int64)), (3, .int (nI w)), (0, .ref qr), (1, .int (nI a)), (2, .int (nI cc))]) hx hb dX0_eightBytes_21 hl (by decide) rfl (fun ls hl => ?_)
      have LOOP23 : ∀ (fuel : Nat) (b : Nat) (hf : 8 < b + fuel) (hb8 : b ≤ 8) (hcw : cc < w) (H : Heap) (locs : List Loc), va_P D vwCl [(qr, .inr (0, [.ref qd, .ref ql, .ref qn, .int (nI old), .int (nI us), .int (nI pr)])), (qd, .inl (cb, 480, .inl dk)), (ql, .inl (ci, 40, .inl L)), (qn, .inl (ci, 40, .inl N))] H → va_D A [(qr, .inr (0, [.ref qd, .ref ql, .ref qn, .int (nI old), .int (nI us), .int (nI pr)])), (qd, .inl (cb, 480, .inl dk)), (ql, .inl (ci, 40, .inl L)), (qn, .inl (ci, 40, .inl N))] → va_S A s.heap H locs → ∀ ls : Array Slot, lv_has ls 8 [(0, .ref qr), (1, .int (nI a)), (2, .int (nI cc)), (3, .int (nI w)), (4, .long (je8 (fun b => if cc + b < w then yy (cc + b) else 0) b)), (6, .int (nI (cc + b)))] → W p l e rm_R_eightBytes s m av below meth c H locs 0 0 (MQ below (va_Ql (fun (x : Int64) (_ : Unit) => x = je8 (fun b => if cc + b < w then yy (cc + b) else 0) 8) (j_post D (jT cb ci cz) (fun _ => [(qr, .inr (0, [.ref qd, .ref ql, .ref qn, .int (nI old), .int (nI us), .int (nI pr)])), (qd, .inl (cb, 480, .inl dk)), (ql, .inl (ci, 40, .inl L)), (qn, .inl (ci, 40, .inl N))]) A) A) av s 0 0 A) (F0 m 23 ls []) := by
        clear hP hD hS hl
        intro fuel
        induction fuel with
        | zero => intro b hf hb8 hcw; exfalso; omega
        | succ fuel ih23 =>
          intro b hf hb8 hcw H locs hP hD hS ls hl
          refine lv_iload hx hb dX0_eightBytes_23 (lv_at hl 5 rfl) ?_
          refine lv_iload_n hx hb dX0_eightBytes_25 rfl (lv_at hl 2 rfl) ?_
          refine lv_bipush (v := (nI 8)) hx hb dX0_eightBytes_26 (by decide +kernel) ?_
          refine lv_iadd hx hb dX0_eightBytes_28 ?_
          refine jt_i (y := (nI (cc + 8))) (nI_add _ _) ?_
          refine lv_icmp_ge (tgt := 76) hx hb dX0_eightBytes_29 (by decide) (fun c_29_3 => ?_) (fun c_29_3 => ?_)
          · rw [nI_leI (show cc + 8 < 2 ^ 31 by omega) (show cc + b < 2 ^ 31 by omega)] at c_29_3
            have hbe : b = 8 := by omega
            rw [hbe] at hl
            refine lv_lload hx hb dX0_eightBytes_76 (lv_at hl 4 rfl) ?_
            exact j_lret (v := (je8 (fun b => if cc + b < w then yy (cc + b) else 0) 8)) (()) hx hb hr hlk hK hP hD hS (rfl) dX0_eightBytes_78
          · rw [nI_leI (show cc + 8 < 2 ^ 31 by omega) (show cc + b < 2 ^ 31 by omega)] at c_29_3
            refine lv_iload hx hb dX0_eightBytes_32 (lv_at hl 5 rfl) ?_
            refine lv_iload_n hx hb dX0_eightBytes_34 rfl (lv_at hl 3 rfl) ?_
            refine lv_icmp_ge (tgt := 56) hx hb dX0_eightBytes_35 (by decide) (fun c_35_4 => ?_) (fun c_35_4 => ?_)
            · rw [nI_leI (show w < 2 ^ 31 by omega) (show cc + b < 2 ^ 31 by omega)] at c_35_4
              refine lv_iconst (v := (nI 0)) hx hb dX0_eightBytes_56 (by decide +kernel) ?_
              refine lv_istore (lv' := [(7, .int (nI 0)), (0, .ref qr), (1, .int (nI a)), (2, .int (nI cc)), (3, .int (nI w)), (4, .long (je8 (fun b => if cc + b < w then yy (cc + b) else 0) b)), (6, .int (nI (cc + b)))]) hx hb dX0_eightBytes_57 hl (by decide) rfl (fun ls hl => ?_)
              refine lv_lload hx hb dX0_eightBytes_59 (lv_at hl 5 rfl) ?_
              refine lv_bipush (v := (nI 8)) hx hb dX0_eightBytes_61 (by decide +kernel) ?_
              refine lv_lshl hx hb dX0_eightBytes_63 rfl ?_
              refine lv_iload hx hb dX0_eightBytes_64 (lv_at hl 0 rfl) ?_
              refine lv_i2l hx hb dX0_eightBytes_66 rfl ?_
              refine lv_lor hx hb dX0_eightBytes_67 ?_
              refine jt_l (y := (je8 (fun b => if cc + b < w then yy (cc + b) else 0) (b + 1))) (by show _ = (je8 (fun b => if cc + b < w then yy (cc + b) else 0) b <<< _) ||| Int32.toInt64 (if cc + b < w then yy (cc + b) else 0); rw [if_neg (by omega)]; try rfl) ?_
              refine lv_lstore (lv' := [(4, .long (je8 (fun b => if cc + b < w then yy (cc + b) else 0) (b + 1))), (7, .int (nI 0)), (0, .ref qr), (1, .int (nI a)), (2, .int (nI cc)), (3, .int (nI w)), (6, .int (nI (cc + b)))]) hx hb dX0_eightBytes_68 hl (by decide) rfl (fun ls hl => ?_)
              refine lv_iinc (v := (nI (cc + b + 1))) (lv' := [(6, .int (nI (cc + b + 1))), (4, .long (je8 (fun b => if cc + b < w then yy (cc + b) else 0) (b + 1))), (7, .int (nI 0)), (0, .ref qr), (1, .int (nI a)), (2, .int (nI cc)), (3, .int (nI w))]) hx hb dX0_eightBytes_70 hl (k := 6) rfl (nI_1 _) (by decide) rfl (fun ls hl => ?_)
              refine lv_goto (tgt := 23) hx hb dX0_eightBytes_73 (by decide) ?_
              exact ih23 (b + 1) (by omega) (by omega) hcw _ _ hP hD hS ls (lv_sub hl [3, 4, 5, 6, 1, 0] rfl)
            · rw [nI_leI (show w < 2 ^ 31 by omega) (show cc + b < 2 ^ 31 by omega)] at c_35_4
              refine lv_aload_n hx hb dX0_eightBytes_38 rfl (lv_at hl 0 rfl) ?_
              refine va_get (D := D) (ci := 0) (v := .ref qd) (C := RX0) (T := TX0) (N := 6) hx hb hts (by decide +kernel) hown hK hP 0 rfl rfl 0 (by decide) (hts (.fieldLink RX0 11 "JournalDesk$Ring" "disk" "[B") (by decide +kernel)) (fun _ h9 => h9) rfl dX0_eightBytes_39 ?_
              refine lv_iload_n hx hb dX0_eightBytes_42 rfl (lv_at hl 1 rfl) ?_
              refine lv_iload hx hb dX0_eightBytes_43 (lv_at hl 5 rfl) ?_
              refine j_calli (wr := [(qr, .inr (0, [.ref qd, .ref ql, .ref qn, .int (nI old), .int (nI us), .int (nI pr)])), (qd, .inl (cb, 480, .inl dk)), (ql, .inl (ci, 40, .inl L)), (qn, .inl (ci, 40, .inl N))]) hP hD hS hA [] [0, 1, 2, 3] rfl rfl (by decide) (by decide) (va_runS (As := [.int (nI a), .int (nI (cc + b))]) (rest := [.ref qd]) ⟨hx, hb, hml, hown, hts⟩ (c_R_place l D cb ci cz a (cc + b) ha (by omega) H.size) (va_cwS 2 hts gX0_eightBytes_X0_place rfl rfl rfl (by decide +kernel) ⟨Nat.le_of_ble_eq_true rfl, Nat.le_of_ble_eq_true rfl⟩) (j_preS [] [0, 1, 2] hK hP hD rfl rfl rfl rfl) rfl rfl hl.1 rfl (lv_room (Nat.le_of_ble_eq_true rfl)) dX0_eightBytes_45 ⟨Nat.le_of_ble_eq_true rfl, Nat.le_of_ble_eq_true rfl⟩) (fun r45 u9 H locs hw hP hD hS => ?_)
              have hP : va_P D vwCl [(qr, .inr (0, [.ref qd, .ref ql, .ref qn, .int (nI old), .int (nI us), .int (nI pr)])), (qd, .inl (cb, 480, .inl dk)), (ql, .inl (ci, 40, .inl L)), (qn, .inl (ci, 40, .inl N))] H := hP
              have hD : va_D A [(qr, .inr (0, [.ref qd, .ref ql, .ref qn, .int (nI old), .int (nI us), .int (nI pr)])), (qd, .inl (cb, 480, .inl dk)), (ql, .inl (ci, 40, .inl L)), (qn, .inl (ci, 40, .inl N))] := hD
              have hw : r45 = (nI ((12 * a + (cc + b)) % 480)) := hw
              subst hw
              refine j_bald hx hb hK hP 1 0 rfl rfl (i := (12 * a + (cc + b)) % 480) (Nat.mod_lt _ (by decide)) (by decide) (v := (dk ((12 * a + (cc + b)) % 480))) (rfl) dX0_eightBytes_48 ?_
              refine lv_sipush (v := (nI 255)) hx hb dX0_eightBytes_49 (by decide +kernel) ?_
              refine lv_iand hx hb dX0_eightBytes_52 ?_
              refine jt_i (y := (yy (cc + b))) (hyy (cc + b) (by omega)) ?_
              refine lv_goto (tgt := 57) hx hb dX0_eightBytes_53 (by decide) ?_
              refine lv_istore (lv' := [(7, .int (yy (cc + b))), (0, .ref qr), (1, .int (nI a)), (2, .int (nI cc)), (3, .int (nI w)), (4, .long (je8 (fun b => if cc + b < w then yy (cc + b) else 0) b)), (6, .int (nI (cc + b)))]) hx hb dX0_eightBytes_57 hl (by decide) rfl (fun ls hl => ?_)
              refine lv_lload hx hb dX0_eightBytes_59 (lv_at hl 5 rfl) ?_
              refine lv_bipush (v := (nI 8)) hx hb dX0_eightBytes_61 (by decide +kernel) ?_
              refine lv_lshl hx hb dX0_eightBytes_63 rfl ?_
              refine lv_iload hx hb dX0_eightBytes_64 (lv_at hl 0 rfl) ?_
              refine lv_i2l hx hb dX0_eightBytes_66 rfl ?_
              refine lv_lor hx hb dX0_eightBytes_67 ?_
              refine jt_l (y := (je8 (fun b => if cc + b < w then yy (cc + b) else 0) (b + 1))) (by show _ = (je8 (fun b => if cc + b < w then yy (cc + b) else 0) b <<< _) ||| Int32.toInt64 (if cc + b < w then yy (cc + b) else 0); rw [if_pos (by omega)]; try rfl) ?_
              refine lv_lstore (lv' := [(4, .long (je8 (fun b => if cc + b < w then yy (cc + b) else 0) (b + 1))), (7, .int (yy (cc + b))), (0, .ref qr), (1, .int (nI a)), (2, .int (nI cc)), (3, .int (nI w)), (6, .int (nI (cc + b)))]) hx hb dX0_eightBytes_68 hl (by decide) rfl (fun ls hl => ?_)
              refine lv_iinc (v := (nI (cc + b + 1))) (lv' := [(6, .int (nI (cc + b + 1))), (4, .long (je8 (fun b => if cc + b < w then yy (cc + b) else 0) (b + 1))), (7, .int (yy (cc + b))), (0, .ref qr), (1, .int (nI a)), (2, .int (nI cc)), (3, .int (nI w))]) hx hb dX0_eightBytes_70 hl (k := 6) rfl (nI_1 _) (by decide) rfl (fun ls hl => ?_)
              refine lv_goto (tgt := 23) hx hb dX0_eightBytes_73 (by decide) ?_
              exact ih23 (b + 1) (by omega) (by omega) hcw _ _ hP hD hS ls (lv_sub hl [3, 4, 5, 6, 1, 0] rfl)
      exact LOOP23 9 0 (by omega) (by omega) (by omega) _ _ hP hD hS ls (lv_sub hl [3, 4, 5, 2, 1, 0] rfl)
    · rw [nI_ltI (show cc < 2 ^ 31 by omega) (show w < 2 ^ 31 by omega)] at c_12_2
      refine lv_lconst (v := 0) hx hb dX0_eightBytes_15 (by decide +kernel) ?_
      exact j_lret (v := (0 : Int64)) (()) hx hb hr hlk hK hP hD hS (((je8_congr 8 (fun j _ => if_neg (by omega))).trans (je8_0 8)).symm) dX0_eightBytes_16
