abbrev rm_M_drop : Room := { frames := 2, cells := 0, slots := 0, locals := 42 }
set_option maxHeartbeats 4000000 in
set_option maxRecDepth 100000 in
/-- drop, in the reference -/
theorem c_M_drop (l : Launch) (D : va_G) (cb ci cz : ClassId) (g0 mt mb mz mn my : Nat) (tp fB fZ fN fY : Nat → Int32) (n : Nat) (t : Nat → Int32) (k : Nat) (r : Nat → Bool) (z : Nat → Nat) (u : Nat → Int32) (y : Nat → Nat → Int32) (nx wh : Int32) (pw ct : Bool) (cu : Int32) (mv : Int32) (hn : n ≤ 100) (ht : ∀ j, j < n → tp j = t j) (hus : js (jse r z) k ≤ 40) (hz : ∀ j, j < k → z j ≤ 100) (hE : jE fB fZ fN fY k r z u y) (hcu : cu = -1 ↔ ct = false) (sz : Nat) : Met l yX2_drop wsX2_drop2 rm_M_drop (va_Pc [.ref g0, .int mv] (j_pre D (jT cb ci cz) [(g0, .inr (2, [.ref mt, .int (nI n), .int (nI k), .ref mb, .ref mz, .ref mn, .ref my, .int nx, .int wh, .int (jbi (!pw)), .int cu])), (mt, .inl (ci, 100, .inl tp)), (mb, .inl (cz, 41, .inl fB)), (mz, .inl (ci, 41, .inl fZ)), (mn, .inl (ci, 41, .inl fN)), (my, .inl (ci, 4100, .inl fY))] sz)) (va_Qi (fun (x : Int32) (a : jMt) => x = (jop_dr ((n, t), (k, r, z, u, y), (nx, wh, pw, ct)) mv).1 ∧ jMk (jop_dr ((n, t), (k, r, z, u, y), (nx, wh, pw, ct)) mv).2 a) (j_post D (jT cb ci cz) (jMw g0 mt mb mz mn my ci cz) (va_A [(g0, .inr (2, [.ref mt, .int (nI n), .int (nI k), .ref mb, .ref mz, .ref mn, .ref my, .int nx, .int wh, .int (jbi (!pw)), .int cu])), (mt, .inl (ci, 100, .inl tp)), (mb, .inl (cz, 41, .inl fB)), (mz, .inl (ci, 41, .inl fZ)), (mn, .inl (ci, 41, .inl fN)), (my, .inl (ci, 4100, .inl fY))] sz)) (va_A [(g0, .inr (2, [.ref mt, .int (nI n), .int (nI k), .ref mb, .ref mz, .ref mn, .ref my, .int nx, .int wh, .int (jbi (!pw)), .int cu])), (mt, .inl (ci, 100, .inl tp)), (mb, .inl (cz, 41, .inl fB)), (mz, .inl (ci, 41, .inl fZ)), (mn, .inl (ci, 41, .inl fN)), (my, .inl (ci, 4100, .inl fY))] sz)) 0 0 (va_A [(g0, .inr (2, [.ref mt, .int (nI n), .int (nI k), .ref mb, .ref mz, .ref mn, .ref my, .int nx, .int wh, .int (jbi (!pw)), .int cu])), (mt, .inl (ci, 100, .inl tp)), (mb, .inl (cz, 41, .inl fB)), (mz, .inl (ci, 41, .inl fZ)), (mn, .inl (ci, 41, .inl fN)), (my, .inl (ci, 4100, .inl fY))] sz) := by
  refine j_in (Qc := fun A => (va_Qi (fun (x : Int32) (a : jMt) => x = (jop_dr ((n, t), (k, r, z, u, y), (nx, wh, pw, ct)) mv).1 ∧ jMk (jop_dr ((n, t), (k, r, z, u, y), (nx, wh, pw, ct)) mv).2 a) (j_post D (jT cb ci cz) (jMw g0 mt mb mz mn my ci cz) A) A)) (cc := cX2_drop) (maxL := 7) (ret := (some .int)) (by decide) rfl (Nat.le_of_ble_eq_true rfl) ?_
  intro p e s m av below meth c A ls H locs hx hb hr hml hts hown hlk hin hA hP hK hD hS hl
  have hown : s.vm.findClass RX2 = some m.cls := hown
  have hl : lv_has ls 7 [(0, .ref g0), (1, .int mv)] := hl
  have hk40 : k ≤ 40 := Nat.le_trans (js_ge (jse_pos r z) k) hus
  have hfk := fun mm => jdrF_le k r mm
  refine lv_aload_n hx hb dX2_drop_0 rfl (lv_at hl 0 rfl) ?_
  refine va_get (D := D) (ci := 2) (v := .int (jbi (!pw))) (C := RX2) (T := TX2) (N := 11) hx hb hts (by decide +kernel) hown hK hP 0 rfl rfl 9 (by decide) (hts (.fieldLink RX2 40 "JournalDeskModel" "off" "Z") (by decide +kernel)) (fun _ h9 => h9) rfl dX2_drop_1 ?_
  refine lv_if_ne (tgt := 30) hx hb dX2_drop_4 (by decide) (fun c_4_1 => ?_) (fun c_4_1 => ?_)
  · have hpw : pw = false := jbn_t c_4_1
    have href : pw = false ∨ mv < 0 ∨ nI (js (jcn r) k) < mv ∨ 40 < js (jse r z) k + 1 := Or.inl hpw
    refine lv_iconst (v := (-1)) hx hb dX2_drop_30 (by decide +kernel) ?_
    exact j_iret (v := (-1)) ((tp, fB, fZ, fN, fY, n, k, nx, wh, (jbi (!pw)), cu)) hx hb hr hlk hK hP hD hS (by rw [jdr_ref href]; exact ⟨rfl, jMk_i rfl hn ht rfl hus hz hE rfl rfl rfl hcu⟩) dX2_drop_31
  · have hpw : pw = true := jbn_f c_4_1
    refine lv_iload_n hx hb dX2_drop_7 rfl (lv_at hl 1 rfl) ?_
    refine lv_if_lt (tgt := 30) hx hb dX2_drop_8 (by decide) (fun c_8_2 => ?_) (fun c_8_2 => ?_)
    · have href : pw = false ∨ mv < 0 ∨ nI (js (jcn r) k) < mv ∨ 40 < js (jse r z) k + 1 := Or.inr (Or.inl c_8_2)
      refine lv_iconst (v := (-1)) hx hb dX2_drop_30 (by decide +kernel) ?_
      exact j_iret (v := (-1)) ((tp, fB, fZ, fN, fY, n, k, nx, wh, (jbi (!pw)), cu)) hx hb hr hlk hK hP hD hS (by rw [jdr_ref href]; exact ⟨rfl, jMk_i rfl hn ht rfl hus hz hE rfl rfl rfl hcu⟩) dX2_drop_31
    · have h0m := c_8_2
      refine lv_iload_n hx hb dX2_drop_11 rfl (lv_at hl 1 rfl) ?_
      refine lv_aload_n hx hb dX2_drop_12 rfl (lv_at hl 0 rfl) ?_
      refine j_calli (wr := []) hP hD hS hA [0, 1, 2, 3, 4, 5] [] rfl rfl (by decide) (by decide) (va_runV (As := []) (rest := [.int mv]) ⟨hx, hb, hml, hown, hts⟩ (c_M_records l D cb ci cz g0 mt mb mz mn my tp fB fZ fN fY n k nx wh (jbi (!pw)) cu r hE.1 (by omega) H.size) (cwV 0 hts hq2_drop_X2_records rfl rfl rfl (by decide +kernel) ⟨Nat.le_of_ble_eq_true rfl, Nat.le_of_ble_eq_true rfl⟩) (j_preV (ci := 2) (q0 := 0) [0, 1, 2, 3, 4, 5] [0, 1, 2] hK hP hD rfl rfl rfl rfl rfl rfl) rfl rfl hl.1 rfl (lv_room (Nat.le_of_ble_eq_true rfl)) dX2_drop_13 ⟨Nat.le_of_ble_eq_true rfl, Nat.le_of_ble_eq_true rfl⟩) (fun r13 u9 H locs hw hP hD hS => ?_)
      have hP : va_P D vwCl [(g0, .inr (2, [.ref mt, .int (nI n), .int (nI k), .ref mb, .ref mz, .ref mn, .ref my, .int nx, .int wh, .int (jbi (!pw)), .int cu])), (mt, .inl (ci, 100, .inl tp)), (mb, .inl (cz, 41, .inl fB)), (mz, .inl (ci, 41, .inl fZ)), (mn, .inl (ci, 41, .inl fN)), (my, .inl (ci, 4100, .inl fY))] H := hP
      have hD : va_D A [(g0, .inr (2, [.ref mt, .int (nI n), .int (nI k), .ref mb, .ref mz, .ref mn, .ref my, .int nx, .int wh, .int (jbi (!pw)), .int cu])), (mt, .inl (ci, 100, .inl tp)), (mb, .inl (cz, 41, .inl fB)), (mz, .inl (ci, 41, .inl fZ)), (mn, .inl (ci, 41, .inl fN)), (my, .inl (ci, 4100, .inl fY))] := hD
      have hw : r13 = (nI (js (jcn r) k)) := hw
      subst hw
      refine lv_icmp_gt (tgt := 30) hx hb dX2_drop_16 (by decide) (fun c_16_3 => ?_) (fun c_16_3 => ?_)
      · have href : pw = false ∨ mv < 0 ∨ nI (js (jcn r) k) < mv ∨ 40 < js (jse r z) k + 1 := Or.inr (Or.inr (Or.inl c_16_3))
        refine lv_iconst (v := (-1)) hx hb dX2_drop_30 (by decide +kernel) ?_
        exact j_iret (v := (-1)) ((tp, fB, fZ, fN, fY, n, k, nx, wh, (jbi (!pw)), cu)) hx hb hr hlk hK hP hD hS (by rw [jdr_ref href]; exact ⟨rfl, jMk_i rfl hn ht rfl hus hz hE rfl rfl rfl hcu⟩) dX2_drop_31
      · have h1m := c_16_3
        obtain ⟨mm, hm31, hmv⟩ := nI_of h0m
        have hmm : mm ≤ js (jcn r) k := by
          have q := jct_le r k
          have q3 := h1m
          rw [hmv, nI_ltI (by omega) hm31] at q3
          omega
        rw [hmv] at hl
        refine lv_aload_n hx hb dX2_drop_19 rfl (lv_at hl 0 rfl) ?_
        refine j_calli (wr := []) hP hD hS hA [0, 1, 2, 3, 4, 5] [] rfl rfl (by decide) (by decide) (va_runV (As := []) (rest := []) ⟨hx, hb, hml, hown, hts⟩ (c_M_used l D cb ci cz g0 mt mb mz mn my tp fB fZ fN fY n k nx wh (jbi (!pw)) cu r z hE.1 (by omega) hE.2.1 hz H.size) (cwV 0 hts hq2_drop_X2_used rfl rfl rfl (by decide +kernel) ⟨Nat.le_of_ble_eq_true rfl, Nat.le_of_ble_eq_true rfl⟩) (j_preV (ci := 2) (q0 := 0) [0, 1, 2, 3, 4, 5] [0, 1, 2] hK hP hD rfl rfl rfl rfl rfl rfl) rfl rfl hl.1 rfl (lv_room (Nat.le_of_ble_eq_true rfl)) dX2_drop_20 ⟨Nat.le_of_ble_eq_true rfl, Nat.le_of_ble_eq_true rfl⟩) (fun r20 u9 H locs hw hP hD hS => ?_)
        have hP : va_P D vwCl [(g0, .inr (2, [.ref mt, .int (nI n), .int (nI k), .ref mb, .ref mz, .ref mn, .ref my, .int nx, .int wh, .int (jbi (!pw)), .int cu])), (mt, .inl (ci, 100, .inl tp)), (mb, .inl (cz, 41, .inl fB)), (mz, .inl (ci, 41, .inl fZ)), (mn, .inl (ci, 41, .inl fN)), (my, .inl (ci, 4100, .inl fY))] H := hP
        have hD : va_D A [(g0, .inr (2, [.ref mt, .int (nI n), .int (nI k), .ref mb, .ref mz, .ref mn, .ref my, .int nx, .int wh, .int (jbi (!pw)), .int cu])), (mt, .inl (ci, 100, .inl tp)), (mb, .inl (cz, 41, .inl fB)), (mz, .inl (ci, 41, .inl fZ)), (mn, .inl (ci, 41, .inl fN)), (my, .inl (ci, 4100, .inl fY))] := hD
        have hw : r20 = (nI (js (jse r z) k)) := hw
        subst hw
        refine lv_iconst (v := (nI 1)) hx hb dX2_drop_23 (by decide +kernel) ?_
        refine lv_iadd hx hb dX2_drop_24 ?_
        refine jt_i (y := (nI ((js (jse r z) k) + 1))) (nI_add _ _) ?_
        refine lv_bipush (v := (nI 40)) hx hb dX2_drop_25 (by decide +kernel) ?_
        refine lv_icmp_le (tgt := 32) hx hb dX2_drop_27 (by decide) (fun c_27_4 => ?_) (fun c_27_4 => ?_)
        · rw [nI_leI (show (js (jse r z) k) + 1 < 2 ^ 31 by omega) (show 40 < 2 ^ 31 by omega)] at c_27_4
          have hfit := c_27_4
          refine lv_aload_n hx hb dX2_drop_32 rfl (lv_at hl 0 rfl) ?_
          refine j_calli (wr := []) hP hD hS hA [0, 1, 2, 3, 4, 5] [] rfl rfl (by decide) (by decide) (va_runV (As := []) (rest := []) ⟨hx, hb, hml, hown, hts⟩ (c_M_isCut l D cb ci cz g0 mt mb mz mn my tp fB fZ fN fY n k nx wh (jbi (!pw)) cu ct hcu H.size) (cwV 0 hts hq2_drop_X2_isCut rfl rfl rfl (by decide +kernel) ⟨Nat.le_of_ble_eq_true rfl, Nat.le_of_ble_eq_true rfl⟩) (j_preV (ci := 2) (q0 := 0) [0, 1, 2, 3, 4, 5] [0, 1, 2] hK hP hD rfl rfl rfl rfl rfl rfl) rfl rfl hl.1 rfl (lv_room (Nat.le_of_ble_eq_true rfl)) dX2_drop_33 ⟨Nat.le_of_ble_eq_true rfl, Nat.le_of_ble_eq_true rfl⟩) (fun r33 a9 H locs hw hP hD hS => ?_)
          obtain ⟨o1, q1⟩ := a9
          have hP : va_P D vwCl [(g0, .inr (2, [.ref mt, .int (nI n), .int (nI k), .ref mb, .ref mz, .ref mn, .ref my, .int nx, .int wh, .int o1, .int q1])), (mt, .inl (ci, 100, .inl tp)), (mb, .inl (cz, 41, .inl fB)), (mz, .inl (ci, 41, .inl fZ)), (mn, .inl (ci, 41, .inl fN)), (my, .inl (ci, 4100, .inl fY))] H := hP
          have hD : va_D A [(g0, .inr (2, [.ref mt, .int (nI n), .int (nI k), .ref mb, .ref mz, .ref mn, .ref my, .int nx, .int wh, .int o1, .int q1])), (mt, .inl (ci, 100, .inl tp)), (mb, .inl (cz, 41, .inl fB)), (mz, .inl (ci, 41, .inl fZ)), (mn, .inl (ci, 41, .inl fN)), (my, .inl (ci, 4100, .inl fY))] := hD
          obtain ⟨hwx, hwf, hwt⟩ := hw
          refine jt_i (y := jbi ct) hwx ?_
          refine lv_if_eq (tgt := 42) hx hb dX2_drop_36 (by decide) (fun c_36_5 => ?_) (fun c_36_5 => ?_)
          · have hct : ct = false := jbi_0.mp c_36_5
            obtain ⟨ho1, hq1⟩ := Prod.mk.inj (hwf hct)
            rw [ho1, hq1] at hP hD
            refine lv_aload_n hx hb dX2_drop_42 rfl (lv_at hl 0 rfl) ?_
            refine lv_aload_n hx hb dX2_drop_43 rfl (lv_at hl 0 rfl) ?_
            refine va_get (D := D) (ci := 2) (v := .int wh) (C := RX2) (T := TX2) (N := 11) hx hb hts (by decide +kernel) hown hK hP 0 rfl rfl 8 (by decide) (hts (.fieldLink RX2 55 "JournalDeskModel" "whole" "I") (by decide +kernel)) (fun _ h9 => h9) rfl dX2_drop_44 ?_
            refine lv_iconst (v := (nI 1)) hx hb dX2_drop_47 (by decide +kernel) ?_
            refine lv_iadd hx hb dX2_drop_48 ?_
            refine jt_i (y := (wh + 1)) (rfl) ?_
            refine va_put (D := D) (ci := 2) (v := .int (wh + 1)) (ty := .int) (C := RX2) (T := TX2) (N := 11) hx hb hts (by decide +kernel) tyX2 tyX2_ok nmX2 hown hK hP hD hS 0 rfl rfl 8 (by decide) (hts (.fieldLink RX2 55 "JournalDeskModel" "whole" "I") (by decide +kernel)) (fun _ h9 => h9) rfl (by decide +kernel) (rfl) (rfl) (Nat.le_of_ble_eq_true rfl) dX2_drop_49 (fun H locs hP hD hS => ?_)
            have hP : va_P D vwCl [(g0, .inr (2, [.ref mt, .int (nI n), .int (nI k), .ref mb, .ref mz, .ref mn, .ref my, .int nx, .int (wh + 1), .int (jbi (!pw)), .int cu])), (mt, .inl (ci, 100, .inl tp)), (mb, .inl (cz, 41, .inl fB)), (mz, .inl (ci, 41, .inl fZ)), (mn, .inl (ci, 41, .inl fN)), (my, .inl (ci, 4100, .inl fY))] H := hP
            have hD : va_D A [(g0, .inr (2, [.ref mt, .int (nI n), .int (nI k), .ref mb, .ref mz, .ref mn, .ref my, .int nx, .int (wh + 1), .int (jbi (!pw)), .int cu])), (mt, .inl (ci, 100, .inl tp)), (mb, .inl (cz, 41, .inl fB)), (mz, .inl (ci, 41, .inl fZ)), (mn, .inl (ci, 41, .inl fN)), (my, .inl (ci, 4100, .inl fY))] := hD
            refine lv_aload_n hx hb dX2_drop_52 rfl (lv_at hl 0 rfl) ?_
            refine va_get (D := D) (ci := 2) (v := .ref mb) (C := RX2) (T := TX2) (N := 11) hx hb hts (by decide +kernel) hown hK hP 0 rfl rfl 3 (by decide) (hts (.fieldLink RX2 13 "JournalDeskModel" "isRecord" "[Z") (by decide +kernel)) (fun _ h9 => h9) rfl dX2_drop_53 ?_
            refine lv_aload_n hx hb dX2_drop_56 rfl (lv_at hl 0 rfl) ?_
            refine va_get (D := D) (ci := 2) (v := .int (nI k)) (C := RX2) (T := TX2) (N := 11) hx hb hts (by decide +kernel) hown hK hP 0 rfl rfl 2 (by decide) (hts (.fieldLink RX2 33 "JournalDeskModel" "kept" "I") (by decide +kernel)) (fun _ h9 => h9) rfl dX2_drop_57 ?_
            refine lv_iconst (v := (nI 0)) hx hb dX2_drop_60 (by decide +kernel) ?_
            refine j_zast hx hb hK hP hD hS 2 2 rfl rfl (i := k) (by omega) (by decide) (by decide +kernel) dX2_drop_61 (fun H locs hP hD hS => ?_)
            have hP : va_P D vwCl [(g0, .inr (2, [.ref mt, .int (nI n), .int (nI k), .ref mb, .ref mz, .ref mn, .ref my, .int nx, .int (wh + 1), .int (jbi (!pw)), .int cu])), (mt, .inl (ci, 100, .inl tp)), (mb, .inl (cz, 41, .inl (upd fB k (nI 0)))), (mz, .inl (ci, 41, .inl fZ)), (mn, .inl (ci, 41, .inl fN)), (my, .inl (ci, 4100, .inl fY))] H := hP
            have hD : va_D A [(g0, .inr (2, [.ref mt, .int (nI n), .int (nI k), .ref mb, .ref mz, .ref mn, .ref my, .int nx, .int (wh + 1), .int (jbi (!pw)), .int cu])), (mt, .inl (ci, 100, .inl tp)), (mb, .inl (cz, 41, .inl (upd fB k (nI 0)))), (mz, .inl (ci, 41, .inl fZ)), (mn, .inl (ci, 41, .inl fN)), (my, .inl (ci, 4100, .inl fY))] := hD
            refine lv_aload_n hx hb dX2_drop_62 rfl (lv_at hl 0 rfl) ?_
            refine va_get (D := D) (ci := 2) (v := .ref mz) (C := RX2) (T := TX2) (N := 11) hx hb hts (by decide +kernel) hown hK hP 0 rfl rfl 4 (by decide) (hts (.fieldLink RX2 17 "JournalDeskModel" "sizes" "[I") (by decide +kernel)) (fun _ h9 => h9) rfl dX2_drop_63 ?_
            refine lv_aload_n hx hb dX2_drop_66 rfl (lv_at hl 0 rfl) ?_
            refine va_get (D := D) (ci := 2) (v := .int (nI k)) (C := RX2) (T := TX2) (N := 11) hx hb hts (by decide +kernel) hown hK hP 0 rfl rfl 2 (by decide) (hts (.fieldLink RX2 33 "JournalDeskModel" "kept" "I") (by decide +kernel)) (fun _ h9 => h9) rfl dX2_drop_67 ?_
            refine lv_iconst (v := (nI 0)) hx hb dX2_drop_70 (by decide +kernel) ?_
            refine j_iast hx hb hK hP hD hS 3 1 rfl rfl (i := k) (by omega) (by decide) dX2_drop_71 (fun H locs hP hD hS => ?_)
            have hP : va_P D vwCl [(g0, .inr (2, [.ref mt, .int (nI n), .int (nI k), .ref mb, .ref mz, .ref mn, .ref my, .int nx, .int (wh + 1), .int (jbi (!pw)), .int cu])), (mt, .inl (ci, 100, .inl tp)), (mb, .inl (cz, 41, .inl (upd fB k (nI 0)))), (mz, .inl (ci, 41, .inl (upd fZ k (nI 0)))), (mn, .inl (ci, 41, .inl fN)), (my, .inl (ci, 4100, .inl fY))] H := hP
            have hD : va_D A [(g0, .inr (2, [.ref mt, .int (nI n), .int (nI k), .ref mb, .ref mz, .ref mn, .ref my, .int nx, .int (wh + 1), .int (jbi (!pw)), .int cu])), (mt, .inl (ci, 100, .inl tp)), (mb, .inl (cz, 41, .inl (upd fB k (nI 0)))), (mz, .inl (ci, 41, .inl (upd fZ k (nI 0)))), (mn, .inl (ci, 41, .inl fN)), (my, .inl (ci, 4100, .inl fY))] := hD
            refine lv_aload_n hx hb dX2_drop_72 rfl (lv_at hl 0 rfl) ?_
            refine lv_aload_n hx hb dX2_drop_73 rfl (lv_at hl 0 rfl) ?_
            refine va_get (D := D) (ci := 2) (v := .int (nI k)) (C := RX2) (T := TX2) (N := 11) hx hb hts (by decide +kernel) hown hK hP 0 rfl rfl 2 (by decide) (hts (.fieldLink RX2 33 "JournalDeskModel" "kept" "I") (by decide +kernel)) (fun _ h9 => h9) rfl dX2_drop_74 ?_
            refine lv_iconst (v := (nI 1)) hx hb dX2_drop_77 (by decide +kernel) ?_
            refine lv_iadd hx hb dX2_drop_78 ?_
            refine jt_i (y := (nI (k + 1))) (nI_add _ _) ?_
            refine va_put (D := D) (ci := 2) (v := .int (nI (k + 1))) (ty := .int) (C := RX2) (T := TX2) (N := 11) hx hb hts (by decide +kernel) tyX2 tyX2_ok nmX2 hown hK hP hD hS 0 rfl rfl 2 (by decide) (hts (.fieldLink RX2 33 "JournalDeskModel" "kept" "I") (by decide +kernel)) (fun _ h9 => h9) rfl (by decide +kernel) (rfl) (rfl) (Nat.le_of_ble_eq_true rfl) dX2_drop_79 (fun H locs hP hD hS => ?_)
            have hP : va_P D vwCl [(g0, .inr (2, [.ref mt, .int (nI n), .int (nI (k + 1)), .ref mb, .ref mz, .ref mn, .ref my, .int nx, .int (wh + 1), .int (jbi (!pw)), .int cu])), (mt, .inl (ci, 100, .inl tp)), (mb, .inl (cz, 41, .inl (upd fB k (nI 0)))), (mz, .inl (ci, 41, .inl (upd fZ k (nI 0)))), (mn, .inl (ci, 41, .inl fN)), (my, .inl (ci, 4100, .inl fY))] H := hP
            have hD : va_D A [(g0, .inr (2, [.ref mt, .int (nI n), .int (nI (k + 1)), .ref mb, .ref mz, .ref mn, .ref my, .int nx, .int (wh + 1), .int (jbi (!pw)), .int cu])), (mt, .inl (ci, 100, .inl tp)), (mb, .inl (cz, 41, .inl (upd fB k (nI 0)))), (mz, .inl (ci, 41, .inl (upd fZ k (nI 0)))), (mn, .inl (ci, 41, .inl fN)), (my, .inl (ci, 4100, .inl fY))] := hD
            refine lv_aload_n hx hb dX2_drop_82 rfl (lv_at hl 0 rfl) ?_
            have hE1 := jE_drp hE
            refine j_calli (wr := []) hP hD hS hA [0, 1, 2, 3, 4, 5] [] rfl rfl (by decide) (by decide) (va_runV (As := []) (rest := []) ⟨hx, hb, hml, hown, hts⟩ (c_M_records l D cb ci cz g0 mt mb mz mn my tp (upd fB k (nI 0)) (upd fZ k (nI 0)) fN fY n (k + 1) nx (wh + 1) (jbi (!pw)) cu (va_up r k false) hE1.1 (by omega) H.size) (cwV 0 hts hq2_drop_X2_records rfl rfl rfl (by decide +kernel) ⟨Nat.le_of_ble_eq_true rfl, Nat.le_of_ble_eq_true rfl⟩) (j_preV (ci := 2) (q0 := 0) [0, 1, 2, 3, 4, 5] [0, 1, 2] hK hP hD rfl rfl rfl rfl rfl rfl) rfl rfl hl.1 rfl (lv_room (Nat.le_of_ble_eq_true rfl)) dX2_drop_83 ⟨Nat.le_of_ble_eq_true rfl, Nat.le_of_ble_eq_true rfl⟩) (fun r83 u9 H locs hw hP hD hS => ?_)
            have hP : va_P D vwCl [(g0, .inr (2, [.ref mt, .int (nI n), .int (nI (k + 1)), .ref mb, .ref mz, .ref mn, .ref my, .int nx, .int (wh + 1), .int (jbi (!pw)), .int cu])), (mt, .inl (ci, 100, .inl tp)), (mb, .inl (cz, 41, .inl (upd fB k (nI 0)))), (mz, .inl (ci, 41, .inl (upd fZ k (nI 0)))), (mn, .inl (ci, 41, .inl fN)), (my, .inl (ci, 4100, .inl fY))] H := hP
            have hD : va_D A [(g0, .inr (2, [.ref mt, .int (nI n), .int (nI (k + 1)), .ref mb, .ref mz, .ref mn, .ref my, .int nx, .int (wh + 1), .int (jbi (!pw)), .int cu])), (mt, .inl (ci, 100, .inl tp)), (mb, .inl (cz, 41, .inl (upd fB k (nI 0)))), (mz, .inl (ci, 41, .inl (upd fZ k (nI 0)))), (mn, .inl (ci, 41, .inl fN)), (my, .inl (ci, 4100, .inl fY))] := hD
            have hw : r83 = (nI (js (jcn (va_up r k false)) (k + 1))) := hw
            subst hw
            refine lv_iload_n hx hb dX2_drop_86 rfl (lv_at hl 1 rfl) ?_
            refine lv_isub hx hb dX2_drop_87 ?_
            refine jt_i (y := (nI (js (jcn r) k - mm))) (by rw [jcn_drp]; exact pk_sub hmm) ?_
            refine lv_istore_n (lv' := [(2, .int (nI (js (jcn r) k - mm))), (0, .ref g0), (1, .int (nI mm))]) hx hb dX2_drop_88 rfl hl (by decide) rfl (fun ls hl => ?_)
            refine lv_aload_n hx hb dX2_drop_89 rfl (lv_at hl 1 rfl) ?_
            refine va_get (D := D) (ci := 2) (v := .int (nI (k + 1))) (C := RX2) (T := TX2) (N := 11) hx hb hts (by decide +kernel) hown hK hP 0 rfl rfl 2 (by decide) (hts (.fieldLink RX2 33 "JournalDeskModel" "kept" "I") (by decide +kernel)) (fun _ h9 => h9) rfl dX2_drop_90 ?_
            refine lv_iconst (v := (nI 1)) hx hb dX2_drop_93 (by decide +kernel) ?_
            refine lv_isub hx hb dX2_drop_94 ?_
            refine jt_i (y := (nI k)) (pk_sub (Nat.le_add_left 1 k)) ?_
            refine lv_istore_n (lv' := [(3, .int (nI k)), (2, .int (nI (js (jcn r) k - mm))), (0, .ref g0), (1, .int (nI mm))]) hx hb dX2_drop_95 rfl hl (by decide) rfl (fun ls hl => ?_)
            refine lv_aload_n hx hb dX2_drop_96 rfl (lv_at hl 2 rfl) ?_
            refine va_get (D := D) (ci := 2) (v := .int (nI (k + 1))) (C := RX2) (T := TX2) (N := 11) hx hb hts (by decide +kernel) hown hK hP 0 rfl rfl 2 (by decide) (hts (.fieldLink RX2 33 "JournalDeskModel" "kept" "I") (by decide +kernel)) (fun _ h9 => h9) rfl dX2_drop_97 ?_
            refine lv_iconst (v := (nI 1)) hx hb dX2_drop_100 (by decide +kernel) ?_
            refine lv_isub hx hb dX2_drop_101 ?_
            refine jt_i (y := ((nI (k + 1)) + (-1))) (j_m1sub (k + 1)) ?_
            refine lv_istore (lv' := [(4, .int ((nI (k + 1)) + (-1))), (3, .int (nI k)), (2, .int (nI (js (jcn r) k - mm))), (0, .ref g0), (1, .int (nI mm))]) hx hb dX2_drop_102 hl (by decide) rfl (fun ls hl => ?_)
            have LOOP104 : ∀ (fuel : Nat) (i : Nat) (d : Nat) (hf : i < fuel) (hik : i ≤ k + 1) (hdk : d ≤ k) (hfin : jfs (jPd (va_up r k false) mm) d i = jdrF k r mm) (H : Heap) (locs : List Loc), va_P D vwCl [(g0, .inr (2, [.ref mt, .int (nI n), .int (nI (k + 1)), .ref mb, .ref mz, .ref mn, .ref my, .int nx, .int (wh + 1), .int (jbi (!pw)), .int cu])), (mt, .inl (ci, 100, .inl tp)), (mb, .inl (cz, 41, .inl (upd fB k (nI 0)))), (mz, .inl (ci, 41, .inl (upd fZ k (nI 0)))), (mn, .inl (ci, 41, .inl fN)), (my, .inl (ci, 4100, .inl fY))] H → va_D A [(g0, .inr (2, [.ref mt, .int (nI n), .int (nI (k + 1)), .ref mb, .ref mz, .ref mn, .ref my, .int nx, .int (wh + 1), .int (jbi (!pw)), .int cu])), (mt, .inl (ci, 100, .inl tp)), (mb, .inl (cz, 41, .inl (upd fB k (nI 0)))), (mz, .inl (ci, 41, .inl (upd fZ k (nI 0)))), (mn, .inl (ci, 41, .inl fN)), (my, .inl (ci, 4100, .inl fY))] → va_S A s.heap H locs → ∀ ls : Array Slot, lv_has ls 7 [(0, .ref g0), (1, .int (nI mm)), (2, .int (nI (js (jcn r) k - mm))), (3, .int (nI d)), (4, .int ((nI i) + (-1)))] → W p l e rm_M_drop s m av below meth c H locs 0 0 (MQ below (va_Qi (fun (x : Int32) (a : jMt) => x = (jop_dr ((n, t), (k, r, z, u, y), (nx, wh, pw, ct)) mv).1 ∧ jMk (jop_dr ((n, t), (k, r, z, u, y), (nx, wh, pw, ct)) mv).2 a) (j_post D (jT cb ci cz) (jMw g0 mt mb mz mn my ci cz) A) A) av s 0 0 A) (F0 m 104 ls []) := by
              clear hP hD hS hl
              intro fuel
              induction fuel with
              | zero => intro i d hf hik hdk hfin; exfalso; omega
              | succ fuel ih104 =>
                intro i d hf hik hdk hfin H locs hP hD hS ls hl
                refine lv_iload hx hb dX2_drop_104 (lv_at hl 4 rfl) ?_
                refine lv_if_lt (tgt := 174) hx hb dX2_drop_106 (by decide) (fun c_106_6 => ?_) (fun c_106_6 => ?_)
                · rw [j_m1lt (by omega)] at c_106_6
                  subst c_106_6
                  have hdf : d = jdrF k r mm := hfin
                  rw [hdf] at hl
                  refine lv_iload_n hx hb dX2_drop_174 rfl (lv_at hl 3 rfl) ?_
                  refine lv_istore (lv' := [(4, .int (nI (jdrF k r mm))), (0, .ref g0), (1, .int (nI mm)), (2, .int (nI (js (jcn r) k - mm))), (3, .int (nI (jdrF k r mm)))]) hx hb dX2_drop_175 hl (by decide) rfl (fun ls hl => ?_)
                  have LOOP177 : ∀ (fuel : Nat) (j : Nat) (xB : Nat → Int32) (xZ : Nat → Int32) (xN : Nat → Int32) (xY : Nat → Int32) (hf : k + 1 < j + fuel) (hfj : jdrF k r mm ≤ j) (hjk : j ≤ k + 1) (hc : jE xB xZ xN xY (j - jdrF k r mm) (fun j => (va_up r k false) (j + jdrF k r mm)) (fun j => (va_up z k 0) (j + jdrF k r mm)) (fun j => u (j + jdrF k r mm)) (fun j => y (j + jdrF k r mm))) (ho : ∀ i, j ≤ i → i < k + 1 → xB i = jbi ((va_up r k false) i) ∧ xZ i = nI ((va_up z k 0) i) ∧ ((va_up r k false) i = true → xN i = u i) ∧ ∀ b, b < (va_up z k 0) i → xY (100 * i + b) = y i b) (H : Heap) (locs : List Loc), va_P D vwCl [(g0, .inr (2, [.ref mt, .int (nI n), .int (nI (k + 1)), .ref mb, .ref mz, .ref mn, .ref my, .int nx, .int (wh + 1), .int (jbi (!pw)), .int cu])), (mt, .inl (ci, 100, .inl tp)), (mb, .inl (cz, 41, .inl xB)), (mz, .inl (ci, 41, .inl xZ)), (mn, .inl (ci, 41, .inl xN)), (my, .inl (ci, 4100, .inl xY))] H → va_D A [(g0, .inr (2, [.ref mt, .int (nI n), .int (nI (k + 1)), .ref mb, .ref mz, .ref mn, .ref my, .int nx, .int (wh + 1), .int (jbi (!pw)), .int cu])), (mt, .inl (ci, 100, .inl tp)), (mb, .inl (cz, 41, .inl xB)), (mz, .inl (ci, 41, .inl xZ)), (mn, .inl (ci, 41, .inl xN)), (my, .inl (ci, 4100, .inl xY))] → va_S A s.heap H locs → ∀ ls : Array Slot, lv_has ls 7 [(0, .ref g0), (1, .int (nI mm)), (2, .int (nI (js (jcn r) k - mm))), (3, .int (nI (jdrF k r mm))), (4, .int (nI j))] → W p l e rm_M_drop s m av below meth c H locs 0 0 (MQ below (va_Qi (fun (x : Int32) (a : jMt) => x = (jop_dr ((n, t), (k, r, z, u, y), (nx, wh, pw, ct)) mv).1 ∧ jMk (jop_dr ((n, t), (k, r, z, u, y), (nx, wh, pw, ct)) mv).2 a) (j_post D (jT cb ci cz) (jMw g0 mt mb mz mn my ci cz) A) A) av s 0 0 A) (F0 m 177 ls []) := by
                    clear hP hD hS hl
                    intro fuel
                    induction fuel with
                    | zero => intro j xB xZ xN xY hf hfj hjk hc ho; exfalso; omega
                    | succ fuel ih177 =>
                      intro j xB xZ xN xY hf hfj hjk hc ho H locs hP hD hS ls hl
                      refine lv_iload hx hb dX2_drop_177 (lv_at hl 4 rfl) ?_
                      refine lv_aload_n hx hb dX2_drop_179 rfl (lv_at hl 0 rfl) ?_
                      refine va_get (D := D) (ci := 2) (v := .int (nI (k + 1))) (C := RX2) (T := TX2) (N := 11) hx hb hts (by decide +kernel) hown hK hP 0 rfl rfl 2 (by decide) (hts (.fieldLink RX2 33 "JournalDeskModel" "kept" "I") (by decide +kernel)) (fun _ h9 => h9) rfl dX2_drop_180 ?_
                      refine lv_icmp_ge (tgt := 202) hx hb dX2_drop_183 (by decide) (fun c_183_7 => ?_) (fun c_183_7 => ?_)
                      · rw [nI_leI (show k + 1 < 2 ^ 31 by omega) (show j < 2 ^ 31 by omega)] at c_183_7
                        refine lv_aload_n hx hb dX2_drop_202 rfl (lv_at hl 0 rfl) ?_
                        refine lv_aload_n hx hb dX2_drop_203 rfl (lv_at hl 0 rfl) ?_
                        refine va_get (D := D) (ci := 2) (v := .int (nI (k + 1))) (C := RX2) (T := TX2) (N := 11) hx hb hts (by decide +kernel) hown hK hP 0 rfl rfl 2 (by decide) (hts (.fieldLink RX2 33 "JournalDeskModel" "kept" "I") (by decide +kernel)) (fun _ h9 => h9) rfl dX2_drop_204 ?_
                        refine lv_iload_n hx hb dX2_drop_207 rfl (lv_at hl 3 rfl) ?_
                        refine lv_isub hx hb dX2_drop_208 ?_
                        refine jt_i (y := (nI (k + 1 - jdrF k r mm))) (pk_sub (by omega)) ?_
                        refine va_put (D := D) (ci := 2) (v := .int (nI (k + 1 - jdrF k r mm))) (ty := .int) (C := RX2) (T := TX2) (N := 11) hx hb hts (by decide +kernel) tyX2 tyX2_ok nmX2 hown hK hP hD hS 0 rfl rfl 2 (by decide) (hts (.fieldLink RX2 33 "JournalDeskModel" "kept" "I") (by decide +kernel)) (fun _ h9 => h9) rfl (by decide +kernel) (rfl) (rfl) (Nat.le_of_ble_eq_true rfl) dX2_drop_209 (fun H locs hP hD hS => ?_)
                        have hP : va_P D vwCl [(g0, .inr (2, [.ref mt, .int (nI n), .int (nI (k + 1 - jdrF k r mm)), .ref mb, .ref mz, .ref mn, .ref my, .int nx, .int (wh + 1), .int (jbi (!pw)), .int cu])), (mt, .inl (ci, 100, .inl tp)), (mb, .inl (cz, 41, .inl xB)), (mz, .inl (ci, 41, .inl xZ)), (mn, .inl (ci, 41, .inl xN)), (my, .inl (ci, 4100, .inl xY))] H := hP
                        have hD : va_D A [(g0, .inr (2, [.ref mt, .int (nI n), .int (nI (k + 1 - jdrF k r mm)), .ref mb, .ref mz, .ref mn, .ref my, .int nx, .int (wh + 1), .int (jbi (!pw)), .int cu])), (mt, .inl (ci, 100, .inl tp)), (mb, .inl (cz, 41, .inl xB)), (mz, .inl (ci, 41, .inl xZ)), (mn, .inl (ci, 41, .inl xN)), (my, .inl (ci, 4100, .inl xY))] := hD
                        refine lv_iload_n hx hb dX2_drop_212 rfl (lv_at hl 2 rfl) ?_
                        have hjk2 : j = k + 1 := by omega
                        subst hjk2
                        exact j_iret (v := (nI (js (jcn r) k - mm))) ((tp, xB, xZ, xN, xY, n, k + 1 - jdrF k r mm, nx, (wh + 1), (jbi (!pw)), cu)) hx hb hr hlk hK hP hD hS (by subst hct; subst hpw; rw [jdr_ok hmv hm31 h0m h1m hfit]; exact ⟨rfl, jMk_i rfl hn ht rfl (jus_drp hfit (jdrF_le k r mm)) (fun i q => jz_drp hz (i + jdrF k r mm) (by omega)) hc rfl rfl rfl hcu⟩) dX2_drop_213
                      · rw [nI_leI (show k + 1 < 2 ^ 31 by omega) (show j < 2 ^ 31 by omega)] at c_183_7
                        have hoj := ho j (Nat.le_refl j) (by omega)
                        have hz1 := jz_drp hz
                        have hzj := hz1 j (by omega)
                        refine lv_aload_n hx hb dX2_drop_186 rfl (lv_at hl 0 rfl) ?_
                        refine lv_iload hx hb dX2_drop_187 (lv_at hl 4 rfl) ?_
                        refine lv_iload hx hb dX2_drop_189 (lv_at hl 4 rfl) ?_
                        refine lv_iload_n hx hb dX2_drop_191 rfl (lv_at hl 3 rfl) ?_
                        refine lv_isub hx hb dX2_drop_192 ?_
                        refine jt_i (y := (nI (j - jdrF k r mm))) (pk_sub hfj) ?_
                        refine j_callv (wr := []) hP hD hS hA [0, 1, 2, 3, 4, 5] [] rfl rfl (by decide) (by decide) (va_runV (As := [.int (nI j), .int (nI (j - jdrF k r mm))]) (rest := []) ⟨hx, hb, hml, hown, hts⟩ (c_M_move l D cb ci cz g0 mt mb mz mn my tp xB xZ xN xY n (k + 1) nx (wh + 1) (jbi (!pw)) cu j (j - jdrF k r mm) ((va_up z k 0) j) ((va_up r k false) j) (by omega) (Nat.sub_le _ _) hzj hoj.2.1 hoj.1 H.size) (cwV 2 hts hq2_drop_X2_move rfl rfl rfl (by decide +kernel) ⟨Nat.le_of_ble_eq_true rfl, Nat.le_of_ble_eq_true rfl⟩) (j_preV (ci := 2) (q0 := 0) [0, 1, 2, 3, 4, 5] [0, 1, 2] hK hP hD rfl rfl rfl rfl rfl rfl) rfl rfl hl.1 rfl (lv_room (Nat.le_of_ble_eq_true rfl)) dX2_drop_193 ⟨Nat.le_of_ble_eq_true rfl, Nat.le_of_ble_eq_true rfl⟩) (fun xY2 H locs hw hP hD hS => ?_)
                        have hd2 := hw
                        have hP : va_P D vwCl [(g0, .inr (2, [.ref mt, .int (nI n), .int (nI (k + 1)), .ref mb, .ref mz, .ref mn, .ref my, .int nx, .int (wh + 1), .int (jbi (!pw)), .int cu])), (mt, .inl (ci, 100, .inl tp)), (mb, .inl (cz, 41, .inl (upd xB (j - jdrF k r mm) (jbi ((va_up r k false) j))))), (mz, .inl (ci, 41, .inl (upd xZ (j - jdrF k r mm) (nI ((va_up z k 0) j))))), (mn, .inl (ci, 41, .inl (upd xN (j - jdrF k r mm) (xN j)))), (my, .inl (ci, 4100, .inl xY2))] H := hP
                        have hD : va_D A [(g0, .inr (2, [.ref mt, .int (nI n), .int (nI (k + 1)), .ref mb, .ref mz, .ref mn, .ref my, .int nx, .int (wh + 1), .int (jbi (!pw)), .int cu])), (mt, .inl (ci, 100, .inl tp)), (mb, .inl (cz, 41, .inl (upd xB (j - jdrF k r mm) (jbi ((va_up r k false) j))))), (mz, .inl (ci, 41, .inl (upd xZ (j - jdrF k r mm) (nI ((va_up z k 0) j))))), (mn, .inl (ci, 41, .inl (upd xN (j - jdrF k r mm) (xN j)))), (my, .inl (ci, 4100, .inl xY2))] := hD
                        refine lv_iinc (v := (nI (j + 1))) (lv' := [(4, .int (nI (j + 1))), (0, .ref g0), (1, .int (nI mm)), (2, .int (nI (js (jcn r) k - mm))), (3, .int (nI (jdrF k r mm)))]) hx hb dX2_drop_196 hl (k := 4) rfl (nI_1 _) (by decide) rfl (fun ls hl => ?_)
                        refine lv_goto (tgt := 177) hx hb dX2_drop_199 (by decide) ?_
                        exact ih177 (j + 1) _ _ _ _ (by omega) (by omega) (by omega) (jE_mv hfj hz1 hc hoj hd2 (by omega)) (jE_mv2 hfj hz1 ho hd2 (by omega)) _ _ hP hD hS ls (lv_sub hl [1, 2, 3, 4, 0] rfl)
                  exact LOOP177 (k + 2) (jdrF k r mm) _ _ _ _ (by omega) (Nat.le_refl _) (by omega) (by rw [Nat.sub_self]; exact jE_0) (fun i _ q => ⟨hE1.1 i q, hE1.2.1 i q, hE1.2.2.1 i q, fun b hb2 => hE1.2.2.2 i b q hb2⟩) _ _ hP hD hS ls (lv_sub hl [1, 2, 3, 4, 0] rfl)
                · rw [j_m1lt (by omega)] at c_106_6
                  obtain ⟨i', rfl⟩ : ∃ i', i = i' + 1 := ⟨i - 1, by omega⟩
                  rw [pk_m1] at hl
                  refine lv_iconst (v := (nI 0)) hx hb dX2_drop_109 (by decide +kernel) ?_
                  refine lv_istore (lv' := [(5, .int (nI 0)), (0, .ref g0), (1, .int (nI mm)), (2, .int (nI (js (jcn r) k - mm))), (3, .int (nI d)), (4, .int (nI i'))]) hx hb dX2_drop_110 hl (by decide) rfl (fun ls hl => ?_)
                  refine lv_iconst (v := (nI 0)) hx hb dX2_drop_112 (by decide +kernel) ?_
                  refine lv_istore (lv' := [(6, .int (nI 0)), (5, .int (nI 0)), (0, .ref g0), (1, .int (nI mm)), (2, .int (nI (js (jcn r) k - mm))), (3, .int (nI d)), (4, .int (nI i'))]) hx hb dX2_drop_113 hl (by decide) rfl (fun ls hl => ?_)
                  have LOOP115 : ∀ (fuel : Nat) (j : Nat) (hf2 : i' < j + fuel) (hji : j ≤ i') (H : Heap) (locs : List Loc), va_P D vwCl [(g0, .inr (2, [.ref mt, .int (nI n), .int (nI (k + 1)), .ref mb, .ref mz, .ref mn, .ref my, .int nx, .int (wh + 1), .int (jbi (!pw)), .int cu])), (mt, .inl (ci, 100, .inl tp)), (mb, .inl (cz, 41, .inl (upd fB k (nI 0)))), (mz, .inl (ci, 41, .inl (upd fZ k (nI 0)))), (mn, .inl (ci, 41, .inl fN)), (my, .inl (ci, 4100, .inl fY))] H → va_D A [(g0, .inr (2, [.ref mt, .int (nI n), .int (nI (k + 1)), .ref mb, .ref mz, .ref mn, .ref my, .int nx, .int (wh + 1), .int (jbi (!pw)), .int cu])), (mt, .inl (ci, 100, .inl tp)), (mb, .inl (cz, 41, .inl (upd fB k (nI 0)))), (mz, .inl (ci, 41, .inl (upd fZ k (nI 0)))), (mn, .inl (ci, 41, .inl fN)), (my, .inl (ci, 4100, .inl fY))] → va_S A s.heap H locs → ∀ ls : Array Slot, lv_has ls 7 [(0, .ref g0), (1, .int (nI mm)), (2, .int (nI (js (jcn r) k - mm))), (3, .int (nI d)), (4, .int (nI i')), (5, .int (nI (js (jcn (va_up r k false)) j))), (6, .int (nI j))] → W p l e rm_M_drop s m av below meth c H locs 0 0 (MQ below (va_Qi (fun (x : Int32) (a : jMt) => x = (jop_dr ((n, t), (k, r, z, u, y), (nx, wh, pw, ct)) mv).1 ∧ jMk (jop_dr ((n, t), (k, r, z, u, y), (nx, wh, pw, ct)) mv).2 a) (j_post D (jT cb ci cz) (jMw g0 mt mb mz mn my ci cz) A) A) av s 0 0 A) (F0 m 115 ls []) := by
                    clear hP hD hS hl
                    intro fuel
                    induction fuel with
                    | zero => intro j hf2 hji; exfalso; omega
                    | succ fuel ih115 =>
                      intro j hf2 hji H locs hP hD hS ls hl
                      refine lv_iload hx hb dX2_drop_115 (lv_at hl 6 rfl) ?_
                      refine lv_iload hx hb dX2_drop_117 (lv_at hl 4 rfl) ?_
                      refine lv_icmp_ge (tgt := 149) hx hb dX2_drop_119 (by decide) (fun c_119_8 => ?_) (fun c_119_8 => ?_)
                      · rw [nI_leI (show i' < 2 ^ 31 by omega) (show j < 2 ^ 31 by omega)] at c_119_8
                        have hji2 : j = i' := by omega
                        rw [hji2] at hl
                        refine lv_aload_n hx hb dX2_drop_149 rfl (lv_at hl 0 rfl) ?_
                        refine va_get (D := D) (ci := 2) (v := .ref mb) (C := RX2) (T := TX2) (N := 11) hx hb hts (by decide +kernel) hown hK hP 0 rfl rfl 3 (by decide) (hts (.fieldLink RX2 13 "JournalDeskModel" "isRecord" "[Z") (by decide +kernel)) (fun _ h9 => h9) rfl dX2_drop_150 ?_
                        refine lv_iload hx hb dX2_drop_153 (lv_at hl 4 rfl) ?_
                        refine j_zald hx hb hK hP 2 2 rfl rfl (i := i') (by omega) (by decide) (v := (jbi ((va_up r k false) i'))) (hE1.1 i' (by omega)) dX2_drop_155 ?_
                        refine lv_if_eq (tgt := 168) hx hb dX2_drop_156 (by decide) (fun c_156_9 => ?_) (fun c_156_9 => ?_)
                        · have hPf : jPd (va_up r k false) mm i' = false := jPd_r (jbi_0.mp c_156_9)
                          refine lv_iinc (v := ((nI i') + (-1))) (lv' := [(4, .int ((nI i') + (-1))), (0, .ref g0), (1, .int (nI mm)), (2, .int (nI (js (jcn r) k - mm))), (3, .int (nI d)), (5, .int (nI (js (jcn (va_up r k false)) i'))), (6, .int (nI i'))]) hx hb dX2_drop_168 hl (k := 4) rfl (rfl) (by decide) rfl (fun ls hl => ?_)
                          refine lv_goto (tgt := 104) hx hb dX2_drop_171 (by decide) ?_
                          exact ih104 i' d (by omega) (by omega) (by omega) ((jfs_f hPf).symm.trans hfin) _ _ hP hD hS ls (lv_sub hl [1, 2, 3, 4, 0] rfl)
                        · have hb2 : (va_up r k false) i' = true := jbi_n0.mp c_156_9
                          refine lv_iload hx hb dX2_drop_159 (lv_at hl 5 rfl) ?_
                          refine lv_iload_n hx hb dX2_drop_161 rfl (lv_at hl 1 rfl) ?_
                          have hcj := jct_le (va_up r k false) i'
                          refine lv_icmp_lt (tgt := 168) hx hb dX2_drop_162 (by decide) (fun c_162_10 => ?_) (fun c_162_10 => ?_)
                          · rw [nI_ltI (show js (jcn (va_up r k false)) i' < 2 ^ 31 by omega) (show mm < 2 ^ 31 by omega)] at c_162_10
                            have hPf : jPd (va_up r k false) mm i' = false := jPd_m c_162_10
                            refine lv_iinc (v := ((nI i') + (-1))) (lv' := [(4, .int ((nI i') + (-1))), (0, .ref g0), (1, .int (nI mm)), (2, .int (nI (js (jcn r) k - mm))), (3, .int (nI d)), (5, .int (nI (js (jcn (va_up r k false)) i'))), (6, .int (nI i'))]) hx hb dX2_drop_168 hl (k := 4) rfl (rfl) (by decide) rfl (fun ls hl => ?_)
                            refine lv_goto (tgt := 104) hx hb dX2_drop_171 (by decide) ?_
                            exact ih104 i' d (by omega) (by omega) (by omega) ((jfs_f hPf).symm.trans hfin) _ _ hP hD hS ls (lv_sub hl [1, 2, 3, 4, 0] rfl)
                          · rw [nI_ltI (show js (jcn (va_up r k false)) i' < 2 ^ 31 by omega) (show mm < 2 ^ 31 by omega)] at c_162_10
                            have hPt : jPd (va_up r k false) mm i' = true := jPd_t hb2 (by omega)
                            refine lv_iload hx hb dX2_drop_165 (lv_at hl 4 rfl) ?_
                            refine lv_istore_n (lv' := [(3, .int (nI i')), (0, .ref g0), (1, .int (nI mm)), (2, .int (nI (js (jcn r) k - mm))), (4, .int (nI i')), (5, .int (nI (js (jcn (va_up r k false)) i'))), (6, .int (nI i'))]) hx hb dX2_drop_167 rfl hl (by decide) rfl (fun ls hl => ?_)
                            refine lv_iinc (v := ((nI i') + (-1))) (lv' := [(4, .int ((nI i') + (-1))), (3, .int (nI i')), (0, .ref g0), (1, .int (nI mm)), (2, .int (nI (js (jcn r) k - mm))), (5, .int (nI (js (jcn (va_up r k false)) i'))), (6, .int (nI i'))]) hx hb dX2_drop_168 hl (k := 4) rfl (rfl) (by decide) rfl (fun ls hl => ?_)
                            refine lv_goto (tgt := 104) hx hb dX2_drop_171 (by decide) ?_
                            exact ih104 i' i' (by omega) (by omega) (by omega) ((jfs_t hPt).symm.trans hfin) _ _ hP hD hS ls (lv_sub hl [2, 3, 4, 1, 0] rfl)
                      · rw [nI_leI (show i' < 2 ^ 31 by omega) (show j < 2 ^ 31 by omega)] at c_119_8
                        refine lv_aload_n hx hb dX2_drop_122 rfl (lv_at hl 0 rfl) ?_
                        refine va_get (D := D) (ci := 2) (v := .ref mb) (C := RX2) (T := TX2) (N := 11) hx hb hts (by decide +kernel) hown hK hP 0 rfl rfl 3 (by decide) (hts (.fieldLink RX2 13 "JournalDeskModel" "isRecord" "[Z") (by decide +kernel)) (fun _ h9 => h9) rfl dX2_drop_123 ?_
                        refine lv_iload hx hb dX2_drop_126 (lv_at hl 6 rfl) ?_
                        refine j_zald hx hb hK hP 2 2 rfl rfl (i := j) (by omega) (by decide) (v := (jbi ((va_up r k false) j))) (hE1.1 j (by omega)) dX2_drop_128 ?_
                        refine lv_if_eq (tgt := 139) hx hb dX2_drop_129 (by decide) (fun c_129_11 => ?_) (fun c_129_11 => ?_)
                        · have hb1 : (va_up r k false) j = false := jbi_0.mp c_129_11
                          refine lv_iload hx hb dX2_drop_139 (lv_at hl 5 rfl) ?_
                          refine jt_i (y := nI (js (jcn (va_up r k false)) (j + 1))) (congrArg nI (by rw [js_step, jcn_f hb1, Nat.add_zero])) ?_
                          refine lv_istore (lv' := [(5, .int (nI (js (jcn (va_up r k false)) (j + 1)))), (0, .ref g0), (1, .int (nI mm)), (2, .int (nI (js (jcn r) k - mm))), (3, .int (nI d)), (4, .int (nI i')), (6, .int (nI j))]) hx hb dX2_drop_141 hl (by decide) rfl (fun ls hl => ?_)
                          refine lv_iinc (v := (nI (j + 1))) (lv' := [(6, .int (nI (j + 1))), (5, .int (nI (js (jcn (va_up r k false)) (j + 1)))), (0, .ref g0), (1, .int (nI mm)), (2, .int (nI (js (jcn r) k - mm))), (3, .int (nI d)), (4, .int (nI i'))]) hx hb dX2_drop_143 hl (k := 6) rfl (nI_1 _) (by decide) rfl (fun ls hl => ?_)
                          refine lv_goto (tgt := 115) hx hb dX2_drop_146 (by decide) ?_
                          exact ih115 (j + 1) (by omega) (by omega) _ _ hP hD hS ls (lv_sub hl [2, 3, 4, 5, 6, 1, 0] rfl)
                        · have hb1 : (va_up r k false) j = true := jbi_n0.mp c_129_11
                          refine lv_iload hx hb dX2_drop_132 (lv_at hl 5 rfl) ?_
                          refine lv_iconst (v := (nI 1)) hx hb dX2_drop_134 (by decide +kernel) ?_
                          refine lv_iadd hx hb dX2_drop_135 ?_
                          refine jt_i (y := (nI (js (jcn (va_up r k false)) (j + 1)))) (by rw [js_step, jcn_t hb1]; exact nI_add _ _) ?_
                          refine lv_goto (tgt := 141) hx hb dX2_drop_136 (by decide) ?_
                          refine lv_istore (lv' := [(5, .int (nI (js (jcn (va_up r k false)) (j + 1)))), (0, .ref g0), (1, .int (nI mm)), (2, .int (nI (js (jcn r) k - mm))), (3, .int (nI d)), (4, .int (nI i')), (6, .int (nI j))]) hx hb dX2_drop_141 hl (by decide) rfl (fun ls hl => ?_)
                          refine lv_iinc (v := (nI (j + 1))) (lv' := [(6, .int (nI (j + 1))), (5, .int (nI (js (jcn (va_up r k false)) (j + 1)))), (0, .ref g0), (1, .int (nI mm)), (2, .int (nI (js (jcn r) k - mm))), (3, .int (nI d)), (4, .int (nI i'))]) hx hb dX2_drop_143 hl (k := 6) rfl (nI_1 _) (by decide) rfl (fun ls hl => ?_)
                          refine lv_goto (tgt := 115) hx hb dX2_drop_146 (by decide) ?_
                          exact ih115 (j + 1) (by omega) (by omega) _ _ hP hD hS ls (lv_sub hl [2, 3, 4, 5, 6, 1, 0] rfl)
                  exact LOOP115 (i' + 1) 0 (by omega) (by omega) _ _ hP hD hS ls (lv_sub hl [2, 3, 4, 5, 6, 1, 0] rfl)
            exact LOOP104 (k + 2) (k + 1) k (by omega) (by omega) (by omega) rfl _ _ hP hD hS ls (lv_sub hl [3, 4, 2, 1, 0] rfl)
          · have hct : ct = true := jbi_n0.mp c_36_5
            obtain ⟨ho1, hq1⟩ := Prod.mk.inj (hwt hct)
            rw [ho1, hq1] at hP hD
            refine lv_bipush (v := (-2)) hx hb dX2_drop_39 (by decide +kernel) ?_
            exact j_iret (v := (-2)) ((tp, fB, fZ, fN, fY, n, k, nx, wh, 1, (-1))) hx hb hr hlk hK hP hD hS (by subst hct; subst hpw; rw [jdr_cut h0m h1m hfit]; exact ⟨rfl, jMk_i rfl hn ht rfl hus hz hE rfl rfl rfl ⟨fun _ => rfl, fun _ => rfl⟩⟩) dX2_drop_41
        · rw [nI_leI (show (js (jse r z) k) + 1 < 2 ^ 31 by omega) (show 40 < 2 ^ 31 by omega)] at c_27_4
          have href : pw = false ∨ mv < 0 ∨ nI (js (jcn r) k) < mv ∨ 40 < js (jse r z) k + 1 := Or.inr (Or.inr (Or.inr (by omega)))
          refine lv_iconst (v := (-1)) hx hb dX2_drop_30 (by decide +kernel) ?_
          exact j_iret (v := (-1)) ((tp, fB, fZ, fN, fY, n, k, nx, wh, (jbi (!pw)), cu)) hx hb hr hlk hK hP hD hS (by rw [jdr_ref href]; exact ⟨rfl, jMk_i rfl hn ht rfl hus hz hE rfl rfl rfl hcu⟩) dX2_drop_31
