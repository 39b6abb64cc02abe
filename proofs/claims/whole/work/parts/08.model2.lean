abbrev rm_M_cut : Room := { frames := 0, cells := 0, slots := 0, locals := 0 }
set_option maxHeartbeats 4000000 in
set_option maxRecDepth 100000 in
/-- cut, in the reference -/
theorem c_M_cut (l : Launch) (D : va_G) (cb ci cz : ClassId) (g0 mt mb mz mn my : Nat) (tp fB fZ fN fY : Nat → Int32) (n : Nat) (t : Nat → Int32) (k : Nat) (r : Nat → Bool) (z : Nat → Nat) (u : Nat → Int32) (y : Nat → Nat → Int32) (nx wh : Int32) (pw ct : Bool) (cu : Int32) (sv : Int32) (hn : n ≤ 100) (ht : ∀ j, j < n → tp j = t j) (hus : js (jse r z) k ≤ 40) (hz : ∀ j, j < k → z j ≤ 100) (hE : jE fB fZ fN fY k r z u y) (hcu : cu = -1 ↔ ct = false) (sz : Nat) : Met l yX2_cut wsX2_cut rm_M_cut (va_Pc [.ref g0, .int sv] (j_pre D (jT cb ci cz) [(g0, .inr (2, [.ref mt, .int (nI n), .int (nI k), .ref mb, .ref mz, .ref mn, .ref my, .int nx, .int wh, .int (jbi (!pw)), .int cu])), (mt, .inl (ci, 100, .inl tp)), (mb, .inl (cz, 41, .inl fB)), (mz, .inl (ci, 41, .inl fZ)), (mn, .inl (ci, 41, .inl fN)), (my, .inl (ci, 4100, .inl fY))] sz)) (va_Qi (fun (x : Int32) (a : jMt) => x = (jop_cu ((n, t), (k, r, z, u, y), (nx, wh, pw, ct)) sv).1 ∧ jMk (jop_cu ((n, t), (k, r, z, u, y), (nx, wh, pw, ct)) sv).2 a) (j_post D (jT cb ci cz) (jMw g0 mt mb mz mn my ci cz) (va_A [(g0, .inr (2, [.ref mt, .int (nI n), .int (nI k), .ref mb, .ref mz, .ref mn, .ref my, .int nx, .int wh, .int (jbi (!pw)), .int cu])), (mt, .inl (ci, 100, .inl tp)), (mb, .inl (cz, 41, .inl fB)), (mz, .inl (ci, 41, .inl fZ)), (mn, .inl (ci, 41, .inl fN)), (my, .inl (ci, 4100, .inl fY))] sz)) (va_A [(g0, .inr (2, [.ref mt, .int (nI n), .int (nI k), .ref mb, .ref mz, .ref mn, .ref my, .int nx, .int wh, .int (jbi (!pw)), .int cu])), (mt, .inl (ci, 100, .inl tp)), (mb, .inl (cz, 41, .inl fB)), (mz, .inl (ci, 41, .inl fZ)), (mn, .inl (ci, 41, .inl fN)), (my, .inl (ci, 4100, .inl fY))] sz)) 0 0 (va_A [(g0, .inr (2, [.ref mt, .int (nI n), .int (nI k), .ref mb, .ref mz, .ref mn, .ref my, .int nx, .int wh, .int (jbi (!pw)), .int cu])), (mt, .inl (ci, 100, .inl tp)), (mb, .inl (cz, 41, .inl fB)), (mz, .inl (ci, 41, .inl fZ)), (mn, .inl (ci, 41, .inl fN)), (my, .inl (ci, 4100, .inl fY))] sz) := by
  refine j_in (Qc := fun A => (va_Qi (fun (x : Int32) (a : jMt) => x = (jop_cu ((n, t), (k, r, z, u, y), (nx, wh, pw, ct)) sv).1 ∧ jMk (jop_cu ((n, t), (k, r, z, u, y), (nx, wh, pw, ct)) sv).2 a) (j_post D (jT cb ci cz) (jMw g0 mt mb mz mn my ci cz) A) A)) (cc := cX2_cut) (maxL := 2) (ret := (some .boolean)) (by decide) rfl (Nat.le_of_ble_eq_true rfl) ?_
  intro p e s m av below meth c A ls H locs hx hb hr hml hts hown hlk hin hA hP hK hD hS hl
  have hown : s.vm.findClass RX2 = some m.cls := hown
  have hl : lv_has ls 2 [(0, .ref g0), (1, .int sv)] := hl
  refine lv_iload_n hx hb dX2_cut_0 rfl (lv_at hl 1 rfl) ?_
  refine lv_iconst (v := (-1)) hx hb dX2_cut_1 (by decide +kernel) ?_
  refine lv_icmp_lt (tgt := 11) hx hb dX2_cut_2 (by decide) (fun c_2_1 => ?_) (fun c_2_1 => ?_)
  · have href : sv < -1 ∨ 8 < sv := Or.inl c_2_1
    refine lv_iconst (v := (nI 0)) hx hb dX2_cut_11 (by decide +kernel) ?_
    exact j_zret (v := (nI 0)) ((tp, fB, fZ, fN, fY, n, k, nx, wh, (jbi (!pw)), cu)) hx hb hr hlk hK hP hD hS (by decide +kernel) (by rw [show jop_cu ((n, t), (k, r, z, u, y), (nx, wh, pw, ct)) sv = (0, ((n, t), (k, r, z, u, y), (nx, wh, pw, ct))) from if_pos href]; exact ⟨rfl, jMk_i rfl hn ht rfl hus hz hE rfl rfl rfl hcu⟩) dX2_cut_12
  · have hs1 := c_2_1
    refine lv_iload_n hx hb dX2_cut_5 rfl (lv_at hl 1 rfl) ?_
    refine lv_bipush (v := (nI 8)) hx hb dX2_cut_6 (by decide +kernel) ?_
    refine lv_icmp_le (tgt := 13) hx hb dX2_cut_8 (by decide) (fun c_8_2 => ?_) (fun c_8_2 => ?_)
    · have hs2 := c_8_2
      refine lv_aload_n hx hb dX2_cut_13 rfl (lv_at hl 0 rfl) ?_
      refine lv_iload_n hx hb dX2_cut_14 rfl (lv_at hl 1 rfl) ?_
      refine va_put (D := D) (ci := 2) (v := .int sv) (ty := .int) (C := RX2) (T := TX2) (N := 11) hx hb hts (by decide +kernel) tyX2 tyX2_ok nmX2 hown hK hP hD hS 0 rfl rfl 10 (by decide) (hts (.fieldLink RX2 26 "JournalDeskModel" "cutting" "I") (by decide +kernel)) (fun _ h9 => h9) rfl (by decide +kernel) (rfl) (rfl) (Nat.le_of_ble_eq_true rfl) dX2_cut_15 (fun H locs hP hD hS => ?_)
      have hP : va_P D vwCl [(g0, .inr (2, [.ref mt, .int (nI n), .int (nI k), .ref mb, .ref mz, .ref mn, .ref my, .int nx, .int wh, .int (jbi (!pw)), .int sv])), (mt, .inl (ci, 100, .inl tp)), (mb, .inl (cz, 41, .inl fB)), (mz, .inl (ci, 41, .inl fZ)), (mn, .inl (ci, 41, .inl fN)), (my, .inl (ci, 4100, .inl fY))] H := hP
      have hD : va_D A [(g0, .inr (2, [.ref mt, .int (nI n), .int (nI k), .ref mb, .ref mz, .ref mn, .ref my, .int nx, .int wh, .int (jbi (!pw)), .int sv])), (mt, .inl (ci, 100, .inl tp)), (mb, .inl (cz, 41, .inl fB)), (mz, .inl (ci, 41, .inl fZ)), (mn, .inl (ci, 41, .inl fN)), (my, .inl (ci, 4100, .inl fY))] := hD
      refine lv_iconst (v := (nI 1)) hx hb dX2_cut_18 (by decide +kernel) ?_
      have he : jop_cu ((n, t), (k, r, z, u, y), (nx, wh, pw, ct)) sv = (1, ((n, t), (k, r, z, u, y), (nx, wh, pw, decide (sv ≠ -1)))) := if_neg (fun q => by rcases q with q | q; exact hs1 q; exact absurd hs2 (Int32.not_le.mpr q))
      exact j_zret (v := (nI 1)) ((tp, fB, fZ, fN, fY, n, k, nx, wh, (jbi (!pw)), sv)) hx hb hr hlk hK hP hD hS (by decide +kernel) (by rw [he]; exact ⟨rfl, jMk_i rfl hn ht rfl hus hz hE rfl rfl rfl (by by_cases q : sv = -1 <;> simp [q])⟩) dX2_cut_19
    · have href : sv < -1 ∨ 8 < sv := Or.inr (Int32.not_le.mp c_8_2)
      refine lv_iconst (v := (nI 0)) hx hb dX2_cut_11 (by decide +kernel) ?_
      exact j_zret (v := (nI 0)) ((tp, fB, fZ, fN, fY, n, k, nx, wh, (jbi (!pw)), cu)) hx hb hr hlk hK hP hD hS (by decide +kernel) (by rw [show jop_cu ((n, t), (k, r, z, u, y), (nx, wh, pw, ct)) sv = (0, ((n, t), (k, r, z, u, y), (nx, wh, pw, ct))) from if_pos href]; exact ⟨rfl, jMk_i rfl hn ht rfl hus hz hE rfl rfl rfl hcu⟩) dX2_cut_12
abbrev rm_M_start : Room := { frames := 1, cells := 0, slots := 0, locals := 22 }
set_option maxHeartbeats 4000000 in
set_option maxRecDepth 100000 in
/-- start, in the reference -/
theorem c_M_start (l : Launch) (D : va_G) (cb ci cz : ClassId) (g0 mt mb mz mn my : Nat) (tp fB fZ fN fY : Nat → Int32) (n : Nat) (t : Nat → Int32) (k : Nat) (r : Nat → Bool) (z : Nat → Nat) (u : Nat → Int32) (y : Nat → Nat → Int32) (nx wh : Int32) (pw ct : Bool) (cu : Int32) (hn : n ≤ 100) (ht : ∀ j, j < n → tp j = t j) (hus : js (jse r z) k ≤ 40) (hz : ∀ j, j < k → z j ≤ 100) (hE : jE fB fZ fN fY k r z u y) (hcu : cu = -1 ↔ ct = false) (sz : Nat) : Met l yX2_start wsX2_start rm_M_start (va_Pc [.ref g0] (j_pre D (jT cb ci cz) [(g0, .inr (2, [.ref mt, .int (nI n), .int (nI k), .ref mb, .ref mz, .ref mn, .ref my, .int nx, .int wh, .int (jbi (!pw)), .int cu])), (mt, .inl (ci, 100, .inl tp)), (mb, .inl (cz, 41, .inl fB)), (mz, .inl (ci, 41, .inl fZ)), (mn, .inl (ci, 41, .inl fN)), (my, .inl (ci, 4100, .inl fY))] sz)) (va_Qi (fun (x : Int32) (a : jMt) => x = (jop_st ((n, t), (k, r, z, u, y), (nx, wh, pw, ct))).1 ∧ jMk (jop_st ((n, t), (k, r, z, u, y), (nx, wh, pw, ct))).2 a) (j_post D (jT cb ci cz) (jMw g0 mt mb mz mn my ci cz) (va_A [(g0, .inr (2, [.ref mt, .int (nI n), .int (nI k), .ref mb, .ref mz, .ref mn, .ref my, .int nx, .int wh, .int (jbi (!pw)), .int cu])), (mt, .inl (ci, 100, .inl tp)), (mb, .inl (cz, 41, .inl fB)), (mz, .inl (ci, 41, .inl fZ)), (mn, .inl (ci, 41, .inl fN)), (my, .inl (ci, 4100, .inl fY))] sz)) (va_A [(g0, .inr (2, [.ref mt, .int (nI n), .int (nI k), .ref mb, .ref mz, .ref mn, .ref my, .int nx, .int wh, .int (jbi (!pw)), .int cu])), (mt, .inl (ci, 100, .inl tp)), (mb, .inl (cz, 41, .inl fB)), (mz, .inl (ci, 41, .inl fZ)), (mn, .inl (ci, 41, .inl fN)), (my, .inl (ci, 4100, .inl fY))] sz)) 0 0 (va_A [(g0, .inr (2, [.ref mt, .int (nI n), .int (nI k), .ref mb, .ref mz, .ref mn, .ref my, .int nx, .int wh, .int (jbi (!pw)), .int cu])), (mt, .inl (ci, 100, .inl tp)), (mb, .inl (cz, 41, .inl fB)), (mz, .inl (ci, 41, .inl fZ)), (mn, .inl (ci, 41, .inl fN)), (my, .inl (ci, 4100, .inl fY))] sz) := by
  refine j_in (Qc := fun A => (va_Qi (fun (x : Int32) (a : jMt) => x = (jop_st ((n, t), (k, r, z, u, y), (nx, wh, pw, ct))).1 ∧ jMk (jop_st ((n, t), (k, r, z, u, y), (nx, wh, pw, ct))).2 a) (j_post D (jT cb ci cz) (jMw g0 mt mb mz mn my ci cz) A) A)) (cc := cX2_start) (maxL := 1) (ret := (some .int)) (by decide) rfl (Nat.le_of_ble_eq_true rfl) ?_
  intro p e s m av below meth c A ls H locs hx hb hr hml hts hown hlk hin hA hP hK hD hS hl
  have hown : s.vm.findClass RX2 = some m.cls := hown
  have hl : lv_has ls 1 [(0, .ref g0)] := hl
  have hk40 : k ≤ 40 := Nat.le_trans (js_ge (jse_pos r z) k) hus
  refine lv_aload_n hx hb dX2_start_0 rfl (lv_at hl 0 rfl) ?_
  refine va_get (D := D) (ci := 2) (v := .int (jbi (!pw))) (C := RX2) (T := TX2) (N := 11) hx hb hts (by decide +kernel) hown hK hP 0 rfl rfl 9 (by decide) (hts (.fieldLink RX2 40 "JournalDeskModel" "off" "Z") (by decide +kernel)) (fun _ h9 => h9) rfl dX2_start_1 ?_
  refine lv_if_ne (tgt := 9) hx hb dX2_start_4 (by decide) (fun c_4_1 => ?_) (fun c_4_1 => ?_)
  · have hpw : pw = false := jbn_t c_4_1
    refine lv_aload_n hx hb dX2_start_9 rfl (lv_at hl 0 rfl) ?_
    refine lv_iconst (v := (nI 0)) hx hb dX2_start_10 (by decide +kernel) ?_
    refine va_put (D := D) (ci := 2) (v := .int (nI 0)) (ty := .boolean) (C := RX2) (T := TX2) (N := 11) hx hb hts (by decide +kernel) tyX2 tyX2_ok nmX2 hown hK hP hD hS 0 rfl rfl 9 (by decide) (hts (.fieldLink RX2 40 "JournalDeskModel" "off" "Z") (by decide +kernel)) (fun _ h9 => h9) rfl (by decide +kernel) (rfl) (rfl) (Nat.le_of_ble_eq_true rfl) dX2_start_11 (fun H locs hP hD hS => ?_)
    have hP : va_P D vwCl [(g0, .inr (2, [.ref mt, .int (nI n), .int (nI k), .ref mb, .ref mz, .ref mn, .ref my, .int nx, .int wh, .int (nI 0), .int cu])), (mt, .inl (ci, 100, .inl tp)), (mb, .inl (cz, 41, .inl fB)), (mz, .inl (ci, 41, .inl fZ)), (mn, .inl (ci, 41, .inl fN)), (my, .inl (ci, 4100, .inl fY))] H := hP
    have hD : va_D A [(g0, .inr (2, [.ref mt, .int (nI n), .int (nI k), .ref mb, .ref mz, .ref mn, .ref my, .int nx, .int wh, .int (nI 0), .int cu])), (mt, .inl (ci, 100, .inl tp)), (mb, .inl (cz, 41, .inl fB)), (mz, .inl (ci, 41, .inl fZ)), (mn, .inl (ci, 41, .inl fN)), (my, .inl (ci, 4100, .inl fY))] := hD
    refine lv_aload_n hx hb dX2_start_14 rfl (lv_at hl 0 rfl) ?_
    refine j_calli (wr := []) hP hD hS hA [0, 1, 2, 3, 4, 5] [] rfl rfl (by decide) (by decide) (va_runV (As := []) (rest := []) ⟨hx, hb, hml, hown, hts⟩ (c_M_records l D cb ci cz g0 mt mb mz mn my tp fB fZ fN fY n k nx wh (nI 0) cu r hE.1 (by omega) H.size) (cwV 0 hts gqX2_start_X2_records rfl rfl rfl (by decide +kernel) ⟨Nat.le_of_ble_eq_true rfl, Nat.le_of_ble_eq_true rfl⟩) (j_preV (ci := 2) (q0 := 0) [0, 1, 2, 3, 4, 5] [0, 1, 2] hK hP hD rfl rfl rfl rfl rfl rfl) rfl rfl hl.1 rfl (lv_room (Nat.le_of_ble_eq_true rfl)) dX2_start_15 ⟨Nat.le_of_ble_eq_true rfl, Nat.le_of_ble_eq_true rfl⟩) (fun r15 u9 H locs hw hP hD hS => ?_)
    have hP : va_P D vwCl [(g0, .inr (2, [.ref mt, .int (nI n), .int (nI k), .ref mb, .ref mz, .ref mn, .ref my, .int nx, .int wh, .int (nI 0), .int cu])), (mt, .inl (ci, 100, .inl tp)), (mb, .inl (cz, 41, .inl fB)), (mz, .inl (ci, 41, .inl fZ)), (mn, .inl (ci, 41, .inl fN)), (my, .inl (ci, 4100, .inl fY))] H := hP
    have hD : va_D A [(g0, .inr (2, [.ref mt, .int (nI n), .int (nI k), .ref mb, .ref mz, .ref mn, .ref my, .int nx, .int wh, .int (nI 0), .int cu])), (mt, .inl (ci, 100, .inl tp)), (mb, .inl (cz, 41, .inl fB)), (mz, .inl (ci, 41, .inl fZ)), (mn, .inl (ci, 41, .inl fN)), (my, .inl (ci, 4100, .inl fY))] := hD
    have hw : r15 = (nI (js (jcn r) k)) := hw
    subst hw
    exact j_iret (v := (nI (js (jcn r) k))) ((tp, fB, fZ, fN, fY, n, k, nx, wh, (nI 0), cu)) hx hb hr hlk hK hP hD hS (by rw [show jop_st ((n, t), (k, r, z, u, y), (nx, wh, pw, ct)) = (nI (js (jcn r) k), ((n, t), (k, r, z, u, y), (nx, wh, true, ct))) from if_neg (by rw [hpw]; decide)]; exact ⟨rfl, jMk_i rfl hn ht rfl hus hz hE rfl rfl rfl hcu⟩) dX2_start_18
  · have hpw : pw = true := jbn_f c_4_1
    refine lv_iconst (v := (-1)) hx hb dX2_start_7 (by decide +kernel) ?_
    exact j_iret (v := (-1)) ((tp, fB, fZ, fN, fY, n, k, nx, wh, (jbi (!pw)), cu)) hx hb hr hlk hK hP hD hS (by rw [show jop_st ((n, t), (k, r, z, u, y), (nx, wh, pw, ct)) = (-1, ((n, t), (k, r, z, u, y), (nx, wh, pw, ct))) from if_pos hpw]; exact ⟨rfl, jMk_i rfl hn ht rfl hus hz hE rfl rfl rfl hcu⟩) dX2_start_8
abbrev rm_M_placeOf : Room := { frames := 0, cells := 0, slots := 0, locals := 0 }
set_option maxHeartbeats 4000000 in
set_option maxRecDepth 100000 in
/-- the place of the i-th record that is there, in the reference -/
theorem c_M_placeOf (l : Launch) (D : va_G) (cb ci cz : ClassId) (g0 mt mb mz mn my : Nat) (tp fB fZ fN fY : Nat → Int32) (n : Nat) (t : Nat → Int32) (k : Nat) (r : Nat → Bool) (z : Nat → Nat) (u : Nat → Int32) (y : Nat → Nat → Int32) (nx wh : Int32) (pw ct : Bool) (cu : Int32) (i : Int32) (hn : n ≤ 100) (ht : ∀ j, j < n → tp j = t j) (hus : js (jse r z) k ≤ 40) (hz : ∀ j, j < k → z j ≤ 100) (hE : jE fB fZ fN fY k r z u y) (hcu : cu = -1 ↔ ct = false) (sz : Nat) : Met l yX2_placeOf wsX2_placeOf rm_M_placeOf (va_Pc [.ref g0, .int i] (j_pre D (jT cb ci cz) [(g0, .inr (2, [.ref mt, .int (nI n), .int (nI k), .ref mb, .ref mz, .ref mn, .ref my, .int nx, .int wh, .int (jbi (!pw)), .int cu])), (mt, .inl (ci, 100, .inl tp)), (mb, .inl (cz, 41, .inl fB)), (mz, .inl (ci, 41, .inl fZ)), (mn, .inl (ci, 41, .inl fN)), (my, .inl (ci, 4100, .inl fY))] sz)) (va_Qi (fun (x : Int32) (_ : Unit) => (∃ j, jfd k r pw i j ∧ x = nI j) ∨ ((∀ j, ¬ jfd k r pw i j) ∧ x = -1)) (j_post D (jT cb ci cz) (fun _ => [(g0, .inr (2, [.ref mt, .int (nI n), .int (nI k), .ref mb, .ref mz, .ref mn, .ref my, .int nx, .int wh, .int (jbi (!pw)), .int cu])), (mt, .inl (ci, 100, .inl tp)), (mb, .inl (cz, 41, .inl fB)), (mz, .inl (ci, 41, .inl fZ)), (mn, .inl (ci, 41, .inl fN)), (my, .inl (ci, 4100, .inl fY))]) (va_A [(g0, .inr (2, [.ref mt, .int (nI n), .int (nI k), .ref mb, .ref mz, .ref mn, .ref my, .int nx, .int wh, .int (jbi (!pw)), .int cu])), (mt, .inl (ci, 100, .inl tp)), (mb, .inl (cz, 41, .inl fB)), (mz, .inl (ci, 41, .inl fZ)), (mn, .inl (ci, 41, .inl fN)), (my, .inl (ci, 4100, .inl fY))] sz)) (va_A [(g0, .inr (2, [.ref mt, .int (nI n), .int (nI k), .ref mb, .ref mz, .ref mn, .ref my, .int nx, .int wh, .int (jbi (!pw)), .int cu])), (mt, .inl (ci, 100, .inl tp)), (mb, .inl (cz, 41, .inl fB)), (mz, .inl (ci, 41, .inl fZ)), (mn, .inl (ci, 41, .inl fN)), (my, .inl (ci, 4100, .inl fY))] sz)) 0 0 (va_A [(g0, .inr (2, [.ref mt, .int (nI n), .int (nI k), .ref mb, .ref mz, .ref mn, .ref my, .int nx, .int wh, .int (jbi (!pw)), .int cu])), (mt, .inl (ci, 100, .inl tp)), (mb, .inl (cz, 41, .inl fB)), (mz, .inl (ci, 41, .inl fZ)), (mn, .inl (ci, 41, .inl fN)), (my, .inl (ci, 4100, .inl fY))] sz) := by
  refine j_in (Qc := fun A => (va_Qi (fun (x : Int32) (_ : Unit) => (∃ j, jfd k r pw i j ∧ x = nI j) ∨ ((∀ j, ¬ jfd k r pw i j) ∧ x = -1)) (j_post D (jT cb ci cz) (fun _ => [(g0, .inr (2, [.ref mt, .int (nI n), .int (nI k), .ref mb, .ref mz, .ref mn, .ref my, .int nx, .int wh, .int (jbi (!pw)), .int cu])), (mt, .inl (ci, 100, .inl tp)), (mb, .inl (cz, 41, .inl fB)), (mz, .inl (ci, 41, .inl fZ)), (mn, .inl (ci, 41, .inl fN)), (my, .inl (ci, 4100, .inl fY))]) A) A)) (cc := cX2_placeOf) (maxL := 4) (ret := (some .int)) (by decide) rfl (Nat.le_of_ble_eq_true rfl) ?_
  intro p e s m av below meth c A ls H locs hx hb hr hml hts hown hlk hin hA hP hK hD hS hl
  have hown : s.vm.findClass RX2 = some m.cls := hown
  have hl : lv_has ls 4 [(0, .ref g0), (1, .int i)] := hl
  have hk40 : k ≤ 40 := Nat.le_trans (js_ge (jse_pos r z) k) hus
  refine lv_iload_n hx hb dX2_placeOf_0 rfl (lv_at hl 1 rfl) ?_
  refine jt_i (y := i - nI (js (jcn r) 0)) (Int32.sub_zero i).symm ?_
  refine lv_istore_n (lv' := [(2, .int (i - nI (js (jcn r) 0))), (0, .ref g0), (1, .int i)]) hx hb dX2_placeOf_1 rfl hl (by decide) rfl (fun ls hl => ?_)
  refine lv_iconst (v := (nI 0)) hx hb dX2_placeOf_2 (by decide +kernel) ?_
  refine lv_istore_n (lv' := [(3, .int (nI 0)), (2, .int (i - nI (js (jcn r) 0))), (0, .ref g0), (1, .int i)]) hx hb dX2_placeOf_3 rfl hl (by decide) rfl (fun ls hl => ?_)
  have LOOP4 : ∀ (fuel : Nat) (f : Nat) (hf : k < f + fuel) (hfk : f ≤ k) (hq : ∀ g, g < f → ¬ (r g = true ∧ i = nI (js (jcn r) g))) (H : Heap) (locs : List Loc), va_P D vwCl [(g0, .inr (2, [.ref mt, .int (nI n), .int (nI k), .ref mb, .ref mz, .ref mn, .ref my, .int nx, .int wh, .int (jbi (!pw)), .int cu])), (mt, .inl (ci, 100, .inl tp)), (mb, .inl (cz, 41, .inl fB)), (mz, .inl (ci, 41, .inl fZ)), (mn, .inl (ci, 41, .inl fN)), (my, .inl (ci, 4100, .inl fY))] H → va_D A [(g0, .inr (2, [.ref mt, .int (nI n), .int (nI k), .ref mb, .ref mz, .ref mn, .ref my, .int nx, .int wh, .int (jbi (!pw)), .int cu])), (mt, .inl (ci, 100, .inl tp)), (mb, .inl (cz, 41, .inl fB)), (mz, .inl (ci, 41, .inl fZ)), (mn, .inl (ci, 41, .inl fN)), (my, .inl (ci, 4100, .inl fY))] → va_S A s.heap H locs → ∀ ls : Array Slot, lv_has ls 4 [(0, .ref g0), (1, .int i), (2, .int (i - nI (js (jcn r) f))), (3, .int (nI f))] → W p l e rm_M_placeOf s m av below meth c H locs 0 0 (MQ below (va_Qi (fun (x : Int32) (_ : Unit) => (∃ j, jfd k r pw i j ∧ x = nI j) ∨ ((∀ j, ¬ jfd k r pw i j) ∧ x = -1)) (j_post D (jT cb ci cz) (fun _ => [(g0, .inr (2, [.ref mt, .int (nI n), .int (nI k), .ref mb, .ref mz, .ref mn, .ref my, .int nx, .int wh, .int (jbi (!pw)), .int cu])), (mt, .inl (ci, 100, .inl tp)), (mb, .inl (cz, 41, .inl fB)), (mz, .inl (ci, 41, .inl fZ)), (mn, .inl (ci, 41, .inl fN)), (my, .inl (ci, 4100, .inl fY))]) A) A) av s 0 0 A) (F0 m 4 ls []) := by
    clear hP hD hS hl
    intro fuel
    induction fuel with
    | zero => intro f hf hfk hq; exfalso; omega
    | succ fuel ih4 =>
      intro f hf hfk hq H locs hP hD hS ls hl
      refine lv_iload_n hx hb dX2_placeOf_4 rfl (lv_at hl 3 rfl) ?_
      refine lv_aload_n hx hb dX2_placeOf_5 rfl (lv_at hl 0 rfl) ?_
      refine va_get (D := D) (ci := 2) (v := .int (nI k)) (C := RX2) (T := TX2) (N := 11) hx hb hts (by decide +kernel) hown hK hP 0 rfl rfl 2 (by decide) (hts (.fieldLink RX2 33 "JournalDeskModel" "kept" "I") (by decide +kernel)) (fun _ h9 => h9) rfl dX2_placeOf_6 ?_
      refine lv_icmp_ge (tgt := 51) hx hb dX2_placeOf_9 (by decide) (fun c_9_1 => ?_) (fun c_9_1 => ?_)
      · rw [nI_leI (show k < 2 ^ 31 by omega) (show f < 2 ^ 31 by omega)] at c_9_1
        have hno : ∀ j, ¬ jfd k r pw i j := fun j q => hq j (by have := q.2.1; omega) q.2.2
        refine lv_iconst (v := (-1)) hx hb dX2_placeOf_51 (by decide +kernel) ?_
        exact j_iret (v := (-1)) (()) hx hb hr hlk hK hP hD hS (Or.inr ⟨hno, rfl⟩) dX2_placeOf_52
      · rw [nI_leI (show k < 2 ^ 31 by omega) (show f < 2 ^ 31 by omega)] at c_9_1
        refine lv_iload_n hx hb dX2_placeOf_12 rfl (lv_at hl 1 rfl) ?_
        refine lv_if_lt (tgt := 51) hx hb dX2_placeOf_13 (by decide) (fun c_13_2 => ?_) (fun c_13_2 => ?_)
        · have hno : ∀ j, ¬ jfd k r pw i j := fun j q => absurd (show nI (js (jcn r) j) < 0 from q.2.2.2 ▸ c_13_2) (nI_pos (by have := jct_le r j; have := q.2.1; omega))
          refine lv_iconst (v := (-1)) hx hb dX2_placeOf_51 (by decide +kernel) ?_
          exact j_iret (v := (-1)) (()) hx hb hr hlk hK hP hD hS (Or.inr ⟨hno, rfl⟩) dX2_placeOf_52
        · refine lv_aload_n hx hb dX2_placeOf_16 rfl (lv_at hl 0 rfl) ?_
          refine va_get (D := D) (ci := 2) (v := .int (jbi (!pw))) (C := RX2) (T := TX2) (N := 11) hx hb hts (by decide +kernel) hown hK hP 0 rfl rfl 9 (by decide) (hts (.fieldLink RX2 40 "JournalDeskModel" "off" "Z") (by decide +kernel)) (fun _ h9 => h9) rfl dX2_placeOf_17 ?_
          refine lv_if_ne (tgt := 51) hx hb dX2_placeOf_20 (by decide) (fun c_20_3 => ?_) (fun c_20_3 => ?_)
          · have hpw : pw = false := jbn_t c_20_3
            have hno : ∀ j, ¬ jfd k r pw i j := fun j q => absurd (hpw.symm.trans q.1) (by decide)
            refine lv_iconst (v := (-1)) hx hb dX2_placeOf_51 (by decide +kernel) ?_
            exact j_iret (v := (-1)) (()) hx hb hr hlk hK hP hD hS (Or.inr ⟨hno, rfl⟩) dX2_placeOf_52
          · have hpw : pw = true := jbn_f c_20_3
            refine lv_aload_n hx hb dX2_placeOf_23 rfl (lv_at hl 0 rfl) ?_
            refine va_get (D := D) (ci := 2) (v := .ref mb) (C := RX2) (T := TX2) (N := 11) hx hb hts (by decide +kernel) hown hK hP 0 rfl rfl 3 (by decide) (hts (.fieldLink RX2 13 "JournalDeskModel" "isRecord" "[Z") (by decide +kernel)) (fun _ h9 => h9) rfl dX2_placeOf_24 ?_
            refine lv_iload_n hx hb dX2_placeOf_27 rfl (lv_at hl 3 rfl) ?_
            refine j_zald hx hb hK hP 2 2 rfl rfl (i := f) (by omega) (by decide) (v := (jbi (r f))) (hE.1 f (by omega)) dX2_placeOf_28 ?_
            refine lv_if_ne (tgt := 35) hx hb dX2_placeOf_29 (by decide) (fun c_29_4 => ?_) (fun c_29_4 => ?_)
            · have hb1 : r f = true := jbi_n0.mp c_29_4
              refine lv_iload_n hx hb dX2_placeOf_35 rfl (lv_at hl 2 rfl) ?_
              refine lv_if_ne (tgt := 41) hx hb dX2_placeOf_36 (by decide) (fun c_36_5 => ?_) (fun c_36_5 => ?_)
              · have hn1 : ¬ (r f = true ∧ i = nI (js (jcn r) f)) := fun q => c_36_5 (by rw [q.2]; exact Int32.sub_self _)
                refine lv_iload_n hx hb dX2_placeOf_41 rfl (lv_at hl 2 rfl) ?_
                refine lv_iconst (v := (nI 1)) hx hb dX2_placeOf_42 (by decide +kernel) ?_
                refine lv_isub hx hb dX2_placeOf_43 ?_
                refine jt_i (y := (i - nI (js (jcn r) (f + 1)))) (by rw [js_step, jcn_t hb1]; exact j_ss i _) ?_
                refine lv_istore_n (lv' := [(2, .int (i - nI (js (jcn r) (f + 1)))), (0, .ref g0), (1, .int i), (3, .int (nI f))]) hx hb dX2_placeOf_44 rfl hl (by decide) rfl (fun ls hl => ?_)
                refine lv_iinc (v := (nI (f + 1))) (lv' := [(3, .int (nI (f + 1))), (2, .int (i - nI (js (jcn r) (f + 1)))), (0, .ref g0), (1, .int i)]) hx hb dX2_placeOf_45 hl (k := 3) rfl (nI_1 _) (by decide) rfl (fun ls hl => ?_)
                refine lv_goto (tgt := 4) hx hb dX2_placeOf_48 (by decide) ?_
                exact ih4 (f + 1) (by omega) (by omega) (lt_s hq hn1) _ _ hP hD hS ls (lv_sub hl [2, 3, 1, 0] rfl)
              · have hif : i = nI (js (jcn r) f) := j_sub0 c_36_5
                refine lv_iload_n hx hb dX2_placeOf_39 rfl (lv_at hl 3 rfl) ?_
                exact j_iret (v := (nI f)) (()) hx hb hr hlk hK hP hD hS (Or.inl ⟨f, ⟨hpw, by omega, hb1, hif⟩, rfl⟩) dX2_placeOf_40
            · have hb1 : r f = false := jbi_0.mp c_29_4
              have hn1 : ¬ (r f = true ∧ i = nI (js (jcn r) f)) := fun q => absurd (hb1.symm.trans q.1) (by decide)
              refine lv_goto (tgt := 45) hx hb dX2_placeOf_32 (by decide) ?_
              rw [show js (jcn r) f = js (jcn r) (f + 1) by rw [js_step, jcn_f hb1, Nat.add_zero]] at hl
              refine lv_iinc (v := (nI (f + 1))) (lv' := [(3, .int (nI (f + 1))), (0, .ref g0), (1, .int i), (2, .int (i - nI (js (jcn r) (f + 1))))]) hx hb dX2_placeOf_45 hl (k := 3) rfl (nI_1 _) (by decide) rfl (fun ls hl => ?_)
              refine lv_goto (tgt := 4) hx hb dX2_placeOf_48 (by decide) ?_
              exact ih4 (f + 1) (by omega) (by omega) (lt_s hq hn1) _ _ hP hD hS ls (lv_sub hl [1, 2, 3, 0] rfl)
  exact LOOP4 (k + 1) 0 (by omega) (by omega) (fun _ q => absurd q (Nat.not_lt_zero _)) _ _ hP hD hS ls (lv_sub hl [2, 3, 1, 0] rfl)
abbrev rm_M_record : Room := { frames := 1, cells := 0, slots := 0, locals := 23 }
set_option maxHeartbeats 4000000 in
set_option maxRecDepth 100000 in
/-- record, in the reference -/
theorem c_M_record (l : Launch) (D : va_G) (cb ci cz : ClassId) (g0 mt mb mz mn my : Nat) (tp fB fZ fN fY : Nat → Int32) (n : Nat) (t : Nat → Int32) (k : Nat) (r : Nat → Bool) (z : Nat → Nat) (u : Nat → Int32) (y : Nat → Nat → Int32) (nx wh : Int32) (pw ct : Bool) (cu : Int32) (i wv : Int32) (hn : n ≤ 100) (ht : ∀ j, j < n → tp j = t j) (hus : js (jse r z) k ≤ 40) (hz : ∀ j, j < k → z j ≤ 100) (hE : jE fB fZ fN fY k r z u y) (hcu : cu = -1 ↔ ct = false) (sz : Nat) : Met l yX2_record wsX2_record rm_M_record (va_Pc [.ref g0, .int i, .int wv] (j_pre D (jT cb ci cz) [(g0, .inr (2, [.ref mt, .int (nI n), .int (nI k), .ref mb, .ref mz, .ref mn, .ref my, .int nx, .int wh, .int (jbi (!pw)), .int cu])), (mt, .inl (ci, 100, .inl tp)), (mb, .inl (cz, 41, .inl fB)), (mz, .inl (ci, 41, .inl fZ)), (mn, .inl (ci, 41, .inl fN)), (my, .inl (ci, 4100, .inl fY))] sz)) (va_Qi (fun (x : Int32) (_ : Unit) => jop_rc ((n, t), (k, r, z, u, y), (nx, wh, pw, ct)) i wv x) (j_post D (jT cb ci cz) (fun _ => [(g0, .inr (2, [.ref mt, .int (nI n), .int (nI k), .ref mb, .ref mz, .ref mn, .ref my, .int nx, .int wh, .int (jbi (!pw)), .int cu])), (mt, .inl (ci, 100, .inl tp)), (mb, .inl (cz, 41, .inl fB)), (mz, .inl (ci, 41, .inl fZ)), (mn, .inl (ci, 41, .inl fN)), (my, .inl (ci, 4100, .inl fY))]) (va_A [(g0, .inr (2, [.ref mt, .int (nI n), .int (nI k), .ref mb, .ref mz, .ref mn, .ref my, .int nx, .int wh, .int (jbi (!pw)), .int cu])), (mt, .inl (ci, 100, .inl tp)), (mb, .inl (cz, 41, .inl fB)), (mz, .inl (ci, 41, .inl fZ)), (mn, .inl (ci, 41, .inl fN)), (my, .inl (ci, 4100, .inl fY))] sz)) (va_A [(g0, .inr (2, [.ref mt, .int (nI n), .int (nI k), .ref mb, .ref mz, .ref mn, .ref my, .int nx, .int wh, .int (jbi (!pw)), .int cu])), (mt, .inl (ci, 100, .inl tp)), (mb, .inl (cz, 41, .inl fB)), (mz, .inl (ci, 41, .inl fZ)), (mn, .inl (ci, 41, .inl fN)), (my, .inl (ci, 4100, .inl fY))] sz)) 0 0 (va_A [(g0, .inr (2, [.ref mt, .int (nI n), .int (nI k), .ref mb, .ref mz, .ref mn, .ref my, .int nx, .int wh, .int (jbi (!pw)), .int cu])), (mt, .inl (ci, 100, .inl tp)), (mb, .inl (cz, 41, .inl fB)), (mz, .inl (ci, 41, .inl fZ)), (mn, .inl (ci, 41, .inl fN)), (my, .inl (ci, 4100, .inl fY))] sz) := by
  refine j_in (Qc := fun A => (va_Qi (fun (x : Int32) (_ : Unit) => jop_rc ((n, t), (k, r, z, u, y), (nx, wh, pw, ct)) i wv x) (j_post D (jT cb ci cz) (fun _ => [(g0, .inr (2, [.ref mt, .int (nI n), .int (nI k), .ref mb, .ref mz, .ref mn, .ref my, .int nx, .int wh, .int (jbi (!pw)), .int cu])), (mt, .inl (ci, 100, .inl tp)), (mb, .inl (cz, 41, .inl fB)), (mz, .inl (ci, 41, .inl fZ)), (mn, .inl (ci, 41, .inl fN)), (my, .inl (ci, 4100, .inl fY))]) A) A)) (cc := cX2_record) (maxL := 4) (ret := (some .int)) (by decide) rfl (Nat.le_of_ble_eq_true rfl) ?_
  intro p e s m av below meth c A ls H locs hx hb hr hml hts hown hlk hin hA hP hK hD hS hl
  have hown : s.vm.findClass RX2 = some m.cls := hown
  have hl : lv_has ls 4 [(0, .ref g0), (1, .int i), (2, .int wv)] := hl
  have hk40 : k ≤ 40 := Nat.le_trans (js_ge (jse_pos r z) k) hus
  refine lv_aload_n hx hb dX2_record_0 rfl (lv_at hl 0 rfl) ?_
  refine lv_iload_n hx hb dX2_record_1 rfl (lv_at hl 1 rfl) ?_
  refine j_calli (wr := []) hP hD hS hA [0, 1, 2, 3, 4, 5] [] rfl rfl (by decide) (by decide) (va_runV (As := [.int i]) (rest := []) ⟨hx, hb, hml, hown, hts⟩ (c_M_placeOf l D cb ci cz g0 mt mb mz mn my tp fB fZ fN fY n t k r z u y nx wh pw ct cu i hn ht hus hz hE hcu H.size) (cwV 1 hts gqX2_record_X2_placeOf rfl rfl rfl (by decide +kernel) ⟨Nat.le_of_ble_eq_true rfl, Nat.le_of_ble_eq_true rfl⟩) (j_preV (ci := 2) (q0 := 0) [0, 1, 2, 3, 4, 5] [0, 1, 2] hK hP hD rfl rfl rfl rfl rfl rfl) rfl rfl hl.1 rfl (lv_room (Nat.le_of_ble_eq_true rfl)) dX2_record_2 ⟨Nat.le_of_ble_eq_true rfl, Nat.le_of_ble_eq_true rfl⟩) (fun r2 u9 H locs hw hP hD hS => ?_)
  have hP : va_P D vwCl [(g0, .inr (2, [.ref mt, .int (nI n), .int (nI k), .ref mb, .ref mz, .ref mn, .ref my, .int nx, .int wh, .int (jbi (!pw)), .int cu])), (mt, .inl (ci, 100, .inl tp)), (mb, .inl (cz, 41, .inl fB)), (mz, .inl (ci, 41, .inl fZ)), (mn, .inl (ci, 41, .inl fN)), (my, .inl (ci, 4100, .inl fY))] H := hP
  have hD : va_D A [(g0, .inr (2, [.ref mt, .int (nI n), .int (nI k), .ref mb, .ref mz, .ref mn, .ref my, .int nx, .int wh, .int (jbi (!pw)), .int cu])), (mt, .inl (ci, 100, .inl tp)), (mb, .inl (cz, 41, .inl fB)), (mz, .inl (ci, 41, .inl fZ)), (mn, .inl (ci, 41, .inl fN)), (my, .inl (ci, 4100, .inl fY))] := hD
  obtain ⟨fr, hfr⟩ : ∃ fr, fr = r2 := ⟨_, rfl⟩
  rw [← hfr]
  have hf : (∃ j, jfd k r pw i j ∧ fr = nI j) ∨ ((∀ j, ¬ jfd k r pw i j) ∧ fr = -1) := hfr ▸ hw
  refine lv_istore_n (lv' := [(3, .int fr), (0, .ref g0), (1, .int i), (2, .int wv)]) hx hb dX2_record_5 rfl hl (by decide) rfl (fun ls hl => ?_)
  refine lv_iload_n hx hb dX2_record_6 rfl (lv_at hl 0 rfl) ?_
  refine lv_if_ge (tgt := 14) hx hb dX2_record_7 (by decide) (fun c_7_1 => ?_) (fun c_7_1 => ?_)
  · obtain ⟨j, hj, hrj⟩ : ∃ j, jfd k r pw i j ∧ fr = nI j := hf.resolve_right (fun q => absurd (q.2 ▸ c_7_1) (by decide +kernel))
    rw [hrj] at hl
    have hjk := hj.2.1
    refine lv_iload_n hx hb dX2_record_14 rfl (lv_at hl 3 rfl) ?_
    refine lv_if_ne (tgt := 27) hx hb dX2_record_15 (by decide) (fun c_15_2 => ?_) (fun c_15_2 => ?_)
    · have hw0 := c_15_2
      refine lv_iload_n hx hb dX2_record_27 rfl (lv_at hl 3 rfl) ?_
      refine lv_iconst (v := (nI 1)) hx hb dX2_record_28 (by decide +kernel) ?_
      refine lv_icmp_ne (tgt := 41) hx hb dX2_record_29 (by decide) (fun c_29_3 => ?_) (fun c_29_3 => ?_)
      · have hw1 : ¬ wv = 1 := c_29_3
        refine lv_iconst (v := (-1)) hx hb dX2_record_41 (by decide +kernel) ?_
        exact j_iret (v := (-1)) (()) hx hb hr hlk hK hP hD hS (Or.inl ⟨j, hj, by rw [if_neg hw0, if_neg hw1]⟩) dX2_record_42
      · have hw1 : wv = 1 := c_29_3
        refine lv_aload_n hx hb dX2_record_32 rfl (lv_at hl 1 rfl) ?_
        refine va_get (D := D) (ci := 2) (v := .ref mn) (C := RX2) (T := TX2) (N := 11) hx hb hts (by decide +kernel) hown hK hP 0 rfl rfl 5 (by decide) (hts (.fieldLink RX2 20 "JournalDeskModel" "numbers" "[I") (by decide +kernel)) (fun _ h9 => h9) rfl dX2_record_33 ?_
        refine lv_iload_n hx hb dX2_record_36 rfl (lv_at hl 0 rfl) ?_
        refine j_iald hx hb hK hP 4 1 rfl rfl (i := j) (by have := hj.2.1; omega) (by decide) (v := (u j)) (hE.2.2.1 j hj.2.1 hj.2.2.1) dX2_record_37 ?_
        refine lv_goto (tgt := 42) hx hb dX2_record_38 (by decide) ?_
        exact j_iret (v := (u j)) (()) hx hb hr hlk hK hP hD hS (Or.inl ⟨j, hj, by rw [if_neg hw0, if_pos hw1]⟩) dX2_record_42
    · have hw0 := c_15_2
      refine lv_aload_n hx hb dX2_record_18 rfl (lv_at hl 1 rfl) ?_
      refine va_get (D := D) (ci := 2) (v := .ref mz) (C := RX2) (T := TX2) (N := 11) hx hb hts (by decide +kernel) hown hK hP 0 rfl rfl 4 (by decide) (hts (.fieldLink RX2 17 "JournalDeskModel" "sizes" "[I") (by decide +kernel)) (fun _ h9 => h9) rfl dX2_record_19 ?_
      refine lv_iload_n hx hb dX2_record_22 rfl (lv_at hl 0 rfl) ?_
      refine j_iald hx hb hK hP 3 1 rfl rfl (i := j) (by have := hj.2.1; omega) (by decide) (v := (nI (z j))) (hE.2.1 j hj.2.1) dX2_record_23 ?_
      refine lv_goto (tgt := 42) hx hb dX2_record_24 (by decide) ?_
      exact j_iret (v := (nI (z j))) (()) hx hb hr hlk hK hP hD hS (Or.inl ⟨j, hj, by rw [if_pos hw0]⟩) dX2_record_42
  · have hno : ∀ j, ¬ jfd k r pw i j := by
      rcases hf with ⟨j, hj, hrj⟩ | q
      · exact absurd (show ¬ 0 ≤ nI j from hrj ▸ c_7_1) (fun q => q (nI_pos' (by have := hj.2.1; omega)))
      · exact q.1
    refine lv_iconst (v := (-1)) hx hb dX2_record_10 (by decide +kernel) ?_
    refine lv_goto (tgt := 42) hx hb dX2_record_11 (by decide) ?_
    exact j_iret (v := (-1)) (()) hx hb hr hlk hK hP hD hS (Or.inr ⟨hno, rfl⟩) dX2_record_42
abbrev rm_M_bytes : Room := { frames := 1, cells := 0, slots := 0, locals := 23 }
set_option maxHeartbeats 4000000 in
set_option maxRecDepth 100000 in
/-- bytes, in the reference -/
theorem c_M_bytes (l : Launch) (D : va_G) (cb ci cz : ClassId) (g0 mt mb mz mn my : Nat) (tp fB fZ fN fY : Nat → Int32) (n : Nat) (t : Nat → Int32) (k : Nat) (r : Nat → Bool) (z : Nat → Nat) (u : Nat → Int32) (y : Nat → Nat → Int32) (nx wh : Int32) (pw ct : Bool) (cu : Int32) (i kv : Int32) (hn : n ≤ 100) (ht : ∀ j, j < n → tp j = t j) (hus : js (jse r z) k ≤ 40) (hz : ∀ j, j < k → z j ≤ 100) (hE : jE fB fZ fN fY k r z u y) (hcu : cu = -1 ↔ ct = false) (sz : Nat) : Met l yX2_bytes wsX2_bytes rm_M_bytes (va_Pc [.ref g0, .int i, .int kv] (j_pre D (jT cb ci cz) [(g0, .inr (2, [.ref mt, .int (nI n), .int (nI k), .ref mb, .ref mz, .ref mn, .ref my, .int nx, .int wh, .int (jbi (!pw)), .int cu])), (mt, .inl (ci, 100, .inl tp)), (mb, .inl (cz, 41, .inl fB)), (mz, .inl (ci, 41, .inl fZ)), (mn, .inl (ci, 41, .inl fN)), (my, .inl (ci, 4100, .inl fY))] sz)) (va_Ql (fun (x : Int64) (_ : Unit) => jop_by ((n, t), (k, r, z, u, y), (nx, wh, pw, ct)) i kv x) (j_post D (jT cb ci cz) (fun _ => [(g0, .inr (2, [.ref mt, .int (nI n), .int (nI k), .ref mb, .ref mz, .ref mn, .ref my, .int nx, .int wh, .int (jbi (!pw)), .int cu])), (mt, .inl (ci, 100, .inl tp)), (mb, .inl (cz, 41, .inl fB)), (mz, .inl (ci, 41, .inl fZ)), (mn, .inl (ci, 41, .inl fN)), (my, .inl (ci, 4100, .inl fY))]) (va_A [(g0, .inr (2, [.ref mt, .int (nI n), .int (nI k), .ref mb, .ref mz, .ref mn, .ref my, .int nx, .int wh, .int (jbi (!pw)), .int cu])), (mt, .inl (ci, 100, .inl tp)), (mb, .inl (cz, 41, .inl fB)), (mz, .inl (ci, 41, .inl fZ)), (mn, .inl (ci, 41, .inl fN)), (my, .inl (ci, 4100, .inl fY))] sz)) (va_A [(g0, .inr (2, [.ref mt, .int (nI n), .int (nI k), .ref mb, .ref mz, .ref mn, .ref my, .int nx, .int wh, .int (jbi (!pw)), .int cu])), (mt, .inl (ci, 100, .inl tp)), (mb, .inl (cz, 41, .inl fB)), (mz, .inl (ci, 41, .inl fZ)), (mn, .inl (ci, 41, .inl fN)), (my, .inl (ci, 4100, .inl fY))] sz)) 0 0 (va_A [(g0, .inr (2, [.ref mt, .int (nI n), .int (nI k), .ref mb, .ref mz, .ref mn, .ref my, .int nx, .int wh, .int (jbi (!pw)), .int cu])), (mt, .inl (ci, 100, .inl tp)), (mb, .inl (cz, 41, .inl fB)), (mz, .inl (ci, 41, .inl fZ)), (mn, .inl (ci, 41, .inl fN)), (my, .inl (ci, 4100, .inl fY))] sz) := by
  refine j_in (Qc := fun A => (va_Ql (fun (x : Int64) (_ : Unit) => jop_by ((n, t), (k, r, z, u, y), (nx, wh, pw, ct)) i kv x) (j_post D (jT cb ci cz) (fun _ => [(g0, .inr (2, [.ref mt, .int (nI n), .int (nI k), .ref mb, .ref mz, .ref mn, .ref my, .int nx, .int wh, .int (jbi (!pw)), .int cu])), (mt, .inl (ci, 100, .inl tp)), (mb, .inl (cz, 41, .inl fB)), (mz, .inl (ci, 41, .inl fZ)), (mn, .inl (ci, 41, .inl fN)), (my, .inl (ci, 4100, .inl fY))]) A) A)) (cc := cX2_bytes) (maxL := 7) (ret := (some .long)) (by decide) rfl (Nat.le_of_ble_eq_true rfl) ?_
  intro p e s m av below meth c A ls H locs hx hb hr hml hts hown hlk hin hA hP hK hD hS hl
  have hown : s.vm.findClass RX2 = some m.cls := hown
  have hl : lv_has ls 7 [(0, .ref g0), (1, .int i), (2, .int kv)] := hl
  have hk40 : k ≤ 40 := Nat.le_trans (js_ge (jse_pos r z) k) hus
  refine lv_aload_n hx hb dX2_bytes_0 rfl (lv_at hl 0 rfl) ?_
  refine lv_iload_n hx hb dX2_bytes_1 rfl (lv_at hl 1 rfl) ?_
  refine j_calli (wr := []) hP hD hS hA [0, 1, 2, 3, 4, 5] [] rfl rfl (by decide) (by decide) (va_runV (As := [.int i]) (rest := []) ⟨hx, hb, hml, hown, hts⟩ (c_M_placeOf l D cb ci cz g0 mt mb mz mn my tp fB fZ fN fY n t k r z u y nx wh pw ct cu i hn ht hus hz hE hcu H.size) (cwV 1 hts gqX2_bytes_X2_placeOf rfl rfl rfl (by decide +kernel) ⟨Nat.le_of_ble_eq_true rfl, Nat.le_of_ble_eq_true rfl⟩) (j_preV (ci := 2) (q0 := 0) [0, 1, 2, 3, 4, 5] [0, 1, 2] hK hP hD rfl rfl rfl rfl rfl rfl) rfl rfl hl.1 rfl (lv_room (Nat.le_of_ble_eq_true rfl)) dX2_bytes_2 ⟨Nat.le_of_ble_eq_true rfl, Nat.le_of_ble_eq_true rfl⟩) (fun r2 u9 H locs hw hP hD hS => ?_)
  have hP : va_P D vwCl [(g0, .inr (2, [.ref mt, .int (nI n), .int (nI k), .ref mb, .ref mz, .ref mn, .ref my, .int nx, .int wh, .int (jbi (!pw)), .int cu])), (mt, .inl (ci, 100, .inl tp)), (mb, .inl (cz, 41, .inl fB)), (mz, .inl (ci, 41, .inl fZ)), (mn, .inl (ci, 41, .inl fN)), (my, .inl (ci, 4100, .inl fY))] H := hP
  have hD : va_D A [(g0, .inr (2, [.ref mt, .int (nI n), .int (nI k), .ref mb, .ref mz, .ref mn, .ref my, .int nx, .int wh, .int (jbi (!pw)), .int cu])), (mt, .inl (ci, 100, .inl tp)), (mb, .inl (cz, 41, .inl fB)), (mz, .inl (ci, 41, .inl fZ)), (mn, .inl (ci, 41, .inl fN)), (my, .inl (ci, 4100, .inl fY))] := hD
  obtain ⟨fr, hfr⟩ : ∃ fr, fr = r2 := ⟨_, rfl⟩
  rw [← hfr]
  have hf : (∃ j, jfd k r pw i j ∧ fr = nI j) ∨ ((∀ j, ¬ jfd k r pw i j) ∧ fr = -1) := hfr ▸ hw
  refine lv_istore_n (lv' := [(3, .int fr), (0, .ref g0), (1, .int i), (2, .int kv)]) hx hb dX2_bytes_5 rfl hl (by decide) rfl (fun ls hl => ?_)
  refine lv_iload_n hx hb dX2_bytes_6 rfl (lv_at hl 0 rfl) ?_
  refine lv_if_lt (tgt := 14) hx hb dX2_bytes_7 (by decide) (fun c_7_1 => ?_) (fun c_7_1 => ?_)
  · have hno : ∀ j, ¬ jfd k r pw i j := by
      rcases hf with ⟨j, hj, hrj⟩ | q
      · exact absurd (show nI j < 0 from hrj ▸ c_7_1) (nI_pos (by have := hj.2.1; omega))
      · exact q.1
    refine lv_ldc2 (v := (-1)) hx hb hown (hts (.constantLong RX2 68 (-1)) (by decide +kernel)) dX2_bytes_14 ?_
    exact j_lret (v := (-1)) (()) hx hb hr hlk hK hP hD hS (Or.inr ⟨hno, rfl⟩) dX2_bytes_17
  · obtain ⟨j, hj, hrj⟩ : ∃ j, jfd k r pw i j ∧ fr = nI j := hf.resolve_right (fun q => absurd (show ¬ (-1 : Int32) < 0 from q.2 ▸ c_7_1) (fun q => q (by decide +kernel)))
    rw [hrj] at hl
    have hjk := hj.2.1
    refine lv_iload_n hx hb dX2_bytes_10 rfl (lv_at hl 3 rfl) ?_
    refine lv_if_ge (tgt := 18) hx hb dX2_bytes_11 (by decide) (fun c_11_2 => ?_) (fun c_11_2 => ?_)
    · obtain ⟨cc, hc31, hkv⟩ := nI_of (Int32.not_lt.mpr c_11_2)
      rw [hkv] at hl
      refine lv_lconst (v := 0) hx hb dX2_bytes_18 (by decide +kernel) ?_
      refine lv_lstore (lv' := [(4, .long (0 : Int64)), (3, .int (nI j)), (0, .ref g0), (1, .int i), (2, .int (nI cc))]) hx hb dX2_bytes_19 hl (by decide) rfl (fun ls hl => ?_)
      refine lv_iconst (v := (nI 0)) hx hb dX2_bytes_21 (by decide +kernel) ?_
      refine lv_istore (lv' := [(6, .int (nI 0)), (4, .long (0 : Int64)), (3, .int (nI j)), (0, .ref g0), (1, .int i), (2, .int (nI cc))]) hx hb dX2_bytes_22 hl (by decide) rfl (fun ls hl => ?_)
      have LOOP24 : ∀ (fuel : Nat) (b : Nat) (hf : 8 < b + fuel) (hb8 : b ≤ 8) (H : Heap) (locs : List Loc), va_P D vwCl [(g0, .inr (2, [.ref mt, .int (nI n), .int (nI k), .ref mb, .ref mz, .ref mn, .ref my, .int nx, .int wh, .int (jbi (!pw)), .int cu])), (mt, .inl (ci, 100, .inl tp)), (mb, .inl (cz, 41, .inl fB)), (mz, .inl (ci, 41, .inl fZ)), (mn, .inl (ci, 41, .inl fN)), (my, .inl (ci, 4100, .inl fY))] H → va_D A [(g0, .inr (2, [.ref mt, .int (nI n), .int (nI k), .ref mb, .ref mz, .ref mn, .ref my, .int nx, .int wh, .int (jbi (!pw)), .int cu])), (mt, .inl (ci, 100, .inl tp)), (mb, .inl (cz, 41, .inl fB)), (mz, .inl (ci, 41, .inl fZ)), (mn, .inl (ci, 41, .inl fN)), (my, .inl (ci, 4100, .inl fY))] → va_S A s.heap H locs → ∀ ls : Array Slot, lv_has ls 7 [(0, .ref g0), (1, .int i), (2, .int (nI cc)), (3, .int (nI j)), (4, .long (je8 (fun b => if cc + b < z j then y j (cc + b) else 0) b)), (6, .int (nI b))] → W p l e rm_M_bytes s m av below meth c H locs 0 0 (MQ below (va_Ql (fun (x : Int64) (_ : Unit) => jop_by ((n, t), (k, r, z, u, y), (nx, wh, pw, ct)) i kv x) (j_post D (jT cb ci cz) (fun _ => [(g0, .inr (2, [.ref mt, .int (nI n), .int (nI k), .ref mb, .ref mz, .ref mn, .ref my, .int nx, .int wh, .int (jbi (!pw)), .int cu])), (mt, .inl (ci, 100, .inl tp)), (mb, .inl (cz, 41, .inl fB)), (mz, .inl (ci, 41, .inl fZ)), (mn, .inl (ci, 41, .inl fN)), (my, .inl (ci, 4100, .inl fY))]) A) A) av s 0 0 A) (F0 m 24 ls []) := by
        clear hP hD hS hl
        intro fuel
        induction fuel with
        | zero => intro b hf hb8; exfalso; omega
        | succ fuel ih24 =>
          intro b hf hb8 H locs hP hD hS ls hl
          refine lv_iload hx hb dX2_bytes_24 (lv_at hl 5 rfl) ?_
          refine lv_bipush (v := (nI 8)) hx hb dX2_bytes_26 (by decide +kernel) ?_
          refine lv_icmp_ge (tgt := 87) hx hb dX2_bytes_28 (by decide) (fun c_28_3 => ?_) (fun c_28_3 => ?_)
          · rw [nI_leI (show 8 < 2 ^ 31 by omega) (show b < 2 ^ 31 by omega)] at c_28_3
            have hb8 : b = 8 := by omega
            rw [hb8] at hl
            refine lv_lload hx hb dX2_bytes_87 (lv_at hl 4 rfl) ?_
            exact j_lret (v := (je8 (fun b => if cc + b < z j then y j (cc + b) else 0) 8)) (()) hx hb hr hlk hK hP hD hS (Or.inl ⟨j, hj, by rw [hkv, if_neg (nI_pos hc31), nI_clamp hc31]⟩) dX2_bytes_89
          · rw [nI_leI (show 8 < 2 ^ 31 by omega) (show b < 2 ^ 31 by omega)] at c_28_3
            refine lv_lload hx hb dX2_bytes_31 (lv_at hl 4 rfl) ?_
            refine lv_bipush (v := (nI 8)) hx hb dX2_bytes_33 (by decide +kernel) ?_
            refine lv_lshl hx hb dX2_bytes_35 rfl ?_
            refine lv_iload_n hx hb dX2_bytes_36 rfl (lv_at hl 2 rfl) ?_
            refine lv_aload_n hx hb dX2_bytes_37 rfl (lv_at hl 0 rfl) ?_
            refine va_get (D := D) (ci := 2) (v := .ref mz) (C := RX2) (T := TX2) (N := 11) hx hb hts (by decide +kernel) hown hK hP 0 rfl rfl 4 (by decide) (hts (.fieldLink RX2 17 "JournalDeskModel" "sizes" "[I") (by decide +kernel)) (fun _ h9 => h9) rfl dX2_bytes_38 ?_
            refine lv_iload_n hx hb dX2_bytes_41 rfl (lv_at hl 3 rfl) ?_
            have hzj := hz j hj.2.1
            refine j_iald hx hb hK hP 3 1 rfl rfl (i := j) (by have := hj.2.1; omega) (by decide) (v := (nI (z j))) (hE.2.1 j hj.2.1) dX2_bytes_42 ?_
            refine lv_icmp_ge (tgt := 76) hx hb dX2_bytes_43 (by decide) (fun c_43_4 => ?_) (fun c_43_4 => ?_)
            · rw [nI_leI (show z j < 2 ^ 31 by omega) (show cc < 2 ^ 31 by omega)] at c_43_4
              refine lv_iconst (v := (nI 0)) hx hb dX2_bytes_76 (by decide +kernel) ?_
              refine lv_i2l hx hb dX2_bytes_77 rfl ?_
              refine lv_lor hx hb dX2_bytes_78 ?_
              refine jt_l (y := (je8 (fun b => if cc + b < z j then y j (cc + b) else 0) (b + 1))) (by show _ = (je8 (fun b => if cc + b < z j then y j (cc + b) else 0) b <<< _) ||| Int32.toInt64 (if cc + b < z j then y j (cc + b) else 0); rw [if_neg (by omega)]; try rfl) ?_
              refine lv_lstore (lv' := [(4, .long (je8 (fun b => if cc + b < z j then y j (cc + b) else 0) (b + 1))), (0, .ref g0), (1, .int i), (2, .int (nI cc)), (3, .int (nI j)), (6, .int (nI b))]) hx hb dX2_bytes_79 hl (by decide) rfl (fun ls hl => ?_)
              refine lv_iinc (v := (nI (b + 1))) (lv' := [(6, .int (nI (b + 1))), (4, .long (je8 (fun b => if cc + b < z j then y j (cc + b) else 0) (b + 1))), (0, .ref g0), (1, .int i), (2, .int (nI cc)), (3, .int (nI j))]) hx hb dX2_bytes_81 hl (k := 5) rfl (nI_1 _) (by decide) rfl (fun ls hl => ?_)
              refine lv_goto (tgt := 24) hx hb dX2_bytes_84 (by decide) ?_
              exact ih24 (b + 1) (by omega) (by omega) _ _ hP hD hS ls (lv_sub hl [2, 3, 4, 5, 1, 0] rfl)
            · rw [nI_leI (show z j < 2 ^ 31 by omega) (show cc < 2 ^ 31 by omega)] at c_43_4
              refine lv_iload hx hb dX2_bytes_46 (lv_at hl 5 rfl) ?_
              refine lv_aload_n hx hb dX2_bytes_48 rfl (lv_at hl 0 rfl) ?_
              refine va_get (D := D) (ci := 2) (v := .ref mz) (C := RX2) (T := TX2) (N := 11) hx hb hts (by decide +kernel) hown hK hP 0 rfl rfl 4 (by decide) (hts (.fieldLink RX2 17 "JournalDeskModel" "sizes" "[I") (by decide +kernel)) (fun _ h9 => h9) rfl dX2_bytes_49 ?_
              refine lv_iload_n hx hb dX2_bytes_52 rfl (lv_at hl 3 rfl) ?_
              refine j_iald hx hb hK hP 3 1 rfl rfl (i := j) (by have := hj.2.1; omega) (by decide) (v := (nI (z j))) (hE.2.1 j hj.2.1) dX2_bytes_53 ?_
              refine lv_iload_n hx hb dX2_bytes_54 rfl (lv_at hl 2 rfl) ?_
              refine lv_isub hx hb dX2_bytes_55 ?_
              refine jt_i (y := (nI ((z j) - cc))) (pk_sub (by omega)) ?_
              refine lv_icmp_ge (tgt := 76) hx hb dX2_bytes_56 (by decide) (fun c_56_5 => ?_) (fun c_56_5 => ?_)
              · rw [nI_leI (show (z j) - cc < 2 ^ 31 by omega) (show b < 2 ^ 31 by omega)] at c_56_5
                refine lv_iconst (v := (nI 0)) hx hb dX2_bytes_76 (by decide +kernel) ?_
                refine lv_i2l hx hb dX2_bytes_77 rfl ?_
                refine lv_lor hx hb dX2_bytes_78 ?_
                refine jt_l (y := (je8 (fun b => if cc + b < z j then y j (cc + b) else 0) (b + 1))) (by show _ = (je8 (fun b => if cc + b < z j then y j (cc + b) else 0) b <<< _) ||| Int32.toInt64 (if cc + b < z j then y j (cc + b) else 0); rw [if_neg (by omega)]; try rfl) ?_
                refine lv_lstore (lv' := [(4, .long (je8 (fun b => if cc + b < z j then y j (cc + b) else 0) (b + 1))), (0, .ref g0), (1, .int i), (2, .int (nI cc)), (3, .int (nI j)), (6, .int (nI b))]) hx hb dX2_bytes_79 hl (by decide) rfl (fun ls hl => ?_)
                refine lv_iinc (v := (nI (b + 1))) (lv' := [(6, .int (nI (b + 1))), (4, .long (je8 (fun b => if cc + b < z j then y j (cc + b) else 0) (b + 1))), (0, .ref g0), (1, .int i), (2, .int (nI cc)), (3, .int (nI j))]) hx hb dX2_bytes_81 hl (k := 5) rfl (nI_1 _) (by decide) rfl (fun ls hl => ?_)
                refine lv_goto (tgt := 24) hx hb dX2_bytes_84 (by decide) ?_
                exact ih24 (b + 1) (by omega) (by omega) _ _ hP hD hS ls (lv_sub hl [2, 3, 4, 5, 1, 0] rfl)
              · rw [nI_leI (show (z j) - cc < 2 ^ 31 by omega) (show b < 2 ^ 31 by omega)] at c_56_5
                refine lv_aload_n hx hb dX2_bytes_59 rfl (lv_at hl 0 rfl) ?_
                refine va_get (D := D) (ci := 2) (v := .ref my) (C := RX2) (T := TX2) (N := 11) hx hb hts (by decide +kernel) hown hK hP 0 rfl rfl 6 (by decide) (hts (.fieldLink RX2 23 "JournalDeskModel" "bytes" "[I") (by decide +kernel)) (fun _ h9 => h9) rfl dX2_bytes_60 ?_
                refine lv_bipush (v := (nI 100)) hx hb dX2_bytes_63 (by decide +kernel) ?_
                refine lv_iload_n hx hb dX2_bytes_65 rfl (lv_at hl 3 rfl) ?_
                refine lv_imul hx hb dX2_bytes_66 ?_
                refine jt_i (y := (nI (100 * j))) (pk_mul _ _) ?_
                refine lv_iload_n hx hb dX2_bytes_67 rfl (lv_at hl 2 rfl) ?_
                refine lv_iadd hx hb dX2_bytes_68 ?_
                refine jt_i (y := (nI ((100 * j) + cc))) (nI_add _ _) ?_
                refine lv_iload hx hb dX2_bytes_69 (lv_at hl 5 rfl) ?_
                refine lv_iadd hx hb dX2_bytes_71 ?_
                refine jt_i (y := (nI (((100 * j) + cc) + b))) (nI_add _ _) ?_
                refine j_iald hx hb hK hP 5 1 rfl rfl (i := ((100 * j) + cc) + b) (by omega) (by decide) (v := (y j (cc + b))) (by rw [Nat.add_assoc]; exact hE.2.2.2 j (cc + b) hj.2.1 (by omega)) dX2_bytes_72 ?_
                refine lv_goto (tgt := 77) hx hb dX2_bytes_73 (by decide) ?_
                refine lv_i2l hx hb dX2_bytes_77 rfl ?_
                refine lv_lor hx hb dX2_bytes_78 ?_
                refine jt_l (y := (je8 (fun b => if cc + b < z j then y j (cc + b) else 0) (b + 1))) (by show _ = (je8 (fun b => if cc + b < z j then y j (cc + b) else 0) b <<< _) ||| Int32.toInt64 (if cc + b < z j then y j (cc + b) else 0); rw [if_pos (by omega)]; try rfl) ?_
                refine lv_lstore (lv' := [(4, .long (je8 (fun b => if cc + b < z j then y j (cc + b) else 0) (b + 1))), (0, .ref g0), (1, .int i), (2, .int (nI cc)), (3, .int (nI j)), (6, .int (nI b))]) hx hb dX2_bytes_79 hl (by decide) rfl (fun ls hl => ?_)
                refine lv_iinc (v := (nI (b + 1))) (lv' := [(6, .int (nI (b + 1))), (4, .long (je8 (fun b => if cc + b < z j then y j (cc + b) else 0) (b + 1))), (0, .ref g0), (1, .int i), (2, .int (nI cc)), (3, .int (nI j))]) hx hb dX2_bytes_81 hl (k := 5) rfl (nI_1 _) (by decide) rfl (fun ls hl => ?_)
                refine lv_goto (tgt := 24) hx hb dX2_bytes_84 (by decide) ?_
                exact ih24 (b + 1) (by omega) (by omega) _ _ hP hD hS ls (lv_sub hl [2, 3, 4, 5, 1, 0] rfl)
      exact LOOP24 9 0 (by omega) (by omega) _ _ hP hD hS ls (lv_sub hl [3, 4, 5, 2, 1, 0] rfl)
    · have hneg : kv < 0 := Int32.not_le.mp c_11_2
      refine lv_ldc2 (v := (-1)) hx hb hown (hts (.constantLong RX2 68 (-1)) (by decide +kernel)) dX2_bytes_14 ?_
      exact j_lret (v := (-1)) (()) hx hb hr hlk hK hP hD hS (Or.inl ⟨j, hj, (if_pos hneg).symm⟩) dX2_bytes_17
abbrev rm_M_count : Room := { frames := 2, cells := 0, slots := 0, locals := 42 }
set_option maxHeartbeats 4000000 in
set_option maxRecDepth 100000 in
/-- count, in the reference -/
theorem c_M_count (l : Launch) (D : va_G) (cb ci cz : ClassId) (g0 mt mb mz mn my : Nat) (tp fB fZ fN fY : Nat → Int32) (n : Nat) (t : Nat → Int32) (k : Nat) (r : Nat → Bool) (z : Nat → Nat) (u : Nat → Int32) (y : Nat → Nat → Int32) (nx wh : Int32) (pw ct : Bool) (cu : Int32) (wv : Int32) (hn : n ≤ 100) (ht : ∀ j, j < n → tp j = t j) (hus : js (jse r z) k ≤ 40) (hz : ∀ j, j < k → z j ≤ 100) (hE : jE fB fZ fN fY k r z u y) (hcu : cu = -1 ↔ ct = false) (sz : Nat) : Met l yX2_count wsX2_count rm_M_count (va_Pc [.ref g0, .int wv] (j_pre D (jT cb ci cz) [(g0, .inr (2, [.ref mt, .int (nI n), .int (nI k), .ref mb, .ref mz, .ref mn, .ref my, .int nx, .int wh, .int (jbi (!pw)), .int cu])), (mt, .inl (ci, 100, .inl tp)), (mb, .inl (cz, 41, .inl fB)), (mz, .inl (ci, 41, .inl fZ)), (mn, .inl (ci, 41, .inl fN)), (my, .inl (ci, 4100, .inl fY))] sz)) (va_Qi (fun (x : Int32) (_ : Unit) => x = jop_ct ((n, t), (k, r, z, u, y), (nx, wh, pw, ct)) wv) (j_post D (jT cb ci cz) (fun _ => [(g0, .inr (2, [.ref mt, .int (nI n), .int (nI k), .ref mb, .ref mz, .ref mn, .ref my, .int nx, .int wh, .int (jbi (!pw)), .int cu])), (mt, .inl (ci, 100, .inl tp)), (mb, .inl (cz, 41, .inl fB)), (mz, .inl (ci, 41, .inl fZ)), (mn, .inl (ci, 41, .inl fN)), (my, .inl (ci, 4100, .inl fY))]) (va_A [(g0, .inr (2, [.ref mt, .int (nI n), .int (nI k), .ref mb, .ref mz, .ref mn, .ref my, .int nx, .int wh, .int (jbi (!pw)), .int cu])), (mt, .inl (ci, 100, .inl tp)), (mb, .inl (cz, 41, .inl fB)), (mz, .inl (ci, 41, .inl fZ)), (mn, .inl (ci, 41, .inl fN)), (my, .inl (ci, 4100, .inl fY))] sz)) (va_A [(g0, .inr (2, [.ref mt, .int (nI n), .int (nI k), .ref mb, .ref mz, .ref mn, .ref my, .int nx, .int wh, .int (jbi (!pw)), .int cu])), (mt, .inl (ci, 100, .inl tp)), (mb, .inl (cz, 41, .inl fB)), (mz, .inl (ci, 41, .inl fZ)), (mn, .inl (ci, 41, .inl fN)), (my, .inl (ci, 4100, .inl fY))] sz)) 0 0 (va_A [(g0, .inr (2, [.ref mt, .int (nI n), .int (nI k), .ref mb, .ref mz, .ref mn, .ref my, .int nx, .int wh, .int (jbi (!pw)), .int cu])), (mt, .inl (ci, 100, .inl tp)), (mb, .inl (cz, 41, .inl fB)), (mz, .inl (ci, 41, .inl fZ)), (mn, .inl (ci, 41, .inl fN)), (my, .inl (ci, 4100, .inl fY))] sz) := by
  refine j_in (Qc := fun A => (va_Qi (fun (x : Int32) (_ : Unit) => x = jop_ct ((n, t), (k, r, z, u, y), (nx, wh, pw, ct)) wv) (j_post D (jT cb ci cz) (fun _ => [(g0, .inr (2, [.ref mt, .int (nI n), .int (nI k), .ref mb, .ref mz, .ref mn, .ref my, .int nx, .int wh, .int (jbi (!pw)), .int cu])), (mt, .inl (ci, 100, .inl tp)), (mb, .inl (cz, 41, .inl fB)), (mz, .inl (ci, 41, .inl fZ)), (mn, .inl (ci, 41, .inl fN)), (my, .inl (ci, 4100, .inl fY))]) A) A)) (cc := cX2_count) (maxL := 2) (ret := (some .int)) (by decide) rfl (Nat.le_of_ble_eq_true rfl) ?_
  intro p e s m av below meth c A ls H locs hx hb hr hml hts hown hlk hin hA hP hK hD hS hl
  have hown : s.vm.findClass RX2 = some m.cls := hown
  have hl : lv_has ls 2 [(0, .ref g0), (1, .int wv)] := hl
  have hk40 : k ≤ 40 := Nat.le_trans (js_ge (jse_pos r z) k) hus
  refine lv_iload_n hx hb dX2_count_0 rfl (lv_at hl 1 rfl) ?_
  by_cases hsw0 : wv = 0
  · refine lv_tableIn (tgt := 36) hx hb dX2_count_1 (by rw [hsw0]; decide +kernel) (by rw [hsw0]; decide +kernel) (off := 35) (by rw [hsw0]; decide +kernel) (by decide) ?_
    refine lv_aload_n hx hb dX2_count_36 rfl (lv_at hl 0 rfl) ?_
    refine va_get (D := D) (ci := 2) (v := .int (nI n)) (C := RX2) (T := TX2) (N := 11) hx hb hts (by decide +kernel) hown hK hP 0 rfl rfl 1 (by decide) (hts (.fieldLink RX2 30 "JournalDeskModel" "taped" "I") (by decide +kernel)) (fun _ h9 => h9) rfl dX2_count_37 ?_
    exact j_iret (v := (nI n)) (()) hx hb hr hlk hK hP hD hS (by show _ = (if wv = 0 then _ else if wv = 1 then _ else if wv = 2 then _ else if wv = 3 then _ else if wv = 4 then _ else _); rw [if_pos hsw0]) dX2_count_40
  by_cases hsw1 : wv = 1
  · refine lv_tableIn (tgt := 41) hx hb dX2_count_1 (by rw [hsw1]; decide +kernel) (by rw [hsw1]; decide +kernel) (off := 40) (by rw [hsw1]; decide +kernel) (by decide) ?_
    refine lv_aload_n hx hb dX2_count_41 rfl (lv_at hl 0 rfl) ?_
    refine va_get (D := D) (ci := 2) (v := .int (jbi (!pw))) (C := RX2) (T := TX2) (N := 11) hx hb hts (by decide +kernel) hown hK hP 0 rfl rfl 9 (by decide) (hts (.fieldLink RX2 40 "JournalDeskModel" "off" "Z") (by decide +kernel)) (fun _ h9 => h9) rfl dX2_count_42 ?_
    refine lv_if_eq (tgt := 52) hx hb dX2_count_45 (by decide) (fun c_45_1 => ?_) (fun c_45_1 => ?_)
    · have hpw : pw = true := jbn_f c_45_1
      refine lv_aload_n hx hb dX2_count_52 rfl (lv_at hl 0 rfl) ?_
      refine j_calli (wr := []) hP hD hS hA [0, 1, 2, 3, 4, 5] [] rfl rfl (by decide) (by decide) (va_runV (As := []) (rest := []) ⟨hx, hb, hml, hown, hts⟩ (c_M_records l D cb ci cz g0 mt mb mz mn my tp fB fZ fN fY n k nx wh (jbi (!pw)) cu r hE.1 (by omega) H.size) (cwV 0 hts gqX2_count_X2_records rfl rfl rfl (by decide +kernel) ⟨Nat.le_of_ble_eq_true rfl, Nat.le_of_ble_eq_true rfl⟩) (j_preV (ci := 2) (q0 := 0) [0, 1, 2, 3, 4, 5] [0, 1, 2] hK hP hD rfl rfl rfl rfl rfl rfl) rfl rfl hl.1 rfl (lv_room (Nat.le_of_ble_eq_true rfl)) dX2_count_53 ⟨Nat.le_of_ble_eq_true rfl, Nat.le_of_ble_eq_true rfl⟩) (fun r53 u9 H locs hw hP hD hS => ?_)
      have hP : va_P D vwCl [(g0, .inr (2, [.ref mt, .int (nI n), .int (nI k), .ref mb, .ref mz, .ref mn, .ref my, .int nx, .int wh, .int (jbi (!pw)), .int cu])), (mt, .inl (ci, 100, .inl tp)), (mb, .inl (cz, 41, .inl fB)), (mz, .inl (ci, 41, .inl fZ)), (mn, .inl (ci, 41, .inl fN)), (my, .inl (ci, 4100, .inl fY))] H := hP
      have hD : va_D A [(g0, .inr (2, [.ref mt, .int (nI n), .int (nI k), .ref mb, .ref mz, .ref mn, .ref my, .int nx, .int wh, .int (jbi (!pw)), .int cu])), (mt, .inl (ci, 100, .inl tp)), (mb, .inl (cz, 41, .inl fB)), (mz, .inl (ci, 41, .inl fZ)), (mn, .inl (ci, 41, .inl fN)), (my, .inl (ci, 4100, .inl fY))] := hD
      have hw : r53 = (nI (js (jcn r) k)) := hw
      subst hw
      exact j_iret (v := (nI (js (jcn r) k))) (()) hx hb hr hlk hK hP hD hS (by show _ = (if wv = 0 then _ else if wv = 1 then _ else if wv = 2 then _ else if wv = 3 then _ else if wv = 4 then _ else _); rw [if_neg hsw0, if_pos hsw1, if_pos hpw]) dX2_count_56
    · have hpw : pw = false := jbn_t c_45_1
      refine lv_iconst (v := (nI 0)) hx hb dX2_count_48 (by decide +kernel) ?_
      refine lv_goto (tgt := 56) hx hb dX2_count_49 (by decide) ?_
      exact j_iret (v := (nI 0)) (()) hx hb hr hlk hK hP hD hS (by show _ = (if wv = 0 then _ else if wv = 1 then _ else if wv = 2 then _ else if wv = 3 then _ else if wv = 4 then _ else _); rw [if_neg hsw0, if_pos hsw1, if_neg (by rw [hpw]; decide)]; rfl) dX2_count_56
  by_cases hsw2 : wv = 2
  · refine lv_tableIn (tgt := 57) hx hb dX2_count_1 (by rw [hsw2]; decide +kernel) (by rw [hsw2]; decide +kernel) (off := 56) (by rw [hsw2]; decide +kernel) (by decide) ?_
    refine lv_aload_n hx hb dX2_count_57 rfl (lv_at hl 0 rfl) ?_
    refine va_get (D := D) (ci := 2) (v := .int (jbi (!pw))) (C := RX2) (T := TX2) (N := 11) hx hb hts (by decide +kernel) hown hK hP 0 rfl rfl 9 (by decide) (hts (.fieldLink RX2 40 "JournalDeskModel" "off" "Z") (by decide +kernel)) (fun _ h9 => h9) rfl dX2_count_58 ?_
    refine lv_if_eq (tgt := 68) hx hb dX2_count_61 (by decide) (fun c_61_2 => ?_) (fun c_61_2 => ?_)
    · have hpw : pw = true := jbn_f c_61_2
      refine lv_aload_n hx hb dX2_count_68 rfl (lv_at hl 0 rfl) ?_
      refine j_calli (wr := []) hP hD hS hA [0, 1, 2, 3, 4, 5] [] rfl rfl (by decide) (by decide) (va_runV (As := []) (rest := []) ⟨hx, hb, hml, hown, hts⟩ (c_M_used l D cb ci cz g0 mt mb mz mn my tp fB fZ fN fY n k nx wh (jbi (!pw)) cu r z hE.1 (by omega) hE.2.1 hz H.size) (cwV 0 hts gqX2_count_X2_used rfl rfl rfl (by decide +kernel) ⟨Nat.le_of_ble_eq_true rfl, Nat.le_of_ble_eq_true rfl⟩) (j_preV (ci := 2) (q0 := 0) [0, 1, 2, 3, 4, 5] [0, 1, 2] hK hP hD rfl rfl rfl rfl rfl rfl) rfl rfl hl.1 rfl (lv_room (Nat.le_of_ble_eq_true rfl)) dX2_count_69 ⟨Nat.le_of_ble_eq_true rfl, Nat.le_of_ble_eq_true rfl⟩) (fun r69 u9 H locs hw hP hD hS => ?_)
      have hP : va_P D vwCl [(g0, .inr (2, [.ref mt, .int (nI n), .int (nI k), .ref mb, .ref mz, .ref mn, .ref my, .int nx, .int wh, .int (jbi (!pw)), .int cu])), (mt, .inl (ci, 100, .inl tp)), (mb, .inl (cz, 41, .inl fB)), (mz, .inl (ci, 41, .inl fZ)), (mn, .inl (ci, 41, .inl fN)), (my, .inl (ci, 4100, .inl fY))] H := hP
      have hD : va_D A [(g0, .inr (2, [.ref mt, .int (nI n), .int (nI k), .ref mb, .ref mz, .ref mn, .ref my, .int nx, .int wh, .int (jbi (!pw)), .int cu])), (mt, .inl (ci, 100, .inl tp)), (mb, .inl (cz, 41, .inl fB)), (mz, .inl (ci, 41, .inl fZ)), (mn, .inl (ci, 41, .inl fN)), (my, .inl (ci, 4100, .inl fY))] := hD
      have hw : r69 = (nI (js (jse r z) k)) := hw
      subst hw
      exact j_iret (v := (nI (js (jse r z) k))) (()) hx hb hr hlk hK hP hD hS (by show _ = (if wv = 0 then _ else if wv = 1 then _ else if wv = 2 then _ else if wv = 3 then _ else if wv = 4 then _ else _); rw [if_neg hsw0, if_neg hsw1, if_pos hsw2, if_pos hpw]) dX2_count_72
    · have hpw : pw = false := jbn_t c_61_2
      refine lv_iconst (v := (nI 0)) hx hb dX2_count_64 (by decide +kernel) ?_
      refine lv_goto (tgt := 72) hx hb dX2_count_65 (by decide) ?_
      exact j_iret (v := (nI 0)) (()) hx hb hr hlk hK hP hD hS (by show _ = (if wv = 0 then _ else if wv = 1 then _ else if wv = 2 then _ else if wv = 3 then _ else if wv = 4 then _ else _); rw [if_neg hsw0, if_neg hsw1, if_pos hsw2, if_neg (by rw [hpw]; decide)]; rfl) dX2_count_72
  by_cases hsw3 : wv = 3
  · refine lv_tableIn (tgt := 73) hx hb dX2_count_1 (by rw [hsw3]; decide +kernel) (by rw [hsw3]; decide +kernel) (off := 72) (by rw [hsw3]; decide +kernel) (by decide) ?_
    refine lv_aload_n hx hb dX2_count_73 rfl (lv_at hl 0 rfl) ?_
    refine va_get (D := D) (ci := 2) (v := .int wh) (C := RX2) (T := TX2) (N := 11) hx hb hts (by decide +kernel) hown hK hP 0 rfl rfl 8 (by decide) (hts (.fieldLink RX2 55 "JournalDeskModel" "whole" "I") (by decide +kernel)) (fun _ h9 => h9) rfl dX2_count_74 ?_
    exact j_iret (v := wh) (()) hx hb hr hlk hK hP hD hS (by show _ = (if wv = 0 then _ else if wv = 1 then _ else if wv = 2 then _ else if wv = 3 then _ else if wv = 4 then _ else _); rw [if_neg hsw0, if_neg hsw1, if_neg hsw2, if_pos hsw3]) dX2_count_77
  by_cases hsw4 : wv = 4
  · refine lv_tableIn (tgt := 78) hx hb dX2_count_1 (by rw [hsw4]; decide +kernel) (by rw [hsw4]; decide +kernel) (off := 77) (by rw [hsw4]; decide +kernel) (by decide) ?_
    refine lv_aload_n hx hb dX2_count_78 rfl (lv_at hl 0 rfl) ?_
    refine va_get (D := D) (ci := 2) (v := .int (jbi (!pw))) (C := RX2) (T := TX2) (N := 11) hx hb hts (by decide +kernel) hown hK hP 0 rfl rfl 9 (by decide) (hts (.fieldLink RX2 40 "JournalDeskModel" "off" "Z") (by decide +kernel)) (fun _ h9 => h9) rfl dX2_count_79 ?_
    refine lv_if_eq (tgt := 89) hx hb dX2_count_82 (by decide) (fun c_82_3 => ?_) (fun c_82_3 => ?_)
    · have hpw : pw = true := jbn_f c_82_3
      refine lv_iconst (v := (nI 1)) hx hb dX2_count_89 (by decide +kernel) ?_
      exact j_iret (v := (nI 1)) (()) hx hb hr hlk hK hP hD hS (by show _ = (if wv = 0 then _ else if wv = 1 then _ else if wv = 2 then _ else if wv = 3 then _ else if wv = 4 then _ else _); rw [if_neg hsw0, if_neg hsw1, if_neg hsw2, if_neg hsw3, if_pos hsw4, hpw]; rfl) dX2_count_90
    · have hpw : pw = false := jbn_t c_82_3
      refine lv_iconst (v := (nI 0)) hx hb dX2_count_85 (by decide +kernel) ?_
      refine lv_goto (tgt := 90) hx hb dX2_count_86 (by decide) ?_
      exact j_iret (v := (nI 0)) (()) hx hb hr hlk hK hP hD hS (by show _ = (if wv = 0 then _ else if wv = 1 then _ else if wv = 2 then _ else if wv = 3 then _ else if wv = 4 then _ else _); rw [if_neg hsw0, if_neg hsw1, if_neg hsw2, if_neg hsw3, if_pos hsw4, hpw]; rfl) dX2_count_90
  refine lv_tableOut (tgt := 91) hx hb dX2_count_1 (by have a0 := lv_neT (k := 0) (a := 0) hsw0 (by decide +kernel); have a1 := lv_neT (k := 1) (a := 1) hsw1 (by decide +kernel); have a2 := lv_neT (k := 2) (a := 2) hsw2 (by decide +kernel); have a3 := lv_neT (k := 3) (a := 3) hsw3 (by decide +kernel); have a4 := lv_neT (k := 4) (a := 4) hsw4 (by decide +kernel); omega) (by decide) ?_
  refine lv_iconst (v := (-1)) hx hb dX2_count_91 (by decide +kernel) ?_
  exact j_iret (v := (-1)) (()) hx hb hr hlk hK hP hD hS (by show _ = (if wv = 0 then _ else if wv = 1 then _ else if wv = 2 then _ else if wv = 3 then _ else if wv = 4 then _ else _); rw [if_neg hsw0, if_neg hsw1, if_neg hsw2, if_neg hsw3, if_neg hsw4]) dX2_count_92
