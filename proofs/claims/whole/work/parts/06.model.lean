abbrev rm_M_sectorsOf : Room := { frames := 0, cells := 0, slots := 0, locals := 0 }
set_option maxHeartbeats 4000000 in
set_option maxRecDepth 100000 in
/-- the sectors of a bytes, in the reference -/
theorem c_M_sectorsOf (l : Launch) (D : va_G) (cb ci cz : ClassId) (a : Nat) (ha : a ≤ 100) (sz : Nat) : Met l yX2_sectorsOf wsX2_sectorsOf rm_M_sectorsOf (va_Pc [.int (nI a)] (j_pre D (jT cb ci cz) [] sz)) (va_Qi (fun (x : Int32) (_ : Unit) => x = nI (jsc a)) (j_post D (jT cb ci cz) (fun _ => []) (va_A [] sz)) (va_A [] sz)) 0 0 (va_A [] sz) := by
  refine j_in (Qc := fun A => (va_Qi (fun (x : Int32) (_ : Unit) => x = nI (jsc a)) (j_post D (jT cb ci cz) (fun _ => []) A) A)) (cc := cX2_sectorsOf) (maxL := 1) (ret := (some .int)) (by decide) rfl (Nat.le_of_ble_eq_true rfl) ?_
  intro p e s m av below meth c A ls H locs hx hb hr hml hts hown hlk hin hA hP hK hD hS hl
  have hown : s.vm.findClass RX2 = some m.cls := hown
  have hl : lv_has ls 1 [(0, .int (nI a))] := hl
  refine lv_iload_n hx hb dX2_sectorsOf_0 rfl (lv_at hl 0 rfl) ?_
  refine lv_bipush (v := (nI 12)) hx hb dX2_sectorsOf_1 (by decide +kernel) ?_
  refine lv_icmp_gt (tgt := 10) hx hb dX2_sectorsOf_3 (by decide) (fun c_3_1 => ?_) (fun c_3_1 => ?_)
  · rw [nI_ltI (show 12 < 2 ^ 31 by omega) (show a < 2 ^ 31 by omega)] at c_3_1
    refine lv_iconst (v := (nI 1)) hx hb dX2_sectorsOf_10 (by decide +kernel) ?_
    refine lv_iload_n hx hb dX2_sectorsOf_11 rfl (lv_at hl 0 rfl) ?_
    refine lv_bipush (v := (nI 12)) hx hb dX2_sectorsOf_12 (by decide +kernel) ?_
    refine lv_isub hx hb dX2_sectorsOf_14 ?_
    refine jt_i (y := (nI (a - 12))) (pk_sub (by omega)) ?_
    refine lv_bipush (v := (nI 11)) hx hb dX2_sectorsOf_15 (by decide +kernel) ?_
    refine lv_iadd hx hb dX2_sectorsOf_17 ?_
    refine jt_i (y := (nI ((a - 12) + 11))) (nI_add _ _) ?_
    refine lv_bipush (v := (nI 12)) hx hb dX2_sectorsOf_18 (by decide +kernel) ?_
    refine lv_idiv hx hb dX2_sectorsOf_20 (nI_ne0 (by omega) (by omega)) ?_
    refine jt_i (y := (nI (((a - 12) + 11) / 12))) (pk_div (by omega) (by omega) (by omega)) ?_
    refine lv_iadd hx hb dX2_sectorsOf_21 ?_
    refine jt_i (y := (nI (1 + (((a - 12) + 11) / 12)))) (nI_add _ _) ?_
    exact j_iret (v := (nI (1 + (((a - 12) + 11) / 12)))) (()) hx hb hr hlk hK hP hD hS (congrArg nI (by unfold jsc; split <;> omega)) dX2_sectorsOf_22
  · rw [nI_ltI (show 12 < 2 ^ 31 by omega) (show a < 2 ^ 31 by omega)] at c_3_1
    refine lv_iconst (v := (nI 1)) hx hb dX2_sectorsOf_6 (by decide +kernel) ?_
    refine lv_goto (tgt := 22) hx hb dX2_sectorsOf_7 (by decide) ?_
    exact j_iret (v := (nI 1)) (()) hx hb hr hlk hK hP hD hS (congrArg nI (by unfold jsc; split <;> omega)) dX2_sectorsOf_22
abbrev rm_M_used : Room := { frames := 1, cells := 0, slots := 0, locals := 20 }
set_option maxHeartbeats 4000000 in
set_option maxRecDepth 100000 in
/-- the sectors of all entries -/
theorem c_M_used (l : Launch) (D : va_G) (cb ci cz : ClassId) (g0 mt mb mz mn my : Nat) (tp fB fZ fN fY : Nat → Int32) (n k : Nat) (nx wh off cu : Int32) (r : Nat → Bool) (z : Nat → Nat) (hB : ∀ j, j < k → fB j = jbi (r j)) (hk : k ≤ 41) (hZ : ∀ j, j < k → fZ j = nI (z j)) (hz : ∀ j, j < k → z j ≤ 100) (sz : Nat) : Met l yX2_used wsX2_used rm_M_used (va_Pc [.ref g0] (j_pre D (jT cb ci cz) [(g0, .inr (2, [.ref mt, .int (nI n), .int (nI k), .ref mb, .ref mz, .ref mn, .ref my, .int nx, .int wh, .int off, .int cu])), (mt, .inl (ci, 100, .inl tp)), (mb, .inl (cz, 41, .inl fB)), (mz, .inl (ci, 41, .inl fZ)), (mn, .inl (ci, 41, .inl fN)), (my, .inl (ci, 4100, .inl fY))] sz)) (va_Qi (fun (x : Int32) (_ : Unit) => x = nI (js (jse r z) k)) (j_post D (jT cb ci cz) (fun _ => [(g0, .inr (2, [.ref mt, .int (nI n), .int (nI k), .ref mb, .ref mz, .ref mn, .ref my, .int nx, .int wh, .int off, .int cu])), (mt, .inl (ci, 100, .inl tp)), (mb, .inl (cz, 41, .inl fB)), (mz, .inl (ci, 41, .inl fZ)), (mn, .inl (ci, 41, .inl fN)), (my, .inl (ci, 4100, .inl fY))]) (va_A [(g0, .inr (2, [.ref mt, .int (nI n), .int (nI k), .ref mb, .ref mz, .ref mn, .ref my, .int nx, .int wh, .int off, .int cu])), (mt, .inl (ci, 100, .inl tp)), (mb, .inl (cz, 41, .inl fB)), (mz, .inl (ci, 41, .inl fZ)), (mn, .inl (ci, 41, .inl fN)), (my, .inl (ci, 4100, .inl fY))] sz)) (va_A [(g0, .inr (2, [.ref mt, .int (nI n), .int (nI k), .ref mb, .ref mz, .ref mn, .ref my, .int nx, .int wh, .int off, .int cu])), (mt, .inl (ci, 100, .inl tp)), (mb, .inl (cz, 41, .inl fB)), (mz, .inl (ci, 41, .inl fZ)), (mn, .inl (ci, 41, .inl fN)), (my, .inl (ci, 4100, .inl fY))] sz)) 0 0 (va_A [(g0, .inr (2, [.ref mt, .int (nI n), .int (nI k), .ref mb, .ref mz, .ref mn, .ref my, .int nx, .int wh, .int off, .int cu])), (mt, .inl (ci, 100, .inl tp)), (mb, .inl (cz, 41, .inl fB)), (mz, .inl (ci, 41, .inl fZ)), (mn, .inl (ci, 41, .inl fN)), (my, .inl (ci, 4100, .inl fY))] sz) := by
  refine j_in (Qc := fun A => (va_Qi (fun (x : Int32) (_ : Unit) => x = nI (js (jse r z) k)) (j_post D (jT cb ci cz) (fun _ => [(g0, .inr (2, [.ref mt, .int (nI n), .int (nI k), .ref mb, .ref mz, .ref mn, .ref my, .int nx, .int wh, .int off, .int cu])), (mt, .inl (ci, 100, .inl tp)), (mb, .inl (cz, 41, .inl fB)), (mz, .inl (ci, 41, .inl fZ)), (mn, .inl (ci, 41, .inl fN)), (my, .inl (ci, 4100, .inl fY))]) A) A)) (cc := cX2_used) (maxL := 3) (ret := (some .int)) (by decide) rfl (Nat.le_of_ble_eq_true rfl) ?_
  intro p e s m av below meth c A ls H locs hx hb hr hml hts hown hlk hin hA hP hK hD hS hl
  have hown : s.vm.findClass RX2 = some m.cls := hown
  have hl : lv_has ls 3 [(0, .ref g0)] := hl
  refine lv_iconst (v := (nI 0)) hx hb dX2_used_0 (by decide +kernel) ?_
  refine lv_istore_n (lv' := [(1, .int (nI 0)), (0, .ref g0)]) hx hb dX2_used_1 rfl hl (by decide) rfl (fun ls hl => ?_)
  refine lv_iconst (v := (nI 0)) hx hb dX2_used_2 (by decide +kernel) ?_
  refine lv_istore_n (lv' := [(2, .int (nI 0)), (1, .int (nI 0)), (0, .ref g0)]) hx hb dX2_used_3 rfl hl (by decide) rfl (fun ls hl => ?_)
  have LOOP4 : ∀ (fuel : Nat) (i : Nat) (hf : k < i + fuel) (hik : i ≤ k) (H : Heap) (locs : List Loc), va_P D vwCl [(g0, .inr (2, [.ref mt, .int (nI n), .int (nI k), .ref mb, .ref mz, .ref mn, .ref my, .int nx, .int wh, .int off, .int cu])), (mt, .inl (ci, 100, .inl tp)), (mb, .inl (cz, 41, .inl fB)), (mz, .inl (ci, 41, .inl fZ)), (mn, .inl (ci, 41, .inl fN)), (my, .inl (ci, 4100, .inl fY))] H → va_D A [(g0, .inr (2, [.ref mt, .int (nI n), .int (nI k), .ref mb, .ref mz, .ref mn, .ref my, .int nx, .int wh, .int off, .int cu])), (mt, .inl (ci, 100, .inl tp)), (mb, .inl (cz, 41, .inl fB)), (mz, .inl (ci, 41, .inl fZ)), (mn, .inl (ci, 41, .inl fN)), (my, .inl (ci, 4100, .inl fY))] → va_S A s.heap H locs → ∀ ls : Array Slot, lv_has ls 3 [(0, .ref g0), (1, .int (nI (js (jse r z) i))), (2, .int (nI i))] → W p l e rm_M_used s m av below meth c H locs 0 0 (MQ below (va_Qi (fun (x : Int32) (_ : Unit) => x = nI (js (jse r z) k)) (j_post D (jT cb ci cz) (fun _ => [(g0, .inr (2, [.ref mt, .int (nI n), .int (nI k), .ref mb, .ref mz, .ref mn, .ref my, .int nx, .int wh, .int off, .int cu])), (mt, .inl (ci, 100, .inl tp)), (mb, .inl (cz, 41, .inl fB)), (mz, .inl (ci, 41, .inl fZ)), (mn, .inl (ci, 41, .inl fN)), (my, .inl (ci, 4100, .inl fY))]) A) A) av s 0 0 A) (F0 m 4 ls []) := by
    clear hP hD hS hl
    intro fuel
    induction fuel with
    | zero => intro i hf hik; exfalso; omega
    | succ fuel ih4 =>
      intro i hf hik H locs hP hD hS ls hl
      refine lv_iload_n hx hb dX2_used_4 rfl (lv_at hl 2 rfl) ?_
      refine lv_aload_n hx hb dX2_used_5 rfl (lv_at hl 0 rfl) ?_
      refine va_get (D := D) (ci := 2) (v := .int (nI k)) (C := RX2) (T := TX2) (N := 11) hx hb hts (by decide +kernel) hown hK hP 0 rfl rfl 2 (by decide) (hts (.fieldLink RX2 33 "JournalDeskModel" "kept" "I") (by decide +kernel)) (fun _ h9 => h9) rfl dX2_used_6 ?_
      refine lv_icmp_ge (tgt := 43) hx hb dX2_used_9 (by decide) (fun c_9_1 => ?_) (fun c_9_1 => ?_)
      · rw [nI_leI (show k < 2 ^ 31 by omega) (show i < 2 ^ 31 by omega)] at c_9_1
        refine lv_iload_n hx hb dX2_used_43 rfl (lv_at hl 1 rfl) ?_
        have hik2 : i = k := by omega
        exact j_iret (v := (nI (js (jse r z) i))) (()) hx hb hr hlk hK hP hD hS (by rw [hik2]) dX2_used_44
      · rw [nI_leI (show k < 2 ^ 31 by omega) (show i < 2 ^ 31 by omega)] at c_9_1
        refine lv_iload_n hx hb dX2_used_12 rfl (lv_at hl 1 rfl) ?_
        refine lv_aload_n hx hb dX2_used_13 rfl (lv_at hl 0 rfl) ?_
        refine va_get (D := D) (ci := 2) (v := .ref mb) (C := RX2) (T := TX2) (N := 11) hx hb hts (by decide +kernel) hown hK hP 0 rfl rfl 3 (by decide) (hts (.fieldLink RX2 13 "JournalDeskModel" "isRecord" "[Z") (by decide +kernel)) (fun _ h9 => h9) rfl dX2_used_14 ?_
        refine lv_iload_n hx hb dX2_used_17 rfl (lv_at hl 2 rfl) ?_
        refine j_zald hx hb hK hP 2 2 rfl rfl (i := i) (by omega) (by decide) (v := (jbi (r i))) (hB i (by omega)) dX2_used_18 ?_
        refine lv_if_eq (tgt := 34) hx hb dX2_used_19 (by decide) (fun c_19_2 => ?_) (fun c_19_2 => ?_)
        · have hb1 : r i = false := jbi_0.mp c_19_2
          refine lv_iconst (v := (nI 1)) hx hb dX2_used_34 (by decide +kernel) ?_
          refine lv_iadd hx hb dX2_used_35 ?_
          refine jt_i (y := (nI (js (jse r z) (i + 1)))) (by rw [js_step, jse_f hb1]; exact nI_add _ _) ?_
          refine lv_istore_n (lv' := [(1, .int (nI (js (jse r z) (i + 1)))), (0, .ref g0), (2, .int (nI i))]) hx hb dX2_used_36 rfl hl (by decide) rfl (fun ls hl => ?_)
          refine lv_iinc (v := (nI (i + 1))) (lv' := [(2, .int (nI (i + 1))), (1, .int (nI (js (jse r z) (i + 1)))), (0, .ref g0)]) hx hb dX2_used_37 hl (k := 2) rfl (nI_1 _) (by decide) rfl (fun ls hl => ?_)
          refine lv_goto (tgt := 4) hx hb dX2_used_40 (by decide) ?_
          exact ih4 (i + 1) (by omega) (by omega) _ _ hP hD hS ls (lv_sub hl [2, 1, 0] rfl)
        · have hb1 : r i = true := jbi_n0.mp c_19_2
          refine lv_aload_n hx hb dX2_used_22 rfl (lv_at hl 0 rfl) ?_
          refine va_get (D := D) (ci := 2) (v := .ref mz) (C := RX2) (T := TX2) (N := 11) hx hb hts (by decide +kernel) hown hK hP 0 rfl rfl 4 (by decide) (hts (.fieldLink RX2 17 "JournalDeskModel" "sizes" "[I") (by decide +kernel)) (fun _ h9 => h9) rfl dX2_used_23 ?_
          refine lv_iload_n hx hb dX2_used_26 rfl (lv_at hl 2 rfl) ?_
          refine j_iald hx hb hK hP 3 1 rfl rfl (i := i) (by omega) (by decide) (v := (nI (z i))) (hZ i (by omega)) dX2_used_27 ?_
          refine j_calli (wr := [(g0, .inr (2, [.ref mt, .int (nI n), .int (nI k), .ref mb, .ref mz, .ref mn, .ref my, .int nx, .int wh, .int off, .int cu])), (mt, .inl (ci, 100, .inl tp)), (mb, .inl (cz, 41, .inl fB)), (mz, .inl (ci, 41, .inl fZ)), (mn, .inl (ci, 41, .inl fN)), (my, .inl (ci, 4100, .inl fY))]) hP hD hS hA [] [0, 1, 2, 3, 4, 5] rfl rfl (by decide) (by decide) (va_runS (As := [.int (nI (z i))]) (rest := [.int (nI (js (jse r z) i))]) ⟨hx, hb, hml, hown, hts⟩ (c_M_sectorsOf l D cb ci cz (z i) (hz i (by omega)) H.size) (va_cwS 1 hts gX2_used_X2_sectorsOf rfl rfl rfl (by decide +kernel) ⟨Nat.le_of_ble_eq_true rfl, Nat.le_of_ble_eq_true rfl⟩) (j_preS [] [0, 1, 2] hK hP hD rfl rfl rfl rfl) rfl rfl hl.1 rfl (lv_room (Nat.le_of_ble_eq_true rfl)) dX2_used_28 ⟨Nat.le_of_ble_eq_true rfl, Nat.le_of_ble_eq_true rfl⟩) (fun r28 u9 H locs hw hP hD hS => ?_)
          have hP : va_P D vwCl [(g0, .inr (2, [.ref mt, .int (nI n), .int (nI k), .ref mb, .ref mz, .ref mn, .ref my, .int nx, .int wh, .int off, .int cu])), (mt, .inl (ci, 100, .inl tp)), (mb, .inl (cz, 41, .inl fB)), (mz, .inl (ci, 41, .inl fZ)), (mn, .inl (ci, 41, .inl fN)), (my, .inl (ci, 4100, .inl fY))] H := hP
          have hD : va_D A [(g0, .inr (2, [.ref mt, .int (nI n), .int (nI k), .ref mb, .ref mz, .ref mn, .ref my, .int nx, .int wh, .int off, .int cu])), (mt, .inl (ci, 100, .inl tp)), (mb, .inl (cz, 41, .inl fB)), (mz, .inl (ci, 41, .inl fZ)), (mn, .inl (ci, 41, .inl fN)), (my, .inl (ci, 4100, .inl fY))] := hD
          have hw : r28 = (nI (jsc (z i))) := hw
          subst hw
          refine lv_goto (tgt := 35) hx hb dX2_used_31 (by decide) ?_
          refine lv_iadd hx hb dX2_used_35 ?_
          refine jt_i (y := (nI (js (jse r z) (i + 1)))) (by rw [js_step, jse_t hb1]; exact nI_add _ _) ?_
          refine lv_istore_n (lv' := [(1, .int (nI (js (jse r z) (i + 1)))), (0, .ref g0), (2, .int (nI i))]) hx hb dX2_used_36 rfl hl (by decide) rfl (fun ls hl => ?_)
          refine lv_iinc (v := (nI (i + 1))) (lv' := [(2, .int (nI (i + 1))), (1, .int (nI (js (jse r z) (i + 1)))), (0, .ref g0)]) hx hb dX2_used_37 hl (k := 2) rfl (nI_1 _) (by decide) rfl (fun ls hl => ?_)
          refine lv_goto (tgt := 4) hx hb dX2_used_40 (by decide) ?_
          exact ih4 (i + 1) (by omega) (by omega) _ _ hP hD hS ls (lv_sub hl [2, 1, 0] rfl)
  exact LOOP4 (k + 1) 0 (by omega) (by omega) _ _ hP hD hS ls (lv_sub hl [2, 1, 0] rfl)
abbrev rm_M_records : Room := { frames := 0, cells := 0, slots := 0, locals := 0 }
set_option maxHeartbeats 4000000 in
set_option maxRecDepth 100000 in
/-- the records among all entries -/
theorem c_M_records (l : Launch) (D : va_G) (cb ci cz : ClassId) (g0 mt mb mz mn my : Nat) (tp fB fZ fN fY : Nat → Int32) (n k : Nat) (nx wh off cu : Int32) (r : Nat → Bool) (hB : ∀ j, j < k → fB j = jbi (r j)) (hk : k ≤ 41) (sz : Nat) : Met l yX2_records wsX2_records rm_M_records (va_Pc [.ref g0] (j_pre D (jT cb ci cz) [(g0, .inr (2, [.ref mt, .int (nI n), .int (nI k), .ref mb, .ref mz, .ref mn, .ref my, .int nx, .int wh, .int off, .int cu])), (mt, .inl (ci, 100, .inl tp)), (mb, .inl (cz, 41, .inl fB)), (mz, .inl (ci, 41, .inl fZ)), (mn, .inl (ci, 41, .inl fN)), (my, .inl (ci, 4100, .inl fY))] sz)) (va_Qi (fun (x : Int32) (_ : Unit) => x = nI (js (jcn r) k)) (j_post D (jT cb ci cz) (fun _ => [(g0, .inr (2, [.ref mt, .int (nI n), .int (nI k), .ref mb, .ref mz, .ref mn, .ref my, .int nx, .int wh, .int off, .int cu])), (mt, .inl (ci, 100, .inl tp)), (mb, .inl (cz, 41, .inl fB)), (mz, .inl (ci, 41, .inl fZ)), (mn, .inl (ci, 41, .inl fN)), (my, .inl (ci, 4100, .inl fY))]) (va_A [(g0, .inr (2, [.ref mt, .int (nI n), .int (nI k), .ref mb, .ref mz, .ref mn, .ref my, .int nx, .int wh, .int off, .int cu])), (mt, .inl (ci, 100, .inl tp)), (mb, .inl (cz, 41, .inl fB)), (mz, .inl (ci, 41, .inl fZ)), (mn, .inl (ci, 41, .inl fN)), (my, .inl (ci, 4100, .inl fY))] sz)) (va_A [(g0, .inr (2, [.ref mt, .int (nI n), .int (nI k), .ref mb, .ref mz, .ref mn, .ref my, .int nx, .int wh, .int off, .int cu])), (mt, .inl (ci, 100, .inl tp)), (mb, .inl (cz, 41, .inl fB)), (mz, .inl (ci, 41, .inl fZ)), (mn, .inl (ci, 41, .inl fN)), (my, .inl (ci, 4100, .inl fY))] sz)) 0 0 (va_A [(g0, .inr (2, [.ref mt, .int (nI n), .int (nI k), .ref mb, .ref mz, .ref mn, .ref my, .int nx, .int wh, .int off, .int cu])), (mt, .inl (ci, 100, .inl tp)), (mb, .inl (cz, 41, .inl fB)), (mz, .inl (ci, 41, .inl fZ)), (mn, .inl (ci, 41, .inl fN)), (my, .inl (ci, 4100, .inl fY))] sz) := by
  refine j_in (Qc := fun A => (va_Qi (fun (x : Int32) (_ : Unit) => x = nI (js (jcn r) k)) (j_post D (jT cb ci cz) (fun _ => [(g0, .inr (2, [.ref mt, .int (nI n), .int (nI k), .ref mb, .ref mz, .ref mn, .ref my, .int nx, .int wh, .int off, .int cu])), (mt, .inl (ci, 100, .inl tp)), (mb, .inl (cz, 41, .inl fB)), (mz, .inl (ci, 41, .inl fZ)), (mn, .inl (ci, 41, .inl fN)), (my, .inl (ci, 4100, .inl fY))]) A) A)) (cc := cX2_records) (maxL := 3) (ret := (some .int)) (by decide) rfl (Nat.le_of_ble_eq_true rfl) ?_
  intro p e s m av below meth c A ls H locs hx hb hr hml hts hown hlk hin hA hP hK hD hS hl
  have hown : s.vm.findClass RX2 = some m.cls := hown
  have hl : lv_has ls 3 [(0, .ref g0)] := hl
  refine lv_iconst (v := (nI 0)) hx hb dX2_records_0 (by decide +kernel) ?_
  refine lv_istore_n (lv' := [(1, .int (nI 0)), (0, .ref g0)]) hx hb dX2_records_1 rfl hl (by decide) rfl (fun ls hl => ?_)
  refine lv_iconst (v := (nI 0)) hx hb dX2_records_2 (by decide +kernel) ?_
  refine lv_istore_n (lv' := [(2, .int (nI 0)), (1, .int (nI 0)), (0, .ref g0)]) hx hb dX2_records_3 rfl hl (by decide) rfl (fun ls hl => ?_)
  have LOOP4 : ∀ (fuel : Nat) (i : Nat) (hf : k < i + fuel) (hik : i ≤ k) (H : Heap) (locs : List Loc), va_P D vwCl [(g0, .inr (2, [.ref mt, .int (nI n), .int (nI k), .ref mb, .ref mz, .ref mn, .ref my, .int nx, .int wh, .int off, .int cu])), (mt, .inl (ci, 100, .inl tp)), (mb, .inl (cz, 41, .inl fB)), (mz, .inl (ci, 41, .inl fZ)), (mn, .inl (ci, 41, .inl fN)), (my, .inl (ci, 4100, .inl fY))] H → va_D A [(g0, .inr (2, [.ref mt, .int (nI n), .int (nI k), .ref mb, .ref mz, .ref mn, .ref my, .int nx, .int wh, .int off, .int cu])), (mt, .inl (ci, 100, .inl tp)), (mb, .inl (cz, 41, .inl fB)), (mz, .inl (ci, 41, .inl fZ)), (mn, .inl (ci, 41, .inl fN)), (my, .inl (ci, 4100, .inl fY))] → va_S A s.heap H locs → ∀ ls : Array Slot, lv_has ls 3 [(0, .ref g0), (1, .int (nI (js (jcn r) i))), (2, .int (nI i))] → W p l e rm_M_records s m av below meth c H locs 0 0 (MQ below (va_Qi (fun (x : Int32) (_ : Unit) => x = nI (js (jcn r) k)) (j_post D (jT cb ci cz) (fun _ => [(g0, .inr (2, [.ref mt, .int (nI n), .int (nI k), .ref mb, .ref mz, .ref mn, .ref my, .int nx, .int wh, .int off, .int cu])), (mt, .inl (ci, 100, .inl tp)), (mb, .inl (cz, 41, .inl fB)), (mz, .inl (ci, 41, .inl fZ)), (mn, .inl (ci, 41, .inl fN)), (my, .inl (ci, 4100, .inl fY))]) A) A) av s 0 0 A) (F0 m 4 ls []) := by
    clear hP hD hS hl
    intro fuel
    induction fuel with
    | zero => intro i hf hik; exfalso; omega
    | succ fuel ih4 =>
      intro i hf hik H locs hP hD hS ls hl
      refine lv_iload_n hx hb dX2_records_4 rfl (lv_at hl 2 rfl) ?_
      refine lv_aload_n hx hb dX2_records_5 rfl (lv_at hl 0 rfl) ?_
      refine va_get (D := D) (ci := 2) (v := .int (nI k)) (C := RX2) (T := TX2) (N := 11) hx hb hts (by decide +kernel) hown hK hP 0 rfl rfl 2 (by decide) (hts (.fieldLink RX2 33 "JournalDeskModel" "kept" "I") (by decide +kernel)) (fun _ h9 => h9) rfl dX2_records_6 ?_
      refine lv_icmp_ge (tgt := 35) hx hb dX2_records_9 (by decide) (fun c_9_1 => ?_) (fun c_9_1 => ?_)
      · rw [nI_leI (show k < 2 ^ 31 by omega) (show i < 2 ^ 31 by omega)] at c_9_1
        refine lv_iload_n hx hb dX2_records_35 rfl (lv_at hl 1 rfl) ?_
        have hik2 : i = k := by omega
        exact j_iret (v := (nI (js (jcn r) i))) (()) hx hb hr hlk hK hP hD hS (by rw [hik2]) dX2_records_36
      · rw [nI_leI (show k < 2 ^ 31 by omega) (show i < 2 ^ 31 by omega)] at c_9_1
        refine lv_aload_n hx hb dX2_records_12 rfl (lv_at hl 0 rfl) ?_
        refine va_get (D := D) (ci := 2) (v := .ref mb) (C := RX2) (T := TX2) (N := 11) hx hb hts (by decide +kernel) hown hK hP 0 rfl rfl 3 (by decide) (hts (.fieldLink RX2 13 "JournalDeskModel" "isRecord" "[Z") (by decide +kernel)) (fun _ h9 => h9) rfl dX2_records_13 ?_
        refine lv_iload_n hx hb dX2_records_16 rfl (lv_at hl 2 rfl) ?_
        refine j_zald hx hb hK hP 2 2 rfl rfl (i := i) (by omega) (by decide) (v := (jbi (r i))) (hB i (by omega)) dX2_records_17 ?_
        refine lv_if_eq (tgt := 27) hx hb dX2_records_18 (by decide) (fun c_18_2 => ?_) (fun c_18_2 => ?_)
        · have hb1 : r i = false := jbi_0.mp c_18_2
          refine lv_iload_n hx hb dX2_records_27 rfl (lv_at hl 1 rfl) ?_
          refine jt_i (y := nI (js (jcn r) (i + 1))) (congrArg nI (by rw [js_step, jcn_f hb1, Nat.add_zero])) ?_
          refine lv_istore_n (lv' := [(1, .int (nI (js (jcn r) (i + 1)))), (0, .ref g0), (2, .int (nI i))]) hx hb dX2_records_28 rfl hl (by decide) rfl (fun ls hl => ?_)
          refine lv_iinc (v := (nI (i + 1))) (lv' := [(2, .int (nI (i + 1))), (1, .int (nI (js (jcn r) (i + 1)))), (0, .ref g0)]) hx hb dX2_records_29 hl (k := 2) rfl (nI_1 _) (by decide) rfl (fun ls hl => ?_)
          refine lv_goto (tgt := 4) hx hb dX2_records_32 (by decide) ?_
          exact ih4 (i + 1) (by omega) (by omega) _ _ hP hD hS ls (lv_sub hl [2, 1, 0] rfl)
        · have hb1 : r i = true := jbi_n0.mp c_18_2
          refine lv_iload_n hx hb dX2_records_21 rfl (lv_at hl 1 rfl) ?_
          refine lv_iconst (v := (nI 1)) hx hb dX2_records_22 (by decide +kernel) ?_
          refine lv_iadd hx hb dX2_records_23 ?_
          refine jt_i (y := (nI (js (jcn r) (i + 1)))) (by rw [js_step, jcn_t hb1]; exact nI_add _ _) ?_
          refine lv_goto (tgt := 28) hx hb dX2_records_24 (by decide) ?_
          refine lv_istore_n (lv' := [(1, .int (nI (js (jcn r) (i + 1)))), (0, .ref g0), (2, .int (nI i))]) hx hb dX2_records_28 rfl hl (by decide) rfl (fun ls hl => ?_)
          refine lv_iinc (v := (nI (i + 1))) (lv' := [(2, .int (nI (i + 1))), (1, .int (nI (js (jcn r) (i + 1)))), (0, .ref g0)]) hx hb dX2_records_29 hl (k := 2) rfl (nI_1 _) (by decide) rfl (fun ls hl => ?_)
          refine lv_goto (tgt := 4) hx hb dX2_records_32 (by decide) ?_
          exact ih4 (i + 1) (by omega) (by omega) _ _ hP hD hS ls (lv_sub hl [2, 1, 0] rfl)
  exact LOOP4 (k + 1) 0 (by omega) (by omega) _ _ hP hD hS ls (lv_sub hl [2, 1, 0] rfl)
abbrev rm_M_isCut : Room := { frames := 0, cells := 0, slots := 0, locals := 0 }
set_option maxHeartbeats 4000000 in
set_option maxRecDepth 100000 in
/-- a cut that waits is spent, in the reference -/
theorem c_M_isCut (l : Launch) (D : va_G) (cb ci cz : ClassId) (g0 mt mb mz mn my : Nat) (tp fB fZ fN fY : Nat → Int32) (n k : Nat) (nx wh off cu : Int32) (ct : Bool) (hcu : cu = -1 ↔ ct = false) (sz : Nat) : Met l yX2_isCut wsX2_isCut rm_M_isCut (va_Pc [.ref g0] (j_pre D (jT cb ci cz) [(g0, .inr (2, [.ref mt, .int (nI n), .int (nI k), .ref mb, .ref mz, .ref mn, .ref my, .int nx, .int wh, .int off, .int cu])), (mt, .inl (ci, 100, .inl tp)), (mb, .inl (cz, 41, .inl fB)), (mz, .inl (ci, 41, .inl fZ)), (mn, .inl (ci, 41, .inl fN)), (my, .inl (ci, 4100, .inl fY))] sz)) (va_Qi (fun (x : Int32) (a : Int32 × Int32) => x = jbi ct ∧ (ct = false → a = (off, cu)) ∧ (ct = true → a = (1, -1))) (j_post D (jT cb ci cz) (fun (a : Int32 × Int32) => [(g0, .inr (2, [.ref mt, .int (nI n), .int (nI k), .ref mb, .ref mz, .ref mn, .ref my, .int nx, .int wh, .int a.1, .int a.2])), (mt, .inl (ci, 100, .inl tp)), (mb, .inl (cz, 41, .inl fB)), (mz, .inl (ci, 41, .inl fZ)), (mn, .inl (ci, 41, .inl fN)), (my, .inl (ci, 4100, .inl fY))]) (va_A [(g0, .inr (2, [.ref mt, .int (nI n), .int (nI k), .ref mb, .ref mz, .ref mn, .ref my, .int nx, .int wh, .int off, .int cu])), (mt, .inl (ci, 100, .inl tp)), (mb, .inl (cz, 41, .inl fB)), (mz, .inl (ci, 41, .inl fZ)), (mn, .inl (ci, 41, .inl fN)), (my, .inl (ci, 4100, .inl fY))] sz)) (va_A [(g0, .inr (2, [.ref mt, .int (nI n), .int (nI k), .ref mb, .ref mz, .ref mn, .ref my, .int nx, .int wh, .int off, .int cu])), (mt, .inl (ci, 100, .inl tp)), (mb, .inl (cz, 41, .inl fB)), (mz, .inl (ci, 41, .inl fZ)), (mn, .inl (ci, 41, .inl fN)), (my, .inl (ci, 4100, .inl fY))] sz)) 0 0 (va_A [(g0, .inr (2, [.ref mt, .int (nI n), .int (nI k), .ref mb, .ref mz, .ref mn, .ref my, .int nx, .int wh, .int off, .int cu])), (mt, .inl (ci, 100, .inl tp)), (mb, .inl (cz, 41, .inl fB)), (mz, .inl (ci, 41, .inl fZ)), (mn, .inl (ci, 41, .inl fN)), (my, .inl (ci, 4100, .inl fY))] sz) := by
  refine j_in (Qc := fun A => (va_Qi (fun (x : Int32) (a : Int32 × Int32) => x = jbi ct ∧ (ct = false → a = (off, cu)) ∧ (ct = true → a = (1, -1))) (j_post D (jT cb ci cz) (fun (a : Int32 × Int32) => [(g0, .inr (2, [.ref mt, .int (nI n), .int (nI k), .ref mb, .ref mz, .ref mn, .ref my, .int nx, .int wh, .int a.1, .int a.2])), (mt, .inl (ci, 100, .inl tp)), (mb, .inl (cz, 41, .inl fB)), (mz, .inl (ci, 41, .inl fZ)), (mn, .inl (ci, 41, .inl fN)), (my, .inl (ci, 4100, .inl fY))]) A) A)) (cc := cX2_isCut) (maxL := 1) (ret := (some .boolean)) (by decide) rfl (Nat.le_of_ble_eq_true rfl) ?_
  intro p e s m av below meth c A ls H locs hx hb hr hml hts hown hlk hin hA hP hK hD hS hl
  have hown : s.vm.findClass RX2 = some m.cls := hown
  have hl : lv_has ls 1 [(0, .ref g0)] := hl
  refine lv_aload_n hx hb dX2_isCut_0 rfl (lv_at hl 0 rfl) ?_
  refine va_get (D := D) (ci := 2) (v := .int cu) (C := RX2) (T := TX2) (N := 11) hx hb hts (by decide +kernel) hown hK hP 0 rfl rfl 10 (by decide) (hts (.fieldLink RX2 26 "JournalDeskModel" "cutting" "I") (by decide +kernel)) (fun _ h9 => h9) rfl dX2_isCut_1 ?_
  refine lv_iconst (v := (-1)) hx hb dX2_isCut_4 (by decide +kernel) ?_
  refine lv_icmp_ne (tgt := 10) hx hb dX2_isCut_5 (by decide) (fun c_5_1 => ?_) (fun c_5_1 => ?_)
  · have hct : ct = true := by
      cases ct
      · exact absurd (hcu.mpr rfl) c_5_1
      · rfl
    refine lv_aload_n hx hb dX2_isCut_10 rfl (lv_at hl 0 rfl) ?_
    refine lv_iconst (v := (-1)) hx hb dX2_isCut_11 (by decide +kernel) ?_
    refine va_put (D := D) (ci := 2) (v := .int (-1)) (ty := .int) (C := RX2) (T := TX2) (N := 11) hx hb hts (by decide +kernel) tyX2 tyX2_ok nmX2 hown hK hP hD hS 0 rfl rfl 10 (by decide) (hts (.fieldLink RX2 26 "JournalDeskModel" "cutting" "I") (by decide +kernel)) (fun _ h9 => h9) rfl (by decide +kernel) (rfl) (rfl) (Nat.le_of_ble_eq_true rfl) dX2_isCut_12 (fun H locs hP hD hS => ?_)
    have hP : va_P D vwCl [(g0, .inr (2, [.ref mt, .int (nI n), .int (nI k), .ref mb, .ref mz, .ref mn, .ref my, .int nx, .int wh, .int off, .int (-1)])), (mt, .inl (ci, 100, .inl tp)), (mb, .inl (cz, 41, .inl fB)), (mz, .inl (ci, 41, .inl fZ)), (mn, .inl (ci, 41, .inl fN)), (my, .inl (ci, 4100, .inl fY))] H := hP
    have hD : va_D A [(g0, .inr (2, [.ref mt, .int (nI n), .int (nI k), .ref mb, .ref mz, .ref mn, .ref my, .int nx, .int wh, .int off, .int (-1)])), (mt, .inl (ci, 100, .inl tp)), (mb, .inl (cz, 41, .inl fB)), (mz, .inl (ci, 41, .inl fZ)), (mn, .inl (ci, 41, .inl fN)), (my, .inl (ci, 4100, .inl fY))] := hD
    refine lv_aload_n hx hb dX2_isCut_15 rfl (lv_at hl 0 rfl) ?_
    refine lv_iconst (v := (nI 1)) hx hb dX2_isCut_16 (by decide +kernel) ?_
    refine va_put (D := D) (ci := 2) (v := .int (nI 1)) (ty := .boolean) (C := RX2) (T := TX2) (N := 11) hx hb hts (by decide +kernel) tyX2 tyX2_ok nmX2 hown hK hP hD hS 0 rfl rfl 9 (by decide) (hts (.fieldLink RX2 40 "JournalDeskModel" "off" "Z") (by decide +kernel)) (fun _ h9 => h9) rfl (by decide +kernel) (rfl) (rfl) (Nat.le_of_ble_eq_true rfl) dX2_isCut_17 (fun H locs hP hD hS => ?_)
    have hP : va_P D vwCl [(g0, .inr (2, [.ref mt, .int (nI n), .int (nI k), .ref mb, .ref mz, .ref mn, .ref my, .int nx, .int wh, .int (nI 1), .int (-1)])), (mt, .inl (ci, 100, .inl tp)), (mb, .inl (cz, 41, .inl fB)), (mz, .inl (ci, 41, .inl fZ)), (mn, .inl (ci, 41, .inl fN)), (my, .inl (ci, 4100, .inl fY))] H := hP
    have hD : va_D A [(g0, .inr (2, [.ref mt, .int (nI n), .int (nI k), .ref mb, .ref mz, .ref mn, .ref my, .int nx, .int wh, .int (nI 1), .int (-1)])), (mt, .inl (ci, 100, .inl tp)), (mb, .inl (cz, 41, .inl fB)), (mz, .inl (ci, 41, .inl fZ)), (mn, .inl (ci, 41, .inl fN)), (my, .inl (ci, 4100, .inl fY))] := hD
    refine lv_iconst (v := (nI 1)) hx hb dX2_isCut_20 (by decide +kernel) ?_
    exact j_zret (v := (nI 1)) (((nI 1), (-1))) hx hb hr hlk hK hP hD hS (by decide +kernel) (by rw [hct]; exact ⟨rfl, fun q => absurd q (by decide), fun _ => rfl⟩) dX2_isCut_21
  · have hct : ct = false := hcu.mp c_5_1
    refine lv_iconst (v := (nI 0)) hx hb dX2_isCut_8 (by decide +kernel) ?_
    exact j_zret (v := (nI 0)) ((off, cu)) hx hb hr hlk hK hP hD hS (by decide +kernel) (by rw [hct]; exact ⟨rfl, fun _ => rfl, fun q => absurd q (by decide)⟩) dX2_isCut_9
abbrev rm_M_put : Room := { frames := 0, cells := 0, slots := 0, locals := 0 }
set_option maxHeartbeats 4000000 in
set_option maxRecDepth 100000 in
/-- put, in the reference -/
theorem c_M_put (l : Launch) (D : va_G) (cb ci cz : ClassId) (g0 mt mb mz mn my : Nat) (tp fB fZ fN fY : Nat → Int32) (n : Nat) (t : Nat → Int32) (k : Nat) (r : Nat → Bool) (z : Nat → Nat) (u : Nat → Int32) (y : Nat → Nat → Int32) (nx wh : Int32) (pw ct : Bool) (cu : Int32) (v : Int64) (cv : Int32) (hn : n ≤ 100) (ht : ∀ j, j < n → tp j = t j) (hus : js (jse r z) k ≤ 40) (hz : ∀ j, j < k → z j ≤ 100) (hE : jE fB fZ fN fY k r z u y) (hcu : cu = -1 ↔ ct = false) (sz : Nat) : Met l yX2_put wsX2_put rm_M_put (va_Pc [.ref g0, .long v, .int cv] (j_pre D (jT cb ci cz) [(g0, .inr (2, [.ref mt, .int (nI n), .int (nI k), .ref mb, .ref mz, .ref mn, .ref my, .int nx, .int wh, .int (jbi (!pw)), .int cu])), (mt, .inl (ci, 100, .inl tp)), (mb, .inl (cz, 41, .inl fB)), (mz, .inl (ci, 41, .inl fZ)), (mn, .inl (ci, 41, .inl fN)), (my, .inl (ci, 4100, .inl fY))] sz)) (va_Qi (fun (x : Int32) (a : jMt) => x = (jop_pt ((n, t), (k, r, z, u, y), (nx, wh, pw, ct)) v cv).1 ∧ jMk (jop_pt ((n, t), (k, r, z, u, y), (nx, wh, pw, ct)) v cv).2 a) (j_post D (jT cb ci cz) (jMw g0 mt mb mz mn my ci cz) (va_A [(g0, .inr (2, [.ref mt, .int (nI n), .int (nI k), .ref mb, .ref mz, .ref mn, .ref my, .int nx, .int wh, .int (jbi (!pw)), .int cu])), (mt, .inl (ci, 100, .inl tp)), (mb, .inl (cz, 41, .inl fB)), (mz, .inl (ci, 41, .inl fZ)), (mn, .inl (ci, 41, .inl fN)), (my, .inl (ci, 4100, .inl fY))] sz)) (va_A [(g0, .inr (2, [.ref mt, .int (nI n), .int (nI k), .ref mb, .ref mz, .ref mn, .ref my, .int nx, .int wh, .int (jbi (!pw)), .int cu])), (mt, .inl (ci, 100, .inl tp)), (mb, .inl (cz, 41, .inl fB)), (mz, .inl (ci, 41, .inl fZ)), (mn, .inl (ci, 41, .inl fN)), (my, .inl (ci, 4100, .inl fY))] sz)) 0 0 (va_A [(g0, .inr (2, [.ref mt, .int (nI n), .int (nI k), .ref mb, .ref mz, .ref mn, .ref my, .int nx, .int wh, .int (jbi (!pw)), .int cu])), (mt, .inl (ci, 100, .inl tp)), (mb, .inl (cz, 41, .inl fB)), (mz, .inl (ci, 41, .inl fZ)), (mn, .inl (ci, 41, .inl fN)), (my, .inl (ci, 4100, .inl fY))] sz) := by
  refine j_in (Qc := fun A => (va_Qi (fun (x : Int32) (a : jMt) => x = (jop_pt ((n, t), (k, r, z, u, y), (nx, wh, pw, ct)) v cv).1 ∧ jMk (jop_pt ((n, t), (k, r, z, u, y), (nx, wh, pw, ct)) v cv).2 a) (j_post D (jT cb ci cz) (jMw g0 mt mb mz mn my ci cz) A) A)) (cc := cX2_put) (maxL := 5) (ret := (some .boolean)) (by decide) rfl (Nat.le_of_ble_eq_true rfl) ?_
  intro p e s m av below meth c A ls H locs hx hb hr hml hts hown hlk hin hA hP hK hD hS hl
  have hown : s.vm.findClass RX2 = some m.cls := hown
  have hl : lv_has ls 5 [(0, .ref g0), (1, .long v), (3, .int cv)] := hl
  refine lv_iload_n hx hb dX2_put_0 rfl (lv_at hl 2 rfl) ?_
  refine lv_iconst (v := (nI 1)) hx hb dX2_put_1 (by decide +kernel) ?_
  refine lv_icmp_lt (tgt := 22) hx hb dX2_put_2 (by decide) (fun c_2_1 => ?_) (fun c_2_1 => ?_)
  · have href : cv < 1 ∨ 8 < cv ∨ 100 < n + cv.toNatClampNeg := Or.inl c_2_1
    refine lv_iconst (v := (nI 0)) hx hb dX2_put_22 (by decide +kernel) ?_
    exact j_zret (v := (nI 0)) ((tp, fB, fZ, fN, fY, n, k, nx, wh, (jbi (!pw)), cu)) hx hb hr hlk hK hP hD hS (by decide +kernel) (by rw [jpt_ref href]; exact ⟨rfl, jMk_i rfl hn ht rfl hus hz hE rfl rfl rfl hcu⟩) dX2_put_23
  · have hc1 := c_2_1
    refine lv_iload_n hx hb dX2_put_5 rfl (lv_at hl 2 rfl) ?_
    refine lv_bipush (v := (nI 8)) hx hb dX2_put_6 (by decide +kernel) ?_
    refine lv_icmp_gt (tgt := 22) hx hb dX2_put_8 (by decide) (fun c_8_2 => ?_) (fun c_8_2 => ?_)
    · have href : cv < 1 ∨ 8 < cv ∨ 100 < n + cv.toNatClampNeg := Or.inr (Or.inl c_8_2)
      refine lv_iconst (v := (nI 0)) hx hb dX2_put_22 (by decide +kernel) ?_
      exact j_zret (v := (nI 0)) ((tp, fB, fZ, fN, fY, n, k, nx, wh, (jbi (!pw)), cu)) hx hb hr hlk hK hP hD hS (by decide +kernel) (by rw [jpt_ref href]; exact ⟨rfl, jMk_i rfl hn ht rfl hus hz hE rfl rfl rfl hcu⟩) dX2_put_23
    · obtain ⟨cc, hc2, hc3, hcv⟩ := j_rng (a := 1) (b := 8) (by decide) (by decide) hc1 c_8_2
      rw [hcv] at hl
      refine lv_aload_n hx hb dX2_put_11 rfl (lv_at hl 0 rfl) ?_
      refine va_get (D := D) (ci := 2) (v := .int (nI n)) (C := RX2) (T := TX2) (N := 11) hx hb hts (by decide +kernel) hown hK hP 0 rfl rfl 1 (by decide) (hts (.fieldLink RX2 30 "JournalDeskModel" "taped" "I") (by decide +kernel)) (fun _ h9 => h9) rfl dX2_put_12 ?_
      refine lv_iload_n hx hb dX2_put_15 rfl (lv_at hl 2 rfl) ?_
      refine lv_iadd hx hb dX2_put_16 ?_
      refine jt_i (y := (nI (n + cc))) (nI_add _ _) ?_
      refine lv_bipush (v := (nI 100)) hx hb dX2_put_17 (by decide +kernel) ?_
      refine lv_icmp_le (tgt := 24) hx hb dX2_put_19 (by decide) (fun c_19_3 => ?_) (fun c_19_3 => ?_)
      · rw [nI_leI (show n + cc < 2 ^ 31 by omega) (show 100 < 2 ^ 31 by omega)] at c_19_3
        refine lv_iload_n hx hb dX2_put_24 rfl (lv_at hl 2 rfl) ?_
        refine lv_iconst (v := (nI 1)) hx hb dX2_put_25 (by decide +kernel) ?_
        refine lv_isub hx hb dX2_put_26 ?_
        refine jt_i (y := ((nI cc) + (-1))) (j_m1sub cc) ?_
        refine lv_istore (lv' := [(4, .int ((nI cc) + (-1))), (0, .ref g0), (1, .long v), (3, .int (nI cc))]) hx hb dX2_put_27 hl (by decide) rfl (fun ls hl => ?_)
        have LOOP29 : ∀ (fuel : Nat) (q : Nat) (tq : Nat → Int32) (hf : cc < q + fuel) (hqc : q ≤ cc) (htq : ∀ j, j < n + q → tq j = (if n ≤ j ∧ j < n + cc then jby v (cc - 1 - (j - n)) else t j)) (H : Heap) (locs : List Loc), va_P D vwCl [(g0, .inr (2, [.ref mt, .int (nI (n + q)), .int (nI k), .ref mb, .ref mz, .ref mn, .ref my, .int nx, .int wh, .int (jbi (!pw)), .int cu])), (mt, .inl (ci, 100, .inl tq)), (mb, .inl (cz, 41, .inl fB)), (mz, .inl (ci, 41, .inl fZ)), (mn, .inl (ci, 41, .inl fN)), (my, .inl (ci, 4100, .inl fY))] H → va_D A [(g0, .inr (2, [.ref mt, .int (nI (n + q)), .int (nI k), .ref mb, .ref mz, .ref mn, .ref my, .int nx, .int wh, .int (jbi (!pw)), .int cu])), (mt, .inl (ci, 100, .inl tq)), (mb, .inl (cz, 41, .inl fB)), (mz, .inl (ci, 41, .inl fZ)), (mn, .inl (ci, 41, .inl fN)), (my, .inl (ci, 4100, .inl fY))] → va_S A s.heap H locs → ∀ ls : Array Slot, lv_has ls 5 [(0, .ref g0), (1, .long v), (3, .int (nI cc)), (4, .int ((nI (cc - q)) + (-1)))] → W p l e rm_M_put s m av below meth c H locs 0 0 (MQ below (va_Qi (fun (x : Int32) (a : jMt) => x = (jop_pt ((n, t), (k, r, z, u, y), (nx, wh, pw, ct)) v cv).1 ∧ jMk (jop_pt ((n, t), (k, r, z, u, y), (nx, wh, pw, ct)) v cv).2 a) (j_post D (jT cb ci cz) (jMw g0 mt mb mz mn my ci cz) A) A) av s 0 0 A) (F0 m 29 ls []) := by
          clear hP hD hS hl
          intro fuel
          induction fuel with
          | zero => intro q tq hf hqc htq; exfalso; omega
          | succ fuel ih29 =>
            intro q tq hf hqc htq H locs hP hD hS ls hl
            refine lv_iload hx hb dX2_put_29 (lv_at hl 3 rfl) ?_
            refine lv_if_lt (tgt := 71) hx hb dX2_put_31 (by decide) (fun c_31_4 => ?_) (fun c_31_4 => ?_)
            · rw [j_m1lt (by omega)] at c_31_4
              refine lv_iconst (v := (nI 1)) hx hb dX2_put_71 (by decide +kernel) ?_
              exact j_zret (v := (nI 1)) ((tq, fB, fZ, fN, fY, n + q, k, nx, wh, (jbi (!pw)), cu)) hx hb hr hlk hK hP hD hS (by decide +kernel) (by rw [hcv, jpt_ok (cc := cc) (by omega) (by omega) (by omega)]; exact ⟨rfl, jMk_i (by omega) (by omega) (fun j hj => htq j (by omega)) rfl hus hz hE rfl rfl rfl hcu⟩) dX2_put_72
            · rw [j_m1lt (by omega)] at c_31_4
              rw [j_dec (show q < cc by omega)] at hl
              refine lv_aload_n hx hb dX2_put_34 rfl (lv_at hl 0 rfl) ?_
              refine va_get (D := D) (ci := 2) (v := .ref mt) (C := RX2) (T := TX2) (N := 11) hx hb hts (by decide +kernel) hown hK hP 0 rfl rfl 0 (by decide) (hts (.fieldLink RX2 7 "JournalDeskModel" "tape" "[I") (by decide +kernel)) (fun _ h9 => h9) rfl dX2_put_35 ?_
              refine lv_aload_n hx hb dX2_put_38 rfl (lv_at hl 0 rfl) ?_
              refine va_get (D := D) (ci := 2) (v := .int (nI (n + q))) (C := RX2) (T := TX2) (N := 11) hx hb hts (by decide +kernel) hown hK hP 0 rfl rfl 1 (by decide) (hts (.fieldLink RX2 30 "JournalDeskModel" "taped" "I") (by decide +kernel)) (fun _ h9 => h9) rfl dX2_put_39 ?_
              refine lv_lload_n hx hb dX2_put_42 rfl (lv_at hl 1 rfl) ?_
              refine lv_bipush (v := (nI 8)) hx hb dX2_put_43 (by decide +kernel) ?_
              refine lv_iload hx hb dX2_put_45 (lv_at hl 3 rfl) ?_
              refine lv_imul hx hb dX2_put_47 ?_
              refine jt_i (y := (nI (8 * (cc - (q + 1))))) (pk_mul _ _) ?_
              refine lv_lshr hx hb dX2_put_48 rfl ?_
              refine lv_l2i hx hb dX2_put_49 rfl ?_
              refine lv_sipush (v := (nI 255)) hx hb dX2_put_50 (by decide +kernel) ?_
              refine lv_iand hx hb dX2_put_53 ?_
              refine jt_i (y := (jby v (cc - (q + 1)))) (rfl) ?_
              refine j_iast hx hb hK hP hD hS 1 1 rfl rfl (i := n + q) (by omega) (by decide) dX2_put_54 (fun H locs hP hD hS => ?_)
              have hP : va_P D vwCl [(g0, .inr (2, [.ref mt, .int (nI (n + q)), .int (nI k), .ref mb, .ref mz, .ref mn, .ref my, .int nx, .int wh, .int (jbi (!pw)), .int cu])), (mt, .inl (ci, 100, .inl (upd tq (n + q) (jby v (cc - (q + 1)))))), (mb, .inl (cz, 41, .inl fB)), (mz, .inl (ci, 41, .inl fZ)), (mn, .inl (ci, 41, .inl fN)), (my, .inl (ci, 4100, .inl fY))] H := hP
              have hD : va_D A [(g0, .inr (2, [.ref mt, .int (nI (n + q)), .int (nI k), .ref mb, .ref mz, .ref mn, .ref my, .int nx, .int wh, .int (jbi (!pw)), .int cu])), (mt, .inl (ci, 100, .inl (upd tq (n + q) (jby v (cc - (q + 1)))))), (mb, .inl (cz, 41, .inl fB)), (mz, .inl (ci, 41, .inl fZ)), (mn, .inl (ci, 41, .inl fN)), (my, .inl (ci, 4100, .inl fY))] := hD
              refine lv_aload_n hx hb dX2_put_55 rfl (lv_at hl 0 rfl) ?_
              refine lv_aload_n hx hb dX2_put_56 rfl (lv_at hl 0 rfl) ?_
              refine va_get (D := D) (ci := 2) (v := .int (nI (n + q))) (C := RX2) (T := TX2) (N := 11) hx hb hts (by decide +kernel) hown hK hP 0 rfl rfl 1 (by decide) (hts (.fieldLink RX2 30 "JournalDeskModel" "taped" "I") (by decide +kernel)) (fun _ h9 => h9) rfl dX2_put_57 ?_
              refine lv_iconst (v := (nI 1)) hx hb dX2_put_60 (by decide +kernel) ?_
              refine lv_iadd hx hb dX2_put_61 ?_
              refine jt_i (y := (nI ((n + q) + 1))) (nI_add _ _) ?_
              refine va_put (D := D) (ci := 2) (v := .int (nI ((n + q) + 1))) (ty := .int) (C := RX2) (T := TX2) (N := 11) hx hb hts (by decide +kernel) tyX2 tyX2_ok nmX2 hown hK hP hD hS 0 rfl rfl 1 (by decide) (hts (.fieldLink RX2 30 "JournalDeskModel" "taped" "I") (by decide +kernel)) (fun _ h9 => h9) rfl (by decide +kernel) (rfl) (rfl) (Nat.le_of_ble_eq_true rfl) dX2_put_62 (fun H locs hP hD hS => ?_)
              have hP : va_P D vwCl [(g0, .inr (2, [.ref mt, .int (nI ((n + q) + 1)), .int (nI k), .ref mb, .ref mz, .ref mn, .ref my, .int nx, .int wh, .int (jbi (!pw)), .int cu])), (mt, .inl (ci, 100, .inl (upd tq (n + q) (jby v (cc - (q + 1)))))), (mb, .inl (cz, 41, .inl fB)), (mz, .inl (ci, 41, .inl fZ)), (mn, .inl (ci, 41, .inl fN)), (my, .inl (ci, 4100, .inl fY))] H := hP
              have hD : va_D A [(g0, .inr (2, [.ref mt, .int (nI ((n + q) + 1)), .int (nI k), .ref mb, .ref mz, .ref mn, .ref my, .int nx, .int wh, .int (jbi (!pw)), .int cu])), (mt, .inl (ci, 100, .inl (upd tq (n + q) (jby v (cc - (q + 1)))))), (mb, .inl (cz, 41, .inl fB)), (mz, .inl (ci, 41, .inl fZ)), (mn, .inl (ci, 41, .inl fN)), (my, .inl (ci, 4100, .inl fY))] := hD
              refine lv_iinc (v := ((nI (cc - (q + 1))) + (-1))) (lv' := [(4, .int ((nI (cc - (q + 1))) + (-1))), (0, .ref g0), (1, .long v), (3, .int (nI cc))]) hx hb dX2_put_65 hl (k := 3) rfl (rfl) (by decide) rfl (fun ls hl => ?_)
              refine lv_goto (tgt := 29) hx hb dX2_put_68 (by decide) ?_
              exact ih29 (q + 1) _ (by omega) (by omega) (j_pt2 htq (by show _ = (if n ≤ n + q ∧ n + q < n + cc then jby v (cc - 1 - (n + q - n)) else t (n + q)); rw [if_pos (by omega), show cc - 1 - (n + q - n) = cc - (q + 1) by omega])) _ _ hP hD hS ls (lv_sub hl [1, 2, 3, 0] rfl)
        exact LOOP29 (cc + 1) 0 tp (by omega) (by omega) (fun j hj => by rw [if_neg (by omega)]; exact ht j hj) _ _ hP hD hS ls (lv_sub hl [1, 2, 3, 0] rfl)
      · rw [nI_leI (show n + cc < 2 ^ 31 by omega) (show 100 < 2 ^ 31 by omega)] at c_19_3
        have href : cv < 1 ∨ 8 < cv ∨ 100 < n + cv.toNatClampNeg := Or.inr (Or.inr (by rw [hcv, nI_clamp (by omega)]; omega))
        refine lv_iconst (v := (nI 0)) hx hb dX2_put_22 (by decide +kernel) ?_
        exact j_zret (v := (nI 0)) ((tp, fB, fZ, fN, fY, n, k, nx, wh, (jbi (!pw)), cu)) hx hb hr hlk hK hP hD hS (by decide +kernel) (by rw [jpt_ref href]; exact ⟨rfl, jMk_i rfl hn ht rfl hus hz hE rfl rfl rfl hcu⟩) dX2_put_23
abbrev rm_M_write : Room := { frames := 2, cells := 0, slots := 0, locals := 42 }
set_option maxHeartbeats 4000000 in
set_option maxRecDepth 100000 in
/-- write, in the reference -/
theorem c_M_write (l : Launch) (D : va_G) (cb ci cz : ClassId) (g0 mt mb mz mn my : Nat) (tp fB fZ fN fY : Nat → Int32) (n : Nat) (t : Nat → Int32) (k : Nat) (r : Nat → Bool) (z : Nat → Nat) (u : Nat → Int32) (y : Nat → Nat → Int32) (nx wh : Int32) (pw ct : Bool) (cu : Int32) (hn : n ≤ 100) (ht : ∀ j, j < n → tp j = t j) (hus : js (jse r z) k ≤ 40) (hz : ∀ j, j < k → z j ≤ 100) (hE : jE fB fZ fN fY k r z u y) (hcu : cu = -1 ↔ ct = false) (sz : Nat) : Met l yX2_write wsX2_write rm_M_write (va_Pc [.ref g0] (j_pre D (jT cb ci cz) [(g0, .inr (2, [.ref mt, .int (nI n), .int (nI k), .ref mb, .ref mz, .ref mn, .ref my, .int nx, .int wh, .int (jbi (!pw)), .int cu])), (mt, .inl (ci, 100, .inl tp)), (mb, .inl (cz, 41, .inl fB)), (mz, .inl (ci, 41, .inl fZ)), (mn, .inl (ci, 41, .inl fN)), (my, .inl (ci, 4100, .inl fY))] sz)) (va_Qi (fun (x : Int32) (a : jMt) => x = (jop_wr ((n, t), (k, r, z, u, y), (nx, wh, pw, ct))).1 ∧ jMk (jop_wr ((n, t), (k, r, z, u, y), (nx, wh, pw, ct))).2 a) (j_post D (jT cb ci cz) (jMw g0 mt mb mz mn my ci cz) (va_A [(g0, .inr (2, [.ref mt, .int (nI n), .int (nI k), .ref mb, .ref mz, .ref mn, .ref my, .int nx, .int wh, .int (jbi (!pw)), .int cu])), (mt, .inl (ci, 100, .inl tp)), (mb, .inl (cz, 41, .inl fB)), (mz, .inl (ci, 41, .inl fZ)), (mn, .inl (ci, 41, .inl fN)), (my, .inl (ci, 4100, .inl fY))] sz)) (va_A [(g0, .inr (2, [.ref mt, .int (nI n), .int (nI k), .ref mb, .ref mz, .ref mn, .ref my, .int nx, .int wh, .int (jbi (!pw)), .int cu])), (mt, .inl (ci, 100, .inl tp)), (mb, .inl (cz, 41, .inl fB)), (mz, .inl (ci, 41, .inl fZ)), (mn, .inl (ci, 41, .inl fN)), (my, .inl (ci, 4100, .inl fY))] sz)) 0 0 (va_A [(g0, .inr (2, [.ref mt, .int (nI n), .int (nI k), .ref mb, .ref mz, .ref mn, .ref my, .int nx, .int wh, .int (jbi (!pw)), .int cu])), (mt, .inl (ci, 100, .inl tp)), (mb, .inl (cz, 41, .inl fB)), (mz, .inl (ci, 41, .inl fZ)), (mn, .inl (ci, 41, .inl fN)), (my, .inl (ci, 4100, .inl fY))] sz) := by
  refine j_in (Qc := fun A => (va_Qi (fun (x : Int32) (a : jMt) => x = (jop_wr ((n, t), (k, r, z, u, y), (nx, wh, pw, ct))).1 ∧ jMk (jop_wr ((n, t), (k, r, z, u, y), (nx, wh, pw, ct))).2 a) (j_post D (jT cb ci cz) (jMw g0 mt mb mz mn my ci cz) A) A)) (cc := cX2_write) (maxL := 3) (ret := (some .int)) (by decide) rfl (Nat.le_of_ble_eq_true rfl) ?_
  intro p e s m av below meth c A ls H locs hx hb hr hml hts hown hlk hin hA hP hK hD hS hl
  have hown : s.vm.findClass RX2 = some m.cls := hown
  have hl : lv_has ls 3 [(0, .ref g0)] := hl
  have hk40 : k ≤ 40 := Nat.le_trans (js_ge (jse_pos r z) k) hus
  refine lv_aload_n hx hb dX2_write_0 rfl (lv_at hl 0 rfl) ?_
  refine va_get (D := D) (ci := 2) (v := .int (jbi (!pw))) (C := RX2) (T := TX2) (N := 11) hx hb hts (by decide +kernel) hown hK hP 0 rfl rfl 9 (by decide) (hts (.fieldLink RX2 40 "JournalDeskModel" "off" "Z") (by decide +kernel)) (fun _ h9 => h9) rfl dX2_write_1 ?_
  refine lv_if_ne (tgt := 24) hx hb dX2_write_4 (by decide) (fun c_4_1 => ?_) (fun c_4_1 => ?_)
  · have hpw : pw = false := jbn_t c_4_1
    have href : pw = false ∨ 40 < js (jse r z) k + jsc n := Or.inl hpw
    refine lv_iconst (v := (-1)) hx hb dX2_write_24 (by decide +kernel) ?_
    exact j_iret (v := (-1)) ((tp, fB, fZ, fN, fY, n, k, nx, wh, (jbi (!pw)), cu)) hx hb hr hlk hK hP hD hS (by rw [jwr_ref href]; exact ⟨rfl, jMk_i rfl hn ht rfl hus hz hE rfl rfl rfl hcu⟩) dX2_write_25
  · have hpw : pw = true := jbn_f c_4_1
    refine lv_aload_n hx hb dX2_write_7 rfl (lv_at hl 0 rfl) ?_
    refine j_calli (wr := []) hP hD hS hA [0, 1, 2, 3, 4, 5] [] rfl rfl (by decide) (by decide) (va_runV (As := []) (rest := []) ⟨hx, hb, hml, hown, hts⟩ (c_M_used l D cb ci cz g0 mt mb mz mn my tp fB fZ fN fY n k nx wh (jbi (!pw)) cu r z hE.1 (by omega) hE.2.1 hz H.size) (cwV 0 hts gX2_write_X2_used rfl rfl rfl (by decide +kernel) ⟨Nat.le_of_ble_eq_true rfl, Nat.le_of_ble_eq_true rfl⟩) (j_preV (ci := 2) (q0 := 0) [0, 1, 2, 3, 4, 5] [0, 1, 2] hK hP hD rfl rfl rfl rfl rfl rfl) rfl rfl hl.1 rfl (lv_room (Nat.le_of_ble_eq_true rfl)) dX2_write_8 ⟨Nat.le_of_ble_eq_true rfl, Nat.le_of_ble_eq_true rfl⟩) (fun r8 u9 H locs hw hP hD hS => ?_)
    have hP : va_P D vwCl [(g0, .inr (2, [.ref mt, .int (nI n), .int (nI k), .ref mb, .ref mz, .ref mn, .ref my, .int nx, .int wh, .int (jbi (!pw)), .int cu])), (mt, .inl (ci, 100, .inl tp)), (mb, .inl (cz, 41, .inl fB)), (mz, .inl (ci, 41, .inl fZ)), (mn, .inl (ci, 41, .inl fN)), (my, .inl (ci, 4100, .inl fY))] H := hP
    have hD : va_D A [(g0, .inr (2, [.ref mt, .int (nI n), .int (nI k), .ref mb, .ref mz, .ref mn, .ref my, .int nx, .int wh, .int (jbi (!pw)), .int cu])), (mt, .inl (ci, 100, .inl tp)), (mb, .inl (cz, 41, .inl fB)), (mz, .inl (ci, 41, .inl fZ)), (mn, .inl (ci, 41, .inl fN)), (my, .inl (ci, 4100, .inl fY))] := hD
    have hw : r8 = (nI (js (jse r z) k)) := hw
    subst hw
    refine lv_aload_n hx hb dX2_write_11 rfl (lv_at hl 0 rfl) ?_
    refine va_get (D := D) (ci := 2) (v := .int (nI n)) (C := RX2) (T := TX2) (N := 11) hx hb hts (by decide +kernel) hown hK hP 0 rfl rfl 1 (by decide) (hts (.fieldLink RX2 30 "JournalDeskModel" "taped" "I") (by decide +kernel)) (fun _ h9 => h9) rfl dX2_write_12 ?_
    refine j_calli (wr := [(g0, .inr (2, [.ref mt, .int (nI n), .int (nI k), .ref mb, .ref mz, .ref mn, .ref my, .int nx, .int wh, .int (jbi (!pw)), .int cu])), (mt, .inl (ci, 100, .inl tp)), (mb, .inl (cz, 41, .inl fB)), (mz, .inl (ci, 41, .inl fZ)), (mn, .inl (ci, 41, .inl fN)), (my, .inl (ci, 4100, .inl fY))]) hP hD hS hA [] [0, 1, 2, 3, 4, 5] rfl rfl (by decide) (by decide) (va_runS (As := [.int (nI n)]) (rest := [.int (nI (js (jse r z) k))]) ⟨hx, hb, hml, hown, hts⟩ (c_M_sectorsOf l D cb ci cz n hn H.size) (va_cwS 1 hts gX2_write_X2_sectorsOf rfl rfl rfl (by decide +kernel) ⟨Nat.le_of_ble_eq_true rfl, Nat.le_of_ble_eq_true rfl⟩) (j_preS [] [0, 1, 2] hK hP hD rfl rfl rfl rfl) rfl rfl hl.1 rfl (lv_room (Nat.le_of_ble_eq_true rfl)) dX2_write_15 ⟨Nat.le_of_ble_eq_true rfl, Nat.le_of_ble_eq_true rfl⟩) (fun r15 u9 H locs hw hP hD hS => ?_)
    have hP : va_P D vwCl [(g0, .inr (2, [.ref mt, .int (nI n), .int (nI k), .ref mb, .ref mz, .ref mn, .ref my, .int nx, .int wh, .int (jbi (!pw)), .int cu])), (mt, .inl (ci, 100, .inl tp)), (mb, .inl (cz, 41, .inl fB)), (mz, .inl (ci, 41, .inl fZ)), (mn, .inl (ci, 41, .inl fN)), (my, .inl (ci, 4100, .inl fY))] H := hP
    have hD : va_D A [(g0, .inr (2, [.ref mt, .int (nI n), .int (nI k), .ref mb, .ref mz, .ref mn, .ref my, .int nx, .int wh, .int (jbi (!pw)), .int cu])), (mt, .inl (ci, 100, .inl tp)), (mb, .inl (cz, 41, .inl fB)), (mz, .inl (ci, 41, .inl fZ)), (mn, .inl (ci, 41, .inl fN)), (my, .inl (ci, 4100, .inl fY))] := hD
    have hw : r15 = (nI (jsc n)) := hw
    subst hw
    refine lv_iadd hx hb dX2_write_18 ?_
    refine jt_i (y := (nI ((js (jse r z) k) + (jsc n)))) (nI_add _ _) ?_
    refine lv_bipush (v := (nI 40)) hx hb dX2_write_19 (by decide +kernel) ?_
    have hj9 := jsc_le hn
    refine lv_icmp_le (tgt := 26) hx hb dX2_write_21 (by decide) (fun c_21_2 => ?_) (fun c_21_2 => ?_)
    · rw [nI_leI (show (js (jse r z) k) + (jsc n) < 2 ^ 31 by omega) (show 40 < 2 ^ 31 by omega)] at c_21_2
      have hfit := c_21_2
      refine lv_aload_n hx hb dX2_write_26 rfl (lv_at hl 0 rfl) ?_
      refine va_get (D := D) (ci := 2) (v := .int (nI n)) (C := RX2) (T := TX2) (N := 11) hx hb hts (by decide +kernel) hown hK hP 0 rfl rfl 1 (by decide) (hts (.fieldLink RX2 30 "JournalDeskModel" "taped" "I") (by decide +kernel)) (fun _ h9 => h9) rfl dX2_write_27 ?_
      refine lv_istore_n (lv' := [(1, .int (nI n)), (0, .ref g0)]) hx hb dX2_write_30 rfl hl (by decide) rfl (fun ls hl => ?_)
      refine lv_aload_n hx hb dX2_write_31 rfl (lv_at hl 1 rfl) ?_
      refine lv_iconst (v := (nI 0)) hx hb dX2_write_32 (by decide +kernel) ?_
      refine va_put (D := D) (ci := 2) (v := .int (nI 0)) (ty := .int) (C := RX2) (T := TX2) (N := 11) hx hb hts (by decide +kernel) tyX2 tyX2_ok nmX2 hown hK hP hD hS 0 rfl rfl 1 (by decide) (hts (.fieldLink RX2 30 "JournalDeskModel" "taped" "I") (by decide +kernel)) (fun _ h9 => h9) rfl (by decide +kernel) (rfl) (rfl) (Nat.le_of_ble_eq_true rfl) dX2_write_33 (fun H locs hP hD hS => ?_)
      have hP : va_P D vwCl [(g0, .inr (2, [.ref mt, .int (nI 0), .int (nI k), .ref mb, .ref mz, .ref mn, .ref my, .int nx, .int wh, .int (jbi (!pw)), .int cu])), (mt, .inl (ci, 100, .inl tp)), (mb, .inl (cz, 41, .inl fB)), (mz, .inl (ci, 41, .inl fZ)), (mn, .inl (ci, 41, .inl fN)), (my, .inl (ci, 4100, .inl fY))] H := hP
      have hD : va_D A [(g0, .inr (2, [.ref mt, .int (nI 0), .int (nI k), .ref mb, .ref mz, .ref mn, .ref my, .int nx, .int wh, .int (jbi (!pw)), .int cu])), (mt, .inl (ci, 100, .inl tp)), (mb, .inl (cz, 41, .inl fB)), (mz, .inl (ci, 41, .inl fZ)), (mn, .inl (ci, 41, .inl fN)), (my, .inl (ci, 4100, .inl fY))] := hD
      refine lv_aload_n hx hb dX2_write_36 rfl (lv_at hl 1 rfl) ?_
      refine j_calli (wr := []) hP hD hS hA [0, 1, 2, 3, 4, 5] [] rfl rfl (by decide) (by decide) (va_runV (As := []) (rest := []) ⟨hx, hb, hml, hown, hts⟩ (c_M_isCut l D cb ci cz g0 mt mb mz mn my tp fB fZ fN fY 0 k nx wh (jbi (!pw)) cu ct hcu H.size) (cwV 0 hts gX2_write_X2_isCut rfl rfl rfl (by decide +kernel) ⟨Nat.le_of_ble_eq_true rfl, Nat.le_of_ble_eq_true rfl⟩) (j_preV (ci := 2) (q0 := 0) [0, 1, 2, 3, 4, 5] [0, 1, 2] hK hP hD rfl rfl rfl rfl rfl rfl) rfl rfl hl.1 rfl (lv_room (Nat.le_of_ble_eq_true rfl)) dX2_write_37 ⟨Nat.le_of_ble_eq_true rfl, Nat.le_of_ble_eq_true rfl⟩) (fun r37 a9 H locs hw hP hD hS => ?_)
      obtain ⟨o1, q1⟩ := a9
      have hP : va_P D vwCl [(g0, .inr (2, [.ref mt, .int (nI 0), .int (nI k), .ref mb, .ref mz, .ref mn, .ref my, .int nx, .int wh, .int o1, .int q1])), (mt, .inl (ci, 100, .inl tp)), (mb, .inl (cz, 41, .inl fB)), (mz, .inl (ci, 41, .inl fZ)), (mn, .inl (ci, 41, .inl fN)), (my, .inl (ci, 4100, .inl fY))] H := hP
      have hD : va_D A [(g0, .inr (2, [.ref mt, .int (nI 0), .int (nI k), .ref mb, .ref mz, .ref mn, .ref my, .int nx, .int wh, .int o1, .int q1])), (mt, .inl (ci, 100, .inl tp)), (mb, .inl (cz, 41, .inl fB)), (mz, .inl (ci, 41, .inl fZ)), (mn, .inl (ci, 41, .inl fN)), (my, .inl (ci, 4100, .inl fY))] := hD
      obtain ⟨hwx, hwf, hwt⟩ := hw
      refine jt_i (y := jbi ct) hwx ?_
      refine lv_if_eq (tgt := 46) hx hb dX2_write_40 (by decide) (fun c_40_3 => ?_) (fun c_40_3 => ?_)
      · have hct : ct = false := jbi_0.mp c_40_3
        obtain ⟨ho1, hq1⟩ := Prod.mk.inj (hwf hct)
        rw [ho1, hq1] at hP hD
        refine lv_aload_n hx hb dX2_write_46 rfl (lv_at hl 1 rfl) ?_
        refine va_get (D := D) (ci := 2) (v := .ref mb) (C := RX2) (T := TX2) (N := 11) hx hb hts (by decide +kernel) hown hK hP 0 rfl rfl 3 (by decide) (hts (.fieldLink RX2 13 "JournalDeskModel" "isRecord" "[Z") (by decide +kernel)) (fun _ h9 => h9) rfl dX2_write_47 ?_
        refine lv_aload_n hx hb dX2_write_50 rfl (lv_at hl 1 rfl) ?_
        refine va_get (D := D) (ci := 2) (v := .int (nI k)) (C := RX2) (T := TX2) (N := 11) hx hb hts (by decide +kernel) hown hK hP 0 rfl rfl 2 (by decide) (hts (.fieldLink RX2 33 "JournalDeskModel" "kept" "I") (by decide +kernel)) (fun _ h9 => h9) rfl dX2_write_51 ?_
        refine lv_iconst (v := (nI 1)) hx hb dX2_write_54 (by decide +kernel) ?_
        refine j_zast hx hb hK hP hD hS 2 2 rfl rfl (i := k) (by omega) (by decide) (by decide +kernel) dX2_write_55 (fun H locs hP hD hS => ?_)
        have hP : va_P D vwCl [(g0, .inr (2, [.ref mt, .int (nI 0), .int (nI k), .ref mb, .ref mz, .ref mn, .ref my, .int nx, .int wh, .int (jbi (!pw)), .int cu])), (mt, .inl (ci, 100, .inl tp)), (mb, .inl (cz, 41, .inl (upd fB k (nI 1)))), (mz, .inl (ci, 41, .inl fZ)), (mn, .inl (ci, 41, .inl fN)), (my, .inl (ci, 4100, .inl fY))] H := hP
        have hD : va_D A [(g0, .inr (2, [.ref mt, .int (nI 0), .int (nI k), .ref mb, .ref mz, .ref mn, .ref my, .int nx, .int wh, .int (jbi (!pw)), .int cu])), (mt, .inl (ci, 100, .inl tp)), (mb, .inl (cz, 41, .inl (upd fB k (nI 1)))), (mz, .inl (ci, 41, .inl fZ)), (mn, .inl (ci, 41, .inl fN)), (my, .inl (ci, 4100, .inl fY))] := hD
        refine lv_aload_n hx hb dX2_write_56 rfl (lv_at hl 1 rfl) ?_
        refine va_get (D := D) (ci := 2) (v := .ref mz) (C := RX2) (T := TX2) (N := 11) hx hb hts (by decide +kernel) hown hK hP 0 rfl rfl 4 (by decide) (hts (.fieldLink RX2 17 "JournalDeskModel" "sizes" "[I") (by decide +kernel)) (fun _ h9 => h9) rfl dX2_write_57 ?_
        refine lv_aload_n hx hb dX2_write_60 rfl (lv_at hl 1 rfl) ?_
        refine va_get (D := D) (ci := 2) (v := .int (nI k)) (C := RX2) (T := TX2) (N := 11) hx hb hts (by decide +kernel) hown hK hP 0 rfl rfl 2 (by decide) (hts (.fieldLink RX2 33 "JournalDeskModel" "kept" "I") (by decide +kernel)) (fun _ h9 => h9) rfl dX2_write_61 ?_
        refine lv_iload_n hx hb dX2_write_64 rfl (lv_at hl 0 rfl) ?_
        refine j_iast hx hb hK hP hD hS 3 1 rfl rfl (i := k) (by omega) (by decide) dX2_write_65 (fun H locs hP hD hS => ?_)
        have hP : va_P D vwCl [(g0, .inr (2, [.ref mt, .int (nI 0), .int (nI k), .ref mb, .ref mz, .ref mn, .ref my, .int nx, .int wh, .int (jbi (!pw)), .int cu])), (mt, .inl (ci, 100, .inl tp)), (mb, .inl (cz, 41, .inl (upd fB k (nI 1)))), (mz, .inl (ci, 41, .inl (upd fZ k (nI n)))), (mn, .inl (ci, 41, .inl fN)), (my, .inl (ci, 4100, .inl fY))] H := hP
        have hD : va_D A [(g0, .inr (2, [.ref mt, .int (nI 0), .int (nI k), .ref mb, .ref mz, .ref mn, .ref my, .int nx, .int wh, .int (jbi (!pw)), .int cu])), (mt, .inl (ci, 100, .inl tp)), (mb, .inl (cz, 41, .inl (upd fB k (nI 1)))), (mz, .inl (ci, 41, .inl (upd fZ k (nI n)))), (mn, .inl (ci, 41, .inl fN)), (my, .inl (ci, 4100, .inl fY))] := hD
        refine lv_aload_n hx hb dX2_write_66 rfl (lv_at hl 1 rfl) ?_
        refine va_get (D := D) (ci := 2) (v := .ref mn) (C := RX2) (T := TX2) (N := 11) hx hb hts (by decide +kernel) hown hK hP 0 rfl rfl 5 (by decide) (hts (.fieldLink RX2 20 "JournalDeskModel" "numbers" "[I") (by decide +kernel)) (fun _ h9 => h9) rfl dX2_write_67 ?_
        refine lv_aload_n hx hb dX2_write_70 rfl (lv_at hl 1 rfl) ?_
        refine va_get (D := D) (ci := 2) (v := .int (nI k)) (C := RX2) (T := TX2) (N := 11) hx hb hts (by decide +kernel) hown hK hP 0 rfl rfl 2 (by decide) (hts (.fieldLink RX2 33 "JournalDeskModel" "kept" "I") (by decide +kernel)) (fun _ h9 => h9) rfl dX2_write_71 ?_
        refine lv_aload_n hx hb dX2_write_74 rfl (lv_at hl 1 rfl) ?_
        refine va_get (D := D) (ci := 2) (v := .int nx) (C := RX2) (T := TX2) (N := 11) hx hb hts (by decide +kernel) hown hK hP 0 rfl rfl 7 (by decide) (hts (.fieldLink RX2 52 "JournalDeskModel" "next" "I") (by decide +kernel)) (fun _ h9 => h9) rfl dX2_write_75 ?_
        refine j_iast hx hb hK hP hD hS 4 1 rfl rfl (i := k) (by omega) (by decide) dX2_write_78 (fun H locs hP hD hS => ?_)
        have hP : va_P D vwCl [(g0, .inr (2, [.ref mt, .int (nI 0), .int (nI k), .ref mb, .ref mz, .ref mn, .ref my, .int nx, .int wh, .int (jbi (!pw)), .int cu])), (mt, .inl (ci, 100, .inl tp)), (mb, .inl (cz, 41, .inl (upd fB k (nI 1)))), (mz, .inl (ci, 41, .inl (upd fZ k (nI n)))), (mn, .inl (ci, 41, .inl (upd fN k nx))), (my, .inl (ci, 4100, .inl fY))] H := hP
        have hD : va_D A [(g0, .inr (2, [.ref mt, .int (nI 0), .int (nI k), .ref mb, .ref mz, .ref mn, .ref my, .int nx, .int wh, .int (jbi (!pw)), .int cu])), (mt, .inl (ci, 100, .inl tp)), (mb, .inl (cz, 41, .inl (upd fB k (nI 1)))), (mz, .inl (ci, 41, .inl (upd fZ k (nI n)))), (mn, .inl (ci, 41, .inl (upd fN k nx))), (my, .inl (ci, 4100, .inl fY))] := hD
        refine lv_iconst (v := (nI 0)) hx hb dX2_write_79 (by decide +kernel) ?_
        refine lv_istore_n (lv' := [(2, .int (nI 0)), (1, .int (nI n)), (0, .ref g0)]) hx hb dX2_write_80 rfl hl (by decide) rfl (fun ls hl => ?_)
        have LOOP81 : ∀ (fuel : Nat) (i : Nat) (d : Nat → Int32) (hf : n < i + fuel) (hin2 : i ≤ n) (h1 : ∀ i0, i0 < i → d (100 * k + i0) = tp i0) (h2 : ∀ q, q < 100 * k → d q = fY q) (H : Heap) (locs : List Loc), va_P D vwCl [(g0, .inr (2, [.ref mt, .int (nI 0), .int (nI k), .ref mb, .ref mz, .ref mn, .ref my, .int nx, .int wh, .int (jbi (!pw)), .int cu])), (mt, .inl (ci, 100, .inl tp)), (mb, .inl (cz, 41, .inl (upd fB k (nI 1)))), (mz, .inl (ci, 41, .inl (upd fZ k (nI n)))), (mn, .inl (ci, 41, .inl (upd fN k nx))), (my, .inl (ci, 4100, .inl d))] H → va_D A [(g0, .inr (2, [.ref mt, .int (nI 0), .int (nI k), .ref mb, .ref mz, .ref mn, .ref my, .int nx, .int wh, .int (jbi (!pw)), .int cu])), (mt, .inl (ci, 100, .inl tp)), (mb, .inl (cz, 41, .inl (upd fB k (nI 1)))), (mz, .inl (ci, 41, .inl (upd fZ k (nI n)))), (mn, .inl (ci, 41, .inl (upd fN k nx))), (my, .inl (ci, 4100, .inl d))] → va_S A s.heap H locs → ∀ ls : Array Slot, lv_has ls 3 [(0, .ref g0), (1, .int (nI n)), (2, .int (nI i))] → W p l e rm_M_write s m av below meth c H locs 0 0 (MQ below (va_Qi (fun (x : Int32) (a : jMt) => x = (jop_wr ((n, t), (k, r, z, u, y), (nx, wh, pw, ct))).1 ∧ jMk (jop_wr ((n, t), (k, r, z, u, y), (nx, wh, pw, ct))).2 a) (j_post D (jT cb ci cz) (jMw g0 mt mb mz mn my ci cz) A) A) av s 0 0 A) (F0 m 81 ls []) := by
          clear hP hD hS hl
          intro fuel
          induction fuel with
          | zero => intro i d hf hin2 h1 h2; exfalso; omega
          | succ fuel ih81 =>
            intro i d hf hin2 h1 h2 H locs hP hD hS ls hl
            refine lv_iload_n hx hb dX2_write_81 rfl (lv_at hl 2 rfl) ?_
            refine lv_iload_n hx hb dX2_write_82 rfl (lv_at hl 1 rfl) ?_
            refine lv_icmp_ge (tgt := 112) hx hb dX2_write_83 (by decide) (fun c_83_4 => ?_) (fun c_83_4 => ?_)
            · rw [nI_leI (show n < 2 ^ 31 by omega) (show i < 2 ^ 31 by omega)] at c_83_4
              refine lv_aload_n hx hb dX2_write_112 rfl (lv_at hl 0 rfl) ?_
              refine lv_aload_n hx hb dX2_write_113 rfl (lv_at hl 0 rfl) ?_
              refine va_get (D := D) (ci := 2) (v := .int (nI k)) (C := RX2) (T := TX2) (N := 11) hx hb hts (by decide +kernel) hown hK hP 0 rfl rfl 2 (by decide) (hts (.fieldLink RX2 33 "JournalDeskModel" "kept" "I") (by decide +kernel)) (fun _ h9 => h9) rfl dX2_write_114 ?_
              refine lv_iconst (v := (nI 1)) hx hb dX2_write_117 (by decide +kernel) ?_
              refine lv_iadd hx hb dX2_write_118 ?_
              refine jt_i (y := (nI (k + 1))) (nI_add _ _) ?_
              refine va_put (D := D) (ci := 2) (v := .int (nI (k + 1))) (ty := .int) (C := RX2) (T := TX2) (N := 11) hx hb hts (by decide +kernel) tyX2 tyX2_ok nmX2 hown hK hP hD hS 0 rfl rfl 2 (by decide) (hts (.fieldLink RX2 33 "JournalDeskModel" "kept" "I") (by decide +kernel)) (fun _ h9 => h9) rfl (by decide +kernel) (rfl) (rfl) (Nat.le_of_ble_eq_true rfl) dX2_write_119 (fun H locs hP hD hS => ?_)
              have hP : va_P D vwCl [(g0, .inr (2, [.ref mt, .int (nI 0), .int (nI (k + 1)), .ref mb, .ref mz, .ref mn, .ref my, .int nx, .int wh, .int (jbi (!pw)), .int cu])), (mt, .inl (ci, 100, .inl tp)), (mb, .inl (cz, 41, .inl (upd fB k (nI 1)))), (mz, .inl (ci, 41, .inl (upd fZ k (nI n)))), (mn, .inl (ci, 41, .inl (upd fN k nx))), (my, .inl (ci, 4100, .inl d))] H := hP
              have hD : va_D A [(g0, .inr (2, [.ref mt, .int (nI 0), .int (nI (k + 1)), .ref mb, .ref mz, .ref mn, .ref my, .int nx, .int wh, .int (jbi (!pw)), .int cu])), (mt, .inl (ci, 100, .inl tp)), (mb, .inl (cz, 41, .inl (upd fB k (nI 1)))), (mz, .inl (ci, 41, .inl (upd fZ k (nI n)))), (mn, .inl (ci, 41, .inl (upd fN k nx))), (my, .inl (ci, 4100, .inl d))] := hD
              refine lv_aload_n hx hb dX2_write_122 rfl (lv_at hl 0 rfl) ?_
              refine lv_aload_n hx hb dX2_write_123 rfl (lv_at hl 0 rfl) ?_
              refine va_get (D := D) (ci := 2) (v := .int nx) (C := RX2) (T := TX2) (N := 11) hx hb hts (by decide +kernel) hown hK hP 0 rfl rfl 7 (by decide) (hts (.fieldLink RX2 52 "JournalDeskModel" "next" "I") (by decide +kernel)) (fun _ h9 => h9) rfl dX2_write_124 ?_
              refine lv_iconst (v := (nI 1)) hx hb dX2_write_127 (by decide +kernel) ?_
              refine lv_iadd hx hb dX2_write_128 ?_
              refine jt_i (y := (nx + 1)) (rfl) ?_
              refine va_put (D := D) (ci := 2) (v := .int (nx + 1)) (ty := .int) (C := RX2) (T := TX2) (N := 11) hx hb hts (by decide +kernel) tyX2 tyX2_ok nmX2 hown hK hP hD hS 0 rfl rfl 7 (by decide) (hts (.fieldLink RX2 52 "JournalDeskModel" "next" "I") (by decide +kernel)) (fun _ h9 => h9) rfl (by decide +kernel) (rfl) (rfl) (Nat.le_of_ble_eq_true rfl) dX2_write_129 (fun H locs hP hD hS => ?_)
              have hP : va_P D vwCl [(g0, .inr (2, [.ref mt, .int (nI 0), .int (nI (k + 1)), .ref mb, .ref mz, .ref mn, .ref my, .int (nx + 1), .int wh, .int (jbi (!pw)), .int cu])), (mt, .inl (ci, 100, .inl tp)), (mb, .inl (cz, 41, .inl (upd fB k (nI 1)))), (mz, .inl (ci, 41, .inl (upd fZ k (nI n)))), (mn, .inl (ci, 41, .inl (upd fN k nx))), (my, .inl (ci, 4100, .inl d))] H := hP
              have hD : va_D A [(g0, .inr (2, [.ref mt, .int (nI 0), .int (nI (k + 1)), .ref mb, .ref mz, .ref mn, .ref my, .int (nx + 1), .int wh, .int (jbi (!pw)), .int cu])), (mt, .inl (ci, 100, .inl tp)), (mb, .inl (cz, 41, .inl (upd fB k (nI 1)))), (mz, .inl (ci, 41, .inl (upd fZ k (nI n)))), (mn, .inl (ci, 41, .inl (upd fN k nx))), (my, .inl (ci, 4100, .inl d))] := hD
              refine lv_aload_n hx hb dX2_write_132 rfl (lv_at hl 0 rfl) ?_
              refine lv_aload_n hx hb dX2_write_133 rfl (lv_at hl 0 rfl) ?_
              refine va_get (D := D) (ci := 2) (v := .int wh) (C := RX2) (T := TX2) (N := 11) hx hb hts (by decide +kernel) hown hK hP 0 rfl rfl 8 (by decide) (hts (.fieldLink RX2 55 "JournalDeskModel" "whole" "I") (by decide +kernel)) (fun _ h9 => h9) rfl dX2_write_134 ?_
              refine lv_iconst (v := (nI 1)) hx hb dX2_write_137 (by decide +kernel) ?_
              refine lv_iadd hx hb dX2_write_138 ?_
              refine jt_i (y := (wh + 1)) (rfl) ?_
              refine va_put (D := D) (ci := 2) (v := .int (wh + 1)) (ty := .int) (C := RX2) (T := TX2) (N := 11) hx hb hts (by decide +kernel) tyX2 tyX2_ok nmX2 hown hK hP hD hS 0 rfl rfl 8 (by decide) (hts (.fieldLink RX2 55 "JournalDeskModel" "whole" "I") (by decide +kernel)) (fun _ h9 => h9) rfl (by decide +kernel) (rfl) (rfl) (Nat.le_of_ble_eq_true rfl) dX2_write_139 (fun H locs hP hD hS => ?_)
              have hP : va_P D vwCl [(g0, .inr (2, [.ref mt, .int (nI 0), .int (nI (k + 1)), .ref mb, .ref mz, .ref mn, .ref my, .int (nx + 1), .int (wh + 1), .int (jbi (!pw)), .int cu])), (mt, .inl (ci, 100, .inl tp)), (mb, .inl (cz, 41, .inl (upd fB k (nI 1)))), (mz, .inl (ci, 41, .inl (upd fZ k (nI n)))), (mn, .inl (ci, 41, .inl (upd fN k nx))), (my, .inl (ci, 4100, .inl d))] H := hP
              have hD : va_D A [(g0, .inr (2, [.ref mt, .int (nI 0), .int (nI (k + 1)), .ref mb, .ref mz, .ref mn, .ref my, .int (nx + 1), .int (wh + 1), .int (jbi (!pw)), .int cu])), (mt, .inl (ci, 100, .inl tp)), (mb, .inl (cz, 41, .inl (upd fB k (nI 1)))), (mz, .inl (ci, 41, .inl (upd fZ k (nI n)))), (mn, .inl (ci, 41, .inl (upd fN k nx))), (my, .inl (ci, 4100, .inl d))] := hD
              refine lv_aload_n hx hb dX2_write_142 rfl (lv_at hl 0 rfl) ?_
              refine va_get (D := D) (ci := 2) (v := .int (nx + 1)) (C := RX2) (T := TX2) (N := 11) hx hb hts (by decide +kernel) hown hK hP 0 rfl rfl 7 (by decide) (hts (.fieldLink RX2 52 "JournalDeskModel" "next" "I") (by decide +kernel)) (fun _ h9 => h9) rfl dX2_write_143 ?_
              refine lv_iconst (v := (nI 1)) hx hb dX2_write_146 (by decide +kernel) ?_
              refine lv_isub hx hb dX2_write_147 ?_
              refine jt_i (y := nx) (Int32.add_sub_cancel nx 1) ?_
              exact j_iret (v := nx) ((tp, upd fB k (nI 1), upd fZ k (nI n), upd fN k nx, d, 0, k + 1, (nx + 1), (wh + 1), (jbi (!pw)), cu)) hx hb hr hlk hK hP hD hS (by subst hct; subst hpw; rw [jwr_ok hfit]; exact ⟨rfl, jMk_i rfl (Nat.zero_le _) (fun j hj => absurd hj (Nat.not_lt_zero j)) rfl (jus_add hfit) (jz_add hz hn) (jE_add hE hz (fun i0 q0 => (h1 i0 (by omega)).trans (ht i0 q0)) h2) rfl rfl rfl hcu⟩) dX2_write_148
            · rw [nI_leI (show n < 2 ^ 31 by omega) (show i < 2 ^ 31 by omega)] at c_83_4
              refine lv_aload_n hx hb dX2_write_86 rfl (lv_at hl 0 rfl) ?_
              refine va_get (D := D) (ci := 2) (v := .ref my) (C := RX2) (T := TX2) (N := 11) hx hb hts (by decide +kernel) hown hK hP 0 rfl rfl 6 (by decide) (hts (.fieldLink RX2 23 "JournalDeskModel" "bytes" "[I") (by decide +kernel)) (fun _ h9 => h9) rfl dX2_write_87 ?_
              refine lv_bipush (v := (nI 100)) hx hb dX2_write_90 (by decide +kernel) ?_
              refine lv_aload_n hx hb dX2_write_92 rfl (lv_at hl 0 rfl) ?_
              refine va_get (D := D) (ci := 2) (v := .int (nI k)) (C := RX2) (T := TX2) (N := 11) hx hb hts (by decide +kernel) hown hK hP 0 rfl rfl 2 (by decide) (hts (.fieldLink RX2 33 "JournalDeskModel" "kept" "I") (by decide +kernel)) (fun _ h9 => h9) rfl dX2_write_93 ?_
              refine lv_imul hx hb dX2_write_96 ?_
              refine jt_i (y := (nI (100 * k))) (pk_mul _ _) ?_
              refine lv_iload_n hx hb dX2_write_97 rfl (lv_at hl 2 rfl) ?_
              refine lv_iadd hx hb dX2_write_98 ?_
              refine jt_i (y := (nI ((100 * k) + i))) (nI_add _ _) ?_
              refine lv_aload_n hx hb dX2_write_99 rfl (lv_at hl 0 rfl) ?_
              refine va_get (D := D) (ci := 2) (v := .ref mt) (C := RX2) (T := TX2) (N := 11) hx hb hts (by decide +kernel) hown hK hP 0 rfl rfl 0 (by decide) (hts (.fieldLink RX2 7 "JournalDeskModel" "tape" "[I") (by decide +kernel)) (fun _ h9 => h9) rfl dX2_write_100 ?_
              refine lv_iload_n hx hb dX2_write_103 rfl (lv_at hl 2 rfl) ?_
              refine j_iald hx hb hK hP 1 1 rfl rfl (i := i) (by omega) (by decide) (v := (tp i)) (rfl) dX2_write_104 ?_
              refine j_iast hx hb hK hP hD hS 5 1 rfl rfl (i := (100 * k) + i) (by omega) (by decide) dX2_write_105 (fun H locs hP hD hS => ?_)
              have hP : va_P D vwCl [(g0, .inr (2, [.ref mt, .int (nI 0), .int (nI k), .ref mb, .ref mz, .ref mn, .ref my, .int nx, .int wh, .int (jbi (!pw)), .int cu])), (mt, .inl (ci, 100, .inl tp)), (mb, .inl (cz, 41, .inl (upd fB k (nI 1)))), (mz, .inl (ci, 41, .inl (upd fZ k (nI n)))), (mn, .inl (ci, 41, .inl (upd fN k nx))), (my, .inl (ci, 4100, .inl (upd d ((100 * k) + i) (tp i))))] H := hP
              have hD : va_D A [(g0, .inr (2, [.ref mt, .int (nI 0), .int (nI k), .ref mb, .ref mz, .ref mn, .ref my, .int nx, .int wh, .int (jbi (!pw)), .int cu])), (mt, .inl (ci, 100, .inl tp)), (mb, .inl (cz, 41, .inl (upd fB k (nI 1)))), (mz, .inl (ci, 41, .inl (upd fZ k (nI n)))), (mn, .inl (ci, 41, .inl (upd fN k nx))), (my, .inl (ci, 4100, .inl (upd d ((100 * k) + i) (tp i))))] := hD
              refine lv_iinc (v := (nI (i + 1))) (lv' := [(2, .int (nI (i + 1))), (0, .ref g0), (1, .int (nI n))]) hx hb dX2_write_106 hl (k := 2) rfl (nI_1 _) (by decide) rfl (fun ls hl => ?_)
              refine lv_goto (tgt := 81) hx hb dX2_write_109 (by decide) ?_
              exact ih81 (i + 1) _ (by omega) (by omega) (j_wr1 h1) (j_wr2 h2) _ _ hP hD hS ls (lv_sub hl [1, 2, 0] rfl)
        exact LOOP81 (n + 1) 0 fY (by omega) (by omega) (fun _ q => absurd q (Nat.not_lt_zero _)) (fun _ _ => rfl) _ _ hP hD hS ls (lv_sub hl [2, 1, 0] rfl)
      · have hct : ct = true := jbi_n0.mp c_40_3
        obtain ⟨ho1, hq1⟩ := Prod.mk.inj (hwt hct)
        rw [ho1, hq1] at hP hD
        refine lv_bipush (v := (-2)) hx hb dX2_write_43 (by decide +kernel) ?_
        exact j_iret (v := (-2)) ((tp, fB, fZ, fN, fY, 0, k, nx, wh, 1, (-1))) hx hb hr hlk hK hP hD hS (by subst hct; subst hpw; rw [jwr_cut hfit]; exact ⟨rfl, jMk_i rfl (Nat.zero_le _) (fun j hj => absurd hj (Nat.not_lt_zero j)) rfl hus hz hE rfl rfl rfl ⟨fun _ => rfl, fun _ => rfl⟩⟩) dX2_write_45
    · rw [nI_leI (show (js (jse r z) k) + (jsc n) < 2 ^ 31 by omega) (show 40 < 2 ^ 31 by omega)] at c_21_2
      have href : pw = false ∨ 40 < js (jse r z) k + jsc n := Or.inr (by omega)
      refine lv_iconst (v := (-1)) hx hb dX2_write_24 (by decide +kernel) ?_
      exact j_iret (v := (-1)) ((tp, fB, fZ, fN, fY, n, k, nx, wh, (jbi (!pw)), cu)) hx hb hr hlk hK hP hD hS (by rw [jwr_ref href]; exact ⟨rfl, jMk_i rfl hn ht rfl hus hz hE rfl rfl rfl hcu⟩) dX2_write_25
abbrev rm_M_move : Room := { frames := 0, cells := 0, slots := 0, locals := 0 }
set_option maxHeartbeats 4000000 in
set_option maxRecDepth 100000 in
/-- entry a goes to place b, in the reference -/
theorem c_M_move (l : Launch) (D : va_G) (cb ci cz : ClassId) (g0 mt mb mz mn my : Nat) (tp fB fZ fN fY : Nat → Int32) (n k : Nat) (nx wh off cu : Int32) (a b w : Nat) (bl : Bool) (ha : a < 41) (hba : b ≤ a) (hw0 : w ≤ 100) (hZ : fZ a = nI w) (hB : fB a = jbi bl) (sz : Nat) : Met l yX2_move wsX2_move rm_M_move (va_Pc [.ref g0, .int (nI a), .int (nI b)] (j_pre D (jT cb ci cz) [(g0, .inr (2, [.ref mt, .int (nI n), .int (nI k), .ref mb, .ref mz, .ref mn, .ref my, .int nx, .int wh, .int off, .int cu])), (mt, .inl (ci, 100, .inl tp)), (mb, .inl (cz, 41, .inl fB)), (mz, .inl (ci, 41, .inl fZ)), (mn, .inl (ci, 41, .inl fN)), (my, .inl (ci, 4100, .inl fY))] sz)) (va_Qv (fun (d : Nat → Int32) => ∀ q, d q = if 100 * b ≤ q ∧ q < 100 * b + w then fY (100 * a + (q - 100 * b)) else fY q) (j_post D (jT cb ci cz) (fun (d : Nat → Int32) => [(g0, .inr (2, [.ref mt, .int (nI n), .int (nI k), .ref mb, .ref mz, .ref mn, .ref my, .int nx, .int wh, .int off, .int cu])), (mt, .inl (ci, 100, .inl tp)), (mb, .inl (cz, 41, .inl (upd fB b (jbi bl)))), (mz, .inl (ci, 41, .inl (upd fZ b (nI w)))), (mn, .inl (ci, 41, .inl (upd fN b (fN a)))), (my, .inl (ci, 4100, .inl d))]) (va_A [(g0, .inr (2, [.ref mt, .int (nI n), .int (nI k), .ref mb, .ref mz, .ref mn, .ref my, .int nx, .int wh, .int off, .int cu])), (mt, .inl (ci, 100, .inl tp)), (mb, .inl (cz, 41, .inl fB)), (mz, .inl (ci, 41, .inl fZ)), (mn, .inl (ci, 41, .inl fN)), (my, .inl (ci, 4100, .inl fY))] sz)) (va_A [(g0, .inr (2, [.ref mt, .int (nI n), .int (nI k), .ref mb, .ref mz, .ref mn, .ref my, .int nx, .int wh, .int off, .int cu])), (mt, .inl (ci, 100, .inl tp)), (mb, .inl (cz, 41, .inl fB)), (mz, .inl (ci, 41, .inl fZ)), (mn, .inl (ci, 41, .inl fN)), (my, .inl (ci, 4100, .inl fY))] sz)) 0 0 (va_A [(g0, .inr (2, [.ref mt, .int (nI n), .int (nI k), .ref mb, .ref mz, .ref mn, .ref my, .int nx, .int wh, .int off, .int cu])), (mt, .inl (ci, 100, .inl tp)), (mb, .inl (cz, 41, .inl fB)), (mz, .inl (ci, 41, .inl fZ)), (mn, .inl (ci, 41, .inl fN)), (my, .inl (ci, 4100, .inl fY))] sz) := by
  refine j_in (Qc := fun A => (va_Qv (fun (d : Nat → Int32) => ∀ q, d q = if 100 * b ≤ q ∧ q < 100 * b + w then fY (100 * a + (q - 100 * b)) else fY q) (j_post D (jT cb ci cz) (fun (d : Nat → Int32) => [(g0, .inr (2, [.ref mt, .int (nI n), .int (nI k), .ref mb, .ref mz, .ref mn, .ref my, .int nx, .int wh, .int off, .int cu])), (mt, .inl (ci, 100, .inl tp)), (mb, .inl (cz, 41, .inl (upd fB b (jbi bl)))), (mz, .inl (ci, 41, .inl (upd fZ b (nI w)))), (mn, .inl (ci, 41, .inl (upd fN b (fN a)))), (my, .inl (ci, 4100, .inl d))]) A) A)) (cc := cX2_move) (maxL := 4) (ret := none) (by decide) rfl (Nat.le_of_ble_eq_true rfl) ?_
  intro p e s m av below meth c A ls H locs hx hb hr hml hts hown hlk hin hA hP hK hD hS hl
  have hown : s.vm.findClass RX2 = some m.cls := hown
  have hl : lv_has ls 4 [(0, .ref g0), (1, .int (nI a)), (2, .int (nI b))] := hl
  refine lv_aload_n hx hb dX2_move_0 rfl (lv_at hl 0 rfl) ?_
  refine va_get (D := D) (ci := 2) (v := .ref mb) (C := RX2) (T := TX2) (N := 11) hx hb hts (by decide +kernel) hown hK hP 0 rfl rfl 3 (by decide) (hts (.fieldLink RX2 13 "JournalDeskModel" "isRecord" "[Z") (by decide +kernel)) (fun _ h9 => h9) rfl dX2_move_1 ?_
  refine lv_iload_n hx hb dX2_move_4 rfl (lv_at hl 2 rfl) ?_
  refine lv_aload_n hx hb dX2_move_5 rfl (lv_at hl 0 rfl) ?_
  refine va_get (D := D) (ci := 2) (v := .ref mb) (C := RX2) (T := TX2) (N := 11) hx hb hts (by decide +kernel) hown hK hP 0 rfl rfl 3 (by decide) (hts (.fieldLink RX2 13 "JournalDeskModel" "isRecord" "[Z") (by decide +kernel)) (fun _ h9 => h9) rfl dX2_move_6 ?_
  refine lv_iload_n hx hb dX2_move_9 rfl (lv_at hl 1 rfl) ?_
  refine j_zald hx hb hK hP 2 2 rfl rfl (i := a) (by omega) (by decide) (v := (jbi bl)) (hB) dX2_move_10 ?_
  refine j_zast hx hb hK hP hD hS 2 2 rfl rfl (i := b) (by omega) (by decide) (jz_nar bl) dX2_move_11 (fun H locs hP hD hS => ?_)
  have hP : va_P D vwCl [(g0, .inr (2, [.ref mt, .int (nI n), .int (nI k), .ref mb, .ref mz, .ref mn, .ref my, .int nx, .int wh, .int off, .int cu])), (mt, .inl (ci, 100, .inl tp)), (mb, .inl (cz, 41, .inl (upd fB b (jbi bl)))), (mz, .inl (ci, 41, .inl fZ)), (mn, .inl (ci, 41, .inl fN)), (my, .inl (ci, 4100, .inl fY))] H := hP
  have hD : va_D A [(g0, .inr (2, [.ref mt, .int (nI n), .int (nI k), .ref mb, .ref mz, .ref mn, .ref my, .int nx, .int wh, .int off, .int cu])), (mt, .inl (ci, 100, .inl tp)), (mb, .inl (cz, 41, .inl (upd fB b (jbi bl)))), (mz, .inl (ci, 41, .inl fZ)), (mn, .inl (ci, 41, .inl fN)), (my, .inl (ci, 4100, .inl fY))] := hD
  refine lv_aload_n hx hb dX2_move_12 rfl (lv_at hl 0 rfl) ?_
  refine va_get (D := D) (ci := 2) (v := .ref mz) (C := RX2) (T := TX2) (N := 11) hx hb hts (by decide +kernel) hown hK hP 0 rfl rfl 4 (by decide) (hts (.fieldLink RX2 17 "JournalDeskModel" "sizes" "[I") (by decide +kernel)) (fun _ h9 => h9) rfl dX2_move_13 ?_
  refine lv_iload_n hx hb dX2_move_16 rfl (lv_at hl 2 rfl) ?_
  refine lv_aload_n hx hb dX2_move_17 rfl (lv_at hl 0 rfl) ?_
  refine va_get (D := D) (ci := 2) (v := .ref mz) (C := RX2) (T := TX2) (N := 11) hx hb hts (by decide +kernel) hown hK hP 0 rfl rfl 4 (by decide) (hts (.fieldLink RX2 17 "JournalDeskModel" "sizes" "[I") (by decide +kernel)) (fun _ h9 => h9) rfl dX2_move_18 ?_
  refine lv_iload_n hx hb dX2_move_21 rfl (lv_at hl 1 rfl) ?_
  refine j_iald hx hb hK hP 3 1 rfl rfl (i := a) (by omega) (by decide) (v := (nI w)) (hZ) dX2_move_22 ?_
  refine j_iast hx hb hK hP hD hS 3 1 rfl rfl (i := b) (by omega) (by decide) dX2_move_23 (fun H locs hP hD hS => ?_)
  have hP : va_P D vwCl [(g0, .inr (2, [.ref mt, .int (nI n), .int (nI k), .ref mb, .ref mz, .ref mn, .ref my, .int nx, .int wh, .int off, .int cu])), (mt, .inl (ci, 100, .inl tp)), (mb, .inl (cz, 41, .inl (upd fB b (jbi bl)))), (mz, .inl (ci, 41, .inl (upd fZ b (nI w)))), (mn, .inl (ci, 41, .inl fN)), (my, .inl (ci, 4100, .inl fY))] H := hP
  have hD : va_D A [(g0, .inr (2, [.ref mt, .int (nI n), .int (nI k), .ref mb, .ref mz, .ref mn, .ref my, .int nx, .int wh, .int off, .int cu])), (mt, .inl (ci, 100, .inl tp)), (mb, .inl (cz, 41, .inl (upd fB b (jbi bl)))), (mz, .inl (ci, 41, .inl (upd fZ b (nI w)))), (mn, .inl (ci, 41, .inl fN)), (my, .inl (ci, 4100, .inl fY))] := hD
  refine lv_aload_n hx hb dX2_move_24 rfl (lv_at hl 0 rfl) ?_
  refine va_get (D := D) (ci := 2) (v := .ref mn) (C := RX2) (T := TX2) (N := 11) hx hb hts (by decide +kernel) hown hK hP 0 rfl rfl 5 (by decide) (hts (.fieldLink RX2 20 "JournalDeskModel" "numbers" "[I") (by decide +kernel)) (fun _ h9 => h9) rfl dX2_move_25 ?_
  refine lv_iload_n hx hb dX2_move_28 rfl (lv_at hl 2 rfl) ?_
  refine lv_aload_n hx hb dX2_move_29 rfl (lv_at hl 0 rfl) ?_
  refine va_get (D := D) (ci := 2) (v := .ref mn) (C := RX2) (T := TX2) (N := 11) hx hb hts (by decide +kernel) hown hK hP 0 rfl rfl 5 (by decide) (hts (.fieldLink RX2 20 "JournalDeskModel" "numbers" "[I") (by decide +kernel)) (fun _ h9 => h9) rfl dX2_move_30 ?_
  refine lv_iload_n hx hb dX2_move_33 rfl (lv_at hl 1 rfl) ?_
  refine j_iald hx hb hK hP 4 1 rfl rfl (i := a) (by omega) (by decide) (v := (fN a)) (rfl) dX2_move_34 ?_
  refine j_iast hx hb hK hP hD hS 4 1 rfl rfl (i := b) (by omega) (by decide) dX2_move_35 (fun H locs hP hD hS => ?_)
  have hP : va_P D vwCl [(g0, .inr (2, [.ref mt, .int (nI n), .int (nI k), .ref mb, .ref mz, .ref mn, .ref my, .int nx, .int wh, .int off, .int cu])), (mt, .inl (ci, 100, .inl tp)), (mb, .inl (cz, 41, .inl (upd fB b (jbi bl)))), (mz, .inl (ci, 41, .inl (upd fZ b (nI w)))), (mn, .inl (ci, 41, .inl (upd fN b (fN a)))), (my, .inl (ci, 4100, .inl fY))] H := hP
  have hD : va_D A [(g0, .inr (2, [.ref mt, .int (nI n), .int (nI k), .ref mb, .ref mz, .ref mn, .ref my, .int nx, .int wh, .int off, .int cu])), (mt, .inl (ci, 100, .inl tp)), (mb, .inl (cz, 41, .inl (upd fB b (jbi bl)))), (mz, .inl (ci, 41, .inl (upd fZ b (nI w)))), (mn, .inl (ci, 41, .inl (upd fN b (fN a)))), (my, .inl (ci, 4100, .inl fY))] := hD
  refine lv_iconst (v := (nI 0)) hx hb dX2_move_36 (by decide +kernel) ?_
  refine lv_istore_n (lv' := [(3, .int (nI 0)), (0, .ref g0), (1, .int (nI a)), (2, .int (nI b))]) hx hb dX2_move_37 rfl hl (by decide) rfl (fun ls hl => ?_)
  have LOOP38 : ∀ (fuel : Nat) (i : Nat) (d : Nat → Int32) (hf : w < i + fuel) (hiw : i ≤ w) (hd : ∀ q, d q = if 100 * b ≤ q ∧ q < 100 * b + i then fY (100 * a + (q - 100 * b)) else fY q) (H : Heap) (locs : List Loc), va_P D vwCl [(g0, .inr (2, [.ref mt, .int (nI n), .int (nI k), .ref mb, .ref mz, .ref mn, .ref my, .int nx, .int wh, .int off, .int cu])), (mt, .inl (ci, 100, .inl tp)), (mb, .inl (cz, 41, .inl (upd fB b (jbi bl)))), (mz, .inl (ci, 41, .inl (upd fZ b (nI w)))), (mn, .inl (ci, 41, .inl (upd fN b (fN a)))), (my, .inl (ci, 4100, .inl d))] H → va_D A [(g0, .inr (2, [.ref mt, .int (nI n), .int (nI k), .ref mb, .ref mz, .ref mn, .ref my, .int nx, .int wh, .int off, .int cu])), (mt, .inl (ci, 100, .inl tp)), (mb, .inl (cz, 41, .inl (upd fB b (jbi bl)))), (mz, .inl (ci, 41, .inl (upd fZ b (nI w)))), (mn, .inl (ci, 41, .inl (upd fN b (fN a)))), (my, .inl (ci, 4100, .inl d))] → va_S A s.heap H locs → ∀ ls : Array Slot, lv_has ls 4 [(0, .ref g0), (1, .int (nI a)), (2, .int (nI b)), (3, .int (nI i))] → W p l e rm_M_move s m av below meth c H locs 0 0 (MQ below (va_Qv (fun (d : Nat → Int32) => ∀ q, d q = if 100 * b ≤ q ∧ q < 100 * b + w then fY (100 * a + (q - 100 * b)) else fY q) (j_post D (jT cb ci cz) (fun (d : Nat → Int32) => [(g0, .inr (2, [.ref mt, .int (nI n), .int (nI k), .ref mb, .ref mz, .ref mn, .ref my, .int nx, .int wh, .int off, .int cu])), (mt, .inl (ci, 100, .inl tp)), (mb, .inl (cz, 41, .inl (upd fB b (jbi bl)))), (mz, .inl (ci, 41, .inl (upd fZ b (nI w)))), (mn, .inl (ci, 41, .inl (upd fN b (fN a)))), (my, .inl (ci, 4100, .inl d))]) A) A) av s 0 0 A) (F0 m 38 ls []) := by
    clear hP hD hS hl
    intro fuel
    induction fuel with
    | zero => intro i d hf hiw hd; exfalso; omega
    | succ fuel ih38 =>
      intro i d hf hiw hd H locs hP hD hS ls hl
      refine lv_iload_n hx hb dX2_move_38 rfl (lv_at hl 3 rfl) ?_
      refine lv_aload_n hx hb dX2_move_39 rfl (lv_at hl 0 rfl) ?_
      refine va_get (D := D) (ci := 2) (v := .ref mz) (C := RX2) (T := TX2) (N := 11) hx hb hts (by decide +kernel) hown hK hP 0 rfl rfl 4 (by decide) (hts (.fieldLink RX2 17 "JournalDeskModel" "sizes" "[I") (by decide +kernel)) (fun _ h9 => h9) rfl dX2_move_40 ?_
      refine lv_iload_n hx hb dX2_move_43 rfl (lv_at hl 1 rfl) ?_
      refine j_iald hx hb hK hP 3 1 rfl rfl (i := a) (by omega) (by decide) (v := (nI w)) (j_us hZ) dX2_move_44 ?_
      refine lv_icmp_ge (tgt := 76) hx hb dX2_move_45 (by decide) (fun c_45_1 => ?_) (fun c_45_1 => ?_)
      · rw [nI_leI (show w < 2 ^ 31 by omega) (show i < 2 ^ 31 by omega)] at c_45_1
        exact j_vret (d) hx hb hr hlk hK hP hD hS ((show i = w by omega) ▸ hd) dX2_move_76
      · rw [nI_leI (show w < 2 ^ 31 by omega) (show i < 2 ^ 31 by omega)] at c_45_1
        refine lv_aload_n hx hb dX2_move_48 rfl (lv_at hl 0 rfl) ?_
        refine va_get (D := D) (ci := 2) (v := .ref my) (C := RX2) (T := TX2) (N := 11) hx hb hts (by decide +kernel) hown hK hP 0 rfl rfl 6 (by decide) (hts (.fieldLink RX2 23 "JournalDeskModel" "bytes" "[I") (by decide +kernel)) (fun _ h9 => h9) rfl dX2_move_49 ?_
        refine lv_bipush (v := (nI 100)) hx hb dX2_move_52 (by decide +kernel) ?_
        refine lv_iload_n hx hb dX2_move_54 rfl (lv_at hl 2 rfl) ?_
        refine lv_imul hx hb dX2_move_55 ?_
        refine jt_i (y := (nI (100 * b))) (pk_mul _ _) ?_
        refine lv_iload_n hx hb dX2_move_56 rfl (lv_at hl 3 rfl) ?_
        refine lv_iadd hx hb dX2_move_57 ?_
        refine jt_i (y := (nI ((100 * b) + i))) (nI_add _ _) ?_
        refine lv_aload_n hx hb dX2_move_58 rfl (lv_at hl 0 rfl) ?_
        refine va_get (D := D) (ci := 2) (v := .ref my) (C := RX2) (T := TX2) (N := 11) hx hb hts (by decide +kernel) hown hK hP 0 rfl rfl 6 (by decide) (hts (.fieldLink RX2 23 "JournalDeskModel" "bytes" "[I") (by decide +kernel)) (fun _ h9 => h9) rfl dX2_move_59 ?_
        refine lv_bipush (v := (nI 100)) hx hb dX2_move_62 (by decide +kernel) ?_
        refine lv_iload_n hx hb dX2_move_64 rfl (lv_at hl 1 rfl) ?_
        refine lv_imul hx hb dX2_move_65 ?_
        refine jt_i (y := (nI (100 * a))) (pk_mul _ _) ?_
        refine lv_iload_n hx hb dX2_move_66 rfl (lv_at hl 3 rfl) ?_
        refine lv_iadd hx hb dX2_move_67 ?_
        refine jt_i (y := (nI ((100 * a) + i))) (nI_add _ _) ?_
        refine j_iald hx hb hK hP 5 1 rfl rfl (i := (100 * a) + i) (by omega) (by decide) (v := (fY (100 * a + i))) (by rw [hd, if_neg (by omega)]) dX2_move_68 ?_
        refine j_iast hx hb hK hP hD hS 5 1 rfl rfl (i := (100 * b) + i) (by omega) (by decide) dX2_move_69 (fun H locs hP hD hS => ?_)
        have hP : va_P D vwCl [(g0, .inr (2, [.ref mt, .int (nI n), .int (nI k), .ref mb, .ref mz, .ref mn, .ref my, .int nx, .int wh, .int off, .int cu])), (mt, .inl (ci, 100, .inl tp)), (mb, .inl (cz, 41, .inl (upd fB b (jbi bl)))), (mz, .inl (ci, 41, .inl (upd fZ b (nI w)))), (mn, .inl (ci, 41, .inl (upd fN b (fN a)))), (my, .inl (ci, 4100, .inl (upd d ((100 * b) + i) (fY (100 * a + i)))))] H := hP
        have hD : va_D A [(g0, .inr (2, [.ref mt, .int (nI n), .int (nI k), .ref mb, .ref mz, .ref mn, .ref my, .int nx, .int wh, .int off, .int cu])), (mt, .inl (ci, 100, .inl tp)), (mb, .inl (cz, 41, .inl (upd fB b (jbi bl)))), (mz, .inl (ci, 41, .inl (upd fZ b (nI w)))), (mn, .inl (ci, 41, .inl (upd fN b (fN a)))), (my, .inl (ci, 4100, .inl (upd d ((100 * b) + i) (fY (100 * a + i)))))] := hD
        refine lv_iinc (v := (nI (i + 1))) (lv' := [(3, .int (nI (i + 1))), (0, .ref g0), (1, .int (nI a)), (2, .int (nI b))]) hx hb dX2_move_70 hl (k := 3) rfl (nI_1 _) (by decide) rfl (fun ls hl => ?_)
        refine lv_goto (tgt := 38) hx hb dX2_move_73 (by decide) ?_
        exact ih38 (i + 1) _ (by omega) (by omega) (j_mv1 hd) _ _ hP hD hS ls (lv_sub hl [1, 2, 3, 0] rfl)
  exact LOOP38 (w + 1) 0 fY (by omega) (by omega) (fun q => by rw [if_neg (by omega)]) _ _ hP hD hS ls (lv_sub hl [1, 2, 3, 0] rfl)
