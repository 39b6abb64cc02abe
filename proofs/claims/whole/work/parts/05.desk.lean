abbrev rm_D_put : Room := { frames := 0, cells := 0, slots := 0, locals := 0 }
set_option maxHeartbeats 4000000 in
set_option maxRecDepth 100000 in
/-- put -/
theorem c_D_put (l : Launch) (D : va_G) (cb ci cz : ClassId) (h0 qt : Nat) (tp : Nat → Int32) (qr qd ql qn : Nat) (dk L N : Nat → Int32) (old us pr : Nat) (n : Nat) (t : Nat → Int32) (k : Nat) (r : Nat → Bool) (z : Nat → Nat) (u : Nat → Int32) (y : Nat → Nat → Int32) (nx wh : Int32) (pw ct : Bool) (v : Int64) (cv : Int32) (hn : n ≤ 100) (ht : ∀ j, j < n → tp j &&& 255 = t j) (hR : jR old us pr dk L N k r z u y) (sz : Nat) : Met l yX1_put wsX1_put rm_D_put (va_Pc [.ref h0, .long v, .int cv] (j_pre D (jT cb ci cz) [(h0, .inr (1, [.ref qt, .int (nI n), .ref qr, .int nx, .int wh, .int (jbi pw), .int (jbi ct)])), (qt, .inl (cb, 100, .inl tp)), (qr, .inr (0, [.ref qd, .ref ql, .ref qn, .int (nI old), .int (nI us), .int (nI pr)])), (qd, .inl (cb, 480, .inl dk)), (ql, .inl (ci, 40, .inl L)), (qn, .inl (ci, 40, .inl N))] sz)) (va_Qi (fun (x : Int32) (a : jDt) => x = (jop_pt ((n, t), (k, r, z, u, y), (nx, wh, pw, ct)) v cv).1 ∧ jDk (jop_pt ((n, t), (k, r, z, u, y), (nx, wh, pw, ct)) v cv).2 a) (j_post D (jT cb ci cz) (jDw h0 qt qr qd ql qn cb ci) (va_A [(h0, .inr (1, [.ref qt, .int (nI n), .ref qr, .int nx, .int wh, .int (jbi pw), .int (jbi ct)])), (qt, .inl (cb, 100, .inl tp)), (qr, .inr (0, [.ref qd, .ref ql, .ref qn, .int (nI old), .int (nI us), .int (nI pr)])), (qd, .inl (cb, 480, .inl dk)), (ql, .inl (ci, 40, .inl L)), (qn, .inl (ci, 40, .inl N))] sz)) (va_A [(h0, .inr (1, [.ref qt, .int (nI n), .ref qr, .int nx, .int wh, .int (jbi pw), .int (jbi ct)])), (qt, .inl (cb, 100, .inl tp)), (qr, .inr (0, [.ref qd, .ref ql, .ref qn, .int (nI old), .int (nI us), .int (nI pr)])), (qd, .inl (cb, 480, .inl dk)), (ql, .inl (ci, 40, .inl L)), (qn, .inl (ci, 40, .inl N))] sz)) 0 0 (va_A [(h0, .inr (1, [.ref qt, .int (nI n), .ref qr, .int nx, .int wh, .int (jbi pw), .int (jbi ct)])), (qt, .inl (cb, 100, .inl tp)), (qr, .inr (0, [.ref qd, .ref ql, .ref qn, .int (nI old), .int (nI us), .int (nI pr)])), (qd, .inl (cb, 480, .inl dk)), (ql, .inl (ci, 40, .inl L)), (qn, .inl (ci, 40, .inl N))] sz) := by
  refine j_in (Qc := fun A => (va_Qi (fun (x : Int32) (a : jDt) => x = (jop_pt ((n, t), (k, r, z, u, y), (nx, wh, pw, ct)) v cv).1 ∧ jDk (jop_pt ((n, t), (k, r, z, u, y), (nx, wh, pw, ct)) v cv).2 a) (j_post D (jT cb ci cz) (jDw h0 qt qr qd ql qn cb ci) A) A)) (cc := cX1_put) (maxL := 5) (ret := (some .boolean)) (by decide) rfl (Nat.le_of_ble_eq_true rfl) ?_
  intro p e s m av below meth c A ls H locs hx hb hr hml hts hown hlk hin hA hP hK hD hS hl
  have hown : s.vm.findClass RX1 = some m.cls := hown
  have hl : lv_has ls 5 [(0, .ref h0), (1, .long v), (3, .int cv)] := hl
  refine lv_iload_n hx hb dX1_put_0 rfl (lv_at hl 2 rfl) ?_
  refine lv_iconst (v := (nI 1)) hx hb dX1_put_1 (by decide +kernel) ?_
  refine lv_icmp_lt (tgt := 22) hx hb dX1_put_2 (by decide) (fun c_2_1 => ?_) (fun c_2_1 => ?_)
  · have href : cv < 1 ∨ 8 < cv ∨ 100 < n + cv.toNatClampNeg := Or.inl c_2_1
    refine lv_iconst (v := (nI 0)) hx hb dX1_put_22 (by decide +kernel) ?_
    exact j_zret (v := (nI 0)) ((tp, dk, L, N, n, old, us, pr, nx, wh, (jbi pw), (jbi ct))) hx hb hr hlk hK hP hD hS (by decide +kernel) (by rw [jpt_ref href]; exact ⟨rfl, jDk_i rfl hn ht hR rfl rfl rfl rfl⟩) dX1_put_23
  · have hc1 := c_2_1
    refine lv_iload_n hx hb dX1_put_5 rfl (lv_at hl 2 rfl) ?_
    refine lv_bipush (v := (nI 8)) hx hb dX1_put_6 (by decide +kernel) ?_
    refine lv_icmp_gt (tgt := 22) hx hb dX1_put_8 (by decide) (fun c_8_2 => ?_) (fun c_8_2 => ?_)
    · have href : cv < 1 ∨ 8 < cv ∨ 100 < n + cv.toNatClampNeg := Or.inr (Or.inl c_8_2)
      refine lv_iconst (v := (nI 0)) hx hb dX1_put_22 (by decide +kernel) ?_
      exact j_zret (v := (nI 0)) ((tp, dk, L, N, n, old, us, pr, nx, wh, (jbi pw), (jbi ct))) hx hb hr hlk hK hP hD hS (by decide +kernel) (by rw [jpt_ref href]; exact ⟨rfl, jDk_i rfl hn ht hR rfl rfl rfl rfl⟩) dX1_put_23
    · obtain ⟨cc, hc2, hc3, hcv⟩ := j_rng (a := 1) (b := 8) (by decide) (by decide) hc1 c_8_2
      rw [hcv] at hl
      refine lv_iload_n hx hb dX1_put_11 rfl (lv_at hl 2 rfl) ?_
      refine lv_bipush (v := (nI 100)) hx hb dX1_put_12 (by decide +kernel) ?_
      refine lv_aload_n hx hb dX1_put_14 rfl (lv_at hl 0 rfl) ?_
      refine va_get (D := D) (ci := 1) (v := .int (nI n)) (C := RX1) (T := TX1) (N := 7) hx hb hts (by decide +kernel) hown hK hP 0 rfl rfl 1 (by decide) (hts (.fieldLink RX1 13 "JournalDesk" "taped" "I") (by decide +kernel)) (fun _ h9 => h9) rfl dX1_put_15 ?_
      refine lv_isub hx hb dX1_put_18 ?_
      refine jt_i (y := (nI (100 - n))) (pk_sub (by omega)) ?_
      refine lv_icmp_le (tgt := 24) hx hb dX1_put_19 (by decide) (fun c_19_3 => ?_) (fun c_19_3 => ?_)
      · rw [nI_leI (show cc < 2 ^ 31 by omega) (show 100 - n < 2 ^ 31 by omega)] at c_19_3
        refine lv_iload_n hx hb dX1_put_24 rfl (lv_at hl 2 rfl) ?_
        refine lv_iconst (v := (nI 1)) hx hb dX1_put_25 (by decide +kernel) ?_
        refine lv_isub hx hb dX1_put_26 ?_
        refine jt_i (y := ((nI cc) + (-1))) (j_m1sub cc) ?_
        refine lv_istore (lv' := [(4, .int ((nI cc) + (-1))), (0, .ref h0), (1, .long v), (3, .int (nI cc))]) hx hb dX1_put_27 hl (by decide) rfl (fun ls hl => ?_)
        have LOOP29 : ∀ (fuel : Nat) (q : Nat) (tq : Nat → Int32) (hf : cc < q + fuel) (hqc : q ≤ cc) (htq : ∀ j, j < n + q → tq j &&& 255 = (if n ≤ j ∧ j < n + cc then jby v (cc - 1 - (j - n)) else t j)) (H : Heap) (locs : List Loc), va_P D vwCl [(h0, .inr (1, [.ref qt, .int (nI (n + q)), .ref qr, .int nx, .int wh, .int (jbi pw), .int (jbi ct)])), (qt, .inl (cb, 100, .inl tq)), (qr, .inr (0, [.ref qd, .ref ql, .ref qn, .int (nI old), .int (nI us), .int (nI pr)])), (qd, .inl (cb, 480, .inl dk)), (ql, .inl (ci, 40, .inl L)), (qn, .inl (ci, 40, .inl N))] H → va_D A [(h0, .inr (1, [.ref qt, .int (nI (n + q)), .ref qr, .int nx, .int wh, .int (jbi pw), .int (jbi ct)])), (qt, .inl (cb, 100, .inl tq)), (qr, .inr (0, [.ref qd, .ref ql, .ref qn, .int (nI old), .int (nI us), .int (nI pr)])), (qd, .inl (cb, 480, .inl dk)), (ql, .inl (ci, 40, .inl L)), (qn, .inl (ci, 40, .inl N))] → va_S A s.heap H locs → ∀ ls : Array Slot, lv_has ls 5 [(0, .ref h0), (1, .long v), (3, .int (nI cc)), (4, .int ((nI (cc - q)) + (-1)))] → W p l e rm_D_put s m av below meth c H locs 0 0 (MQ below (va_Qi (fun (x : Int32) (a : jDt) => x = (jop_pt ((n, t), (k, r, z, u, y), (nx, wh, pw, ct)) v cv).1 ∧ jDk (jop_pt ((n, t), (k, r, z, u, y), (nx, wh, pw, ct)) v cv).2 a) (j_post D (jT cb ci cz) (jDw h0 qt qr qd ql qn cb ci) A) A) av s 0 0 A) (F0 m 29 ls []) := by
          clear hP hD hS hl
          intro fuel
          induction fuel with
          | zero => intro q tq hf hqc htq; exfalso; omega
          | succ fuel ih29 =>
            intro q tq hf hqc htq H locs hP hD hS ls hl
            refine lv_iload hx hb dX1_put_29 (lv_at hl 3 rfl) ?_
            refine lv_if_lt (tgt := 68) hx hb dX1_put_31 (by decide) (fun c_31_4 => ?_) (fun c_31_4 => ?_)
            · rw [j_m1lt (by omega)] at c_31_4
              refine lv_iconst (v := (nI 1)) hx hb dX1_put_68 (by decide +kernel) ?_
              exact j_zret (v := (nI 1)) ((tq, dk, L, N, n + q, old, us, pr, nx, wh, (jbi pw), (jbi ct))) hx hb hr hlk hK hP hD hS (by decide +kernel) (by rw [hcv, jpt_ok (cc := cc) (by omega) (by omega) (by omega)]; exact ⟨rfl, jDk_i (by omega) (by omega) (fun j hj => htq j (by omega)) hR rfl rfl rfl rfl⟩) dX1_put_69
            · rw [j_m1lt (by omega)] at c_31_4
              rw [j_dec (show q < cc by omega)] at hl
              refine lv_aload_n hx hb dX1_put_34 rfl (lv_at hl 0 rfl) ?_
              refine va_get (D := D) (ci := 1) (v := .ref qt) (C := RX1) (T := TX1) (N := 7) hx hb hts (by decide +kernel) hown hK hP 0 rfl rfl 0 (by decide) (hts (.fieldLink RX1 9 "JournalDesk" "tape" "[B") (by decide +kernel)) (fun _ h9 => h9) rfl dX1_put_35 ?_
              refine lv_aload_n hx hb dX1_put_38 rfl (lv_at hl 0 rfl) ?_
              refine va_get (D := D) (ci := 1) (v := .int (nI (n + q))) (C := RX1) (T := TX1) (N := 7) hx hb hts (by decide +kernel) hown hK hP 0 rfl rfl 1 (by decide) (hts (.fieldLink RX1 13 "JournalDesk" "taped" "I") (by decide +kernel)) (fun _ h9 => h9) rfl dX1_put_39 ?_
              refine lv_lload_n hx hb dX1_put_42 rfl (lv_at hl 1 rfl) ?_
              refine lv_bipush (v := (nI 8)) hx hb dX1_put_43 (by decide +kernel) ?_
              refine lv_iload hx hb dX1_put_45 (lv_at hl 3 rfl) ?_
              refine lv_imul hx hb dX1_put_47 ?_
              refine jt_i (y := (nI (8 * (cc - (q + 1))))) (pk_mul _ _) ?_
              refine lv_lushr hx hb dX1_put_48 rfl ?_
              refine lv_l2i hx hb dX1_put_49 rfl ?_
              refine lv_i2b hx hb dX1_put_50 rfl ?_
              refine j_bast hx hb hK hP hD hS 1 0 rfl rfl (i := n + q) (by omega) (by decide) (y := jcb v (cc - (q + 1))) (pk_vb _) dX1_put_51 (fun H locs hP hD hS => ?_)
              have hP : va_P D vwCl [(h0, .inr (1, [.ref qt, .int (nI (n + q)), .ref qr, .int nx, .int wh, .int (jbi pw), .int (jbi ct)])), (qt, .inl (cb, 100, .inl (upd tq (n + q) (jcb v (cc - (q + 1)))))), (qr, .inr (0, [.ref qd, .ref ql, .ref qn, .int (nI old), .int (nI us), .int (nI pr)])), (qd, .inl (cb, 480, .inl dk)), (ql, .inl (ci, 40, .inl L)), (qn, .inl (ci, 40, .inl N))] H := hP
              have hD : va_D A [(h0, .inr (1, [.ref qt, .int (nI (n + q)), .ref qr, .int nx, .int wh, .int (jbi pw), .int (jbi ct)])), (qt, .inl (cb, 100, .inl (upd tq (n + q) (jcb v (cc - (q + 1)))))), (qr, .inr (0, [.ref qd, .ref ql, .ref qn, .int (nI old), .int (nI us), .int (nI pr)])), (qd, .inl (cb, 480, .inl dk)), (ql, .inl (ci, 40, .inl L)), (qn, .inl (ci, 40, .inl N))] := hD
              refine lv_aload_n hx hb dX1_put_52 rfl (lv_at hl 0 rfl) ?_
              refine lv_dup hx hb dX1_put_53 rfl ?_
              refine va_get (D := D) (ci := 1) (v := .int (nI (n + q))) (C := RX1) (T := TX1) (N := 7) hx hb hts (by decide +kernel) hown hK hP 0 rfl rfl 1 (by decide) (hts (.fieldLink RX1 13 "JournalDesk" "taped" "I") (by decide +kernel)) (fun _ h9 => h9) rfl dX1_put_54 ?_
              refine lv_iconst (v := (nI 1)) hx hb dX1_put_57 (by decide +kernel) ?_
              refine lv_iadd hx hb dX1_put_58 ?_
              refine jt_i (y := (nI ((n + q) + 1))) (nI_add _ _) ?_
              refine va_put (D := D) (ci := 1) (v := .int (nI ((n + q) + 1))) (ty := .int) (C := RX1) (T := TX1) (N := 7) hx hb hts (by decide +kernel) tyX1 tyX1_ok nmX1 hown hK hP hD hS 0 rfl rfl 1 (by decide) (hts (.fieldLink RX1 13 "JournalDesk" "taped" "I") (by decide +kernel)) (fun _ h9 => h9) rfl (by decide +kernel) (rfl) (rfl) (Nat.le_of_ble_eq_true rfl) dX1_put_59 (fun H locs hP hD hS => ?_)
              have hP : va_P D vwCl [(h0, .inr (1, [.ref qt, .int (nI ((n + q) + 1)), .ref qr, .int nx, .int wh, .int (jbi pw), .int (jbi ct)])), (qt, .inl (cb, 100, .inl (upd tq (n + q) (jcb v (cc - (q + 1)))))), (qr, .inr (0, [.ref qd, .ref ql, .ref qn, .int (nI old), .int (nI us), .int (nI pr)])), (qd, .inl (cb, 480, .inl dk)), (ql, .inl (ci, 40, .inl L)), (qn, .inl (ci, 40, .inl N))] H := hP
              have hD : va_D A [(h0, .inr (1, [.ref qt, .int (nI ((n + q) + 1)), .ref qr, .int nx, .int wh, .int (jbi pw), .int (jbi ct)])), (qt, .inl (cb, 100, .inl (upd tq (n + q) (jcb v (cc - (q + 1)))))), (qr, .inr (0, [.ref qd, .ref ql, .ref qn, .int (nI old), .int (nI us), .int (nI pr)])), (qd, .inl (cb, 480, .inl dk)), (ql, .inl (ci, 40, .inl L)), (qn, .inl (ci, 40, .inl N))] := hD
              refine lv_iinc (v := ((nI (cc - (q + 1))) + (-1))) (lv' := [(4, .int ((nI (cc - (q + 1))) + (-1))), (0, .ref h0), (1, .long v), (3, .int (nI cc))]) hx hb dX1_put_62 hl (k := 3) rfl (rfl) (by decide) rfl (fun ls hl => ?_)
              refine lv_goto (tgt := 29) hx hb dX1_put_65 (by decide) ?_
              exact ih29 (q + 1) _ (by omega) (by omega) (j_pt1 htq (by show _ = (if n ≤ n + q ∧ n + q < n + cc then jby v (cc - 1 - (n + q - n)) else t (n + q)); rw [if_pos (by omega), show cc - 1 - (n + q - n) = cc - (q + 1) by omega]; exact jby_class v _ (by omega))) _ _ hP hD hS ls (lv_sub hl [1, 2, 3, 0] rfl)
        exact LOOP29 (cc + 1) 0 tp (by omega) (by omega) (fun j hj => by rw [if_neg (by omega)]; exact ht j hj) _ _ hP hD hS ls (lv_sub hl [1, 2, 3, 0] rfl)
      · rw [nI_leI (show cc < 2 ^ 31 by omega) (show 100 - n < 2 ^ 31 by omega)] at c_19_3
        have href : cv < 1 ∨ 8 < cv ∨ 100 < n + cv.toNatClampNeg := Or.inr (Or.inr (by rw [hcv, nI_clamp (by omega)]; omega))
        refine lv_iconst (v := (nI 0)) hx hb dX1_put_22 (by decide +kernel) ?_
        exact j_zret (v := (nI 0)) ((tp, dk, L, N, n, old, us, pr, nx, wh, (jbi pw), (jbi ct))) hx hb hr hlk hK hP hD hS (by decide +kernel) (by rw [jpt_ref href]; exact ⟨rfl, jDk_i rfl hn ht hR rfl rfl rfl rfl⟩) dX1_put_23
abbrev rm_D_losesPower : Room := { frames := 0, cells := 0, slots := 0, locals := 0 }
set_option maxHeartbeats 4000000 in
set_option maxRecDepth 100000 in
/-- a cut that waits is spent -/
theorem c_D_losesPower (l : Launch) (D : va_G) (cb ci cz : ClassId) (h0 qt : Nat) (tp : Nat → Int32) (qr qd ql qn : Nat) (dk L N : Nat → Int32) (old us pr : Nat) (n : Nat) (nx wh : Int32) (pw ct : Bool) (sz : Nat) : Met l yX1_losesPower wsX1_losesPower rm_D_losesPower (va_Pc [.ref h0] (j_pre D (jT cb ci cz) [(h0, .inr (1, [.ref qt, .int (nI n), .ref qr, .int nx, .int wh, .int (jbi pw), .int (jbi ct)])), (qt, .inl (cb, 100, .inl tp)), (qr, .inr (0, [.ref qd, .ref ql, .ref qn, .int (nI old), .int (nI us), .int (nI pr)])), (qd, .inl (cb, 480, .inl dk)), (ql, .inl (ci, 40, .inl L)), (qn, .inl (ci, 40, .inl N))] sz)) (va_Qi (fun (x : Int32) (_ : Unit) => x = jbi ct) (j_post D (jT cb ci cz) (fun _ => [(h0, .inr (1, [.ref qt, .int (nI n), .ref qr, .int nx, .int wh, .int (jbi (!ct && pw)), .int (jbi false)])), (qt, .inl (cb, 100, .inl tp)), (qr, .inr (0, [.ref qd, .ref ql, .ref qn, .int (nI old), .int (nI us), .int (nI pr)])), (qd, .inl (cb, 480, .inl dk)), (ql, .inl (ci, 40, .inl L)), (qn, .inl (ci, 40, .inl N))]) (va_A [(h0, .inr (1, [.ref qt, .int (nI n), .ref qr, .int nx, .int wh, .int (jbi pw), .int (jbi ct)])), (qt, .inl (cb, 100, .inl tp)), (qr, .inr (0, [.ref qd, .ref ql, .ref qn, .int (nI old), .int (nI us), .int (nI pr)])), (qd, .inl (cb, 480, .inl dk)), (ql, .inl (ci, 40, .inl L)), (qn, .inl (ci, 40, .inl N))] sz)) (va_A [(h0, .inr (1, [.ref qt, .int (nI n), .ref qr, .int nx, .int wh, .int (jbi pw), .int (jbi ct)])), (qt, .inl (cb, 100, .inl tp)), (qr, .inr (0, [.ref qd, .ref ql, .ref qn, .int (nI old), .int (nI us), .int (nI pr)])), (qd, .inl (cb, 480, .inl dk)), (ql, .inl (ci, 40, .inl L)), (qn, .inl (ci, 40, .inl N))] sz)) 0 0 (va_A [(h0, .inr (1, [.ref qt, .int (nI n), .ref qr, .int nx, .int wh, .int (jbi pw), .int (jbi ct)])), (qt, .inl (cb, 100, .inl tp)), (qr, .inr (0, [.ref qd, .ref ql, .ref qn, .int (nI old), .int (nI us), .int (nI pr)])), (qd, .inl (cb, 480, .inl dk)), (ql, .inl (ci, 40, .inl L)), (qn, .inl (ci, 40, .inl N))] sz) := by
  refine j_in (Qc := fun A => (va_Qi (fun (x : Int32) (_ : Unit) => x = jbi ct) (j_post D (jT cb ci cz) (fun _ => [(h0, .inr (1, [.ref qt, .int (nI n), .ref qr, .int nx, .int wh, .int (jbi (!ct && pw)), .int (jbi false)])), (qt, .inl (cb, 100, .inl tp)), (qr, .inr (0, [.ref qd, .ref ql, .ref qn, .int (nI old), .int (nI us), .int (nI pr)])), (qd, .inl (cb, 480, .inl dk)), (ql, .inl (ci, 40, .inl L)), (qn, .inl (ci, 40, .inl N))]) A) A)) (cc := cX1_losesPower) (maxL := 1) (ret := (some .boolean)) (by decide) rfl (Nat.le_of_ble_eq_true rfl) ?_
  intro p e s m av below meth c A ls H locs hx hb hr hml hts hown hlk hin hA hP hK hD hS hl
  have hown : s.vm.findClass RX1 = some m.cls := hown
  have hl : lv_has ls 1 [(0, .ref h0)] := hl
  refine lv_aload_n hx hb dX1_losesPower_0 rfl (lv_at hl 0 rfl) ?_
  refine va_get (D := D) (ci := 1) (v := .int (jbi ct)) (C := RX1) (T := TX1) (N := 7) hx hb hts (by decide +kernel) hown hK hP 0 rfl rfl 6 (by decide) (hts (.fieldLink RX1 34 "JournalDesk" "cutNext" "Z") (by decide +kernel)) (fun _ h9 => h9) rfl dX1_losesPower_1 ?_
  refine lv_if_ne (tgt := 9) hx hb dX1_losesPower_4 (by decide) (fun c_4_1 => ?_) (fun c_4_1 => ?_)
  · have hct : ct = true := jbi_n0.mp c_4_1
    subst hct
    refine lv_aload_n hx hb dX1_losesPower_9 rfl (lv_at hl 0 rfl) ?_
    refine lv_iconst (v := (nI 0)) hx hb dX1_losesPower_10 (by decide +kernel) ?_
    refine va_put (D := D) (ci := 1) (v := .int (nI 0)) (ty := .boolean) (C := RX1) (T := TX1) (N := 7) hx hb hts (by decide +kernel) tyX1 tyX1_ok nmX1 hown hK hP hD hS 0 rfl rfl 6 (by decide) (hts (.fieldLink RX1 34 "JournalDesk" "cutNext" "Z") (by decide +kernel)) (fun _ h9 => h9) rfl (by decide +kernel) (rfl) (rfl) (Nat.le_of_ble_eq_true rfl) dX1_losesPower_11 (fun H locs hP hD hS => ?_)
    have hP : va_P D vwCl [(h0, .inr (1, [.ref qt, .int (nI n), .ref qr, .int nx, .int wh, .int (jbi pw), .int (nI 0)])), (qt, .inl (cb, 100, .inl tp)), (qr, .inr (0, [.ref qd, .ref ql, .ref qn, .int (nI old), .int (nI us), .int (nI pr)])), (qd, .inl (cb, 480, .inl dk)), (ql, .inl (ci, 40, .inl L)), (qn, .inl (ci, 40, .inl N))] H := hP
    have hD : va_D A [(h0, .inr (1, [.ref qt, .int (nI n), .ref qr, .int nx, .int wh, .int (jbi pw), .int (nI 0)])), (qt, .inl (cb, 100, .inl tp)), (qr, .inr (0, [.ref qd, .ref ql, .ref qn, .int (nI old), .int (nI us), .int (nI pr)])), (qd, .inl (cb, 480, .inl dk)), (ql, .inl (ci, 40, .inl L)), (qn, .inl (ci, 40, .inl N))] := hD
    refine lv_aload_n hx hb dX1_losesPower_14 rfl (lv_at hl 0 rfl) ?_
    refine lv_iconst (v := (nI 0)) hx hb dX1_losesPower_15 (by decide +kernel) ?_
    refine va_put (D := D) (ci := 1) (v := .int (nI 0)) (ty := .boolean) (C := RX1) (T := TX1) (N := 7) hx hb hts (by decide +kernel) tyX1 tyX1_ok nmX1 hown hK hP hD hS 0 rfl rfl 5 (by decide) (hts (.fieldLink RX1 30 "JournalDesk" "power" "Z") (by decide +kernel)) (fun _ h9 => h9) rfl (by decide +kernel) (rfl) (rfl) (Nat.le_of_ble_eq_true rfl) dX1_losesPower_16 (fun H locs hP hD hS => ?_)
    have hP : va_P D vwCl [(h0, .inr (1, [.ref qt, .int (nI n), .ref qr, .int nx, .int wh, .int (nI 0), .int (nI 0)])), (qt, .inl (cb, 100, .inl tp)), (qr, .inr (0, [.ref qd, .ref ql, .ref qn, .int (nI old), .int (nI us), .int (nI pr)])), (qd, .inl (cb, 480, .inl dk)), (ql, .inl (ci, 40, .inl L)), (qn, .inl (ci, 40, .inl N))] H := hP
    have hD : va_D A [(h0, .inr (1, [.ref qt, .int (nI n), .ref qr, .int nx, .int wh, .int (nI 0), .int (nI 0)])), (qt, .inl (cb, 100, .inl tp)), (qr, .inr (0, [.ref qd, .ref ql, .ref qn, .int (nI old), .int (nI us), .int (nI pr)])), (qd, .inl (cb, 480, .inl dk)), (ql, .inl (ci, 40, .inl L)), (qn, .inl (ci, 40, .inl N))] := hD
    refine lv_iconst (v := (nI 1)) hx hb dX1_losesPower_19 (by decide +kernel) ?_
    exact j_zret (v := (nI 1)) (()) hx hb hr hlk hK hP hD hS (by decide +kernel) (rfl) dX1_losesPower_20
  · have hct : ct = false := jbi_0.mp c_4_1
    subst hct
    refine lv_iconst (v := (nI 0)) hx hb dX1_losesPower_7 (by decide +kernel) ?_
    exact j_zret (v := (nI 0)) (()) hx hb hr hlk hK hP hD hS (by decide +kernel) (rfl) dX1_losesPower_8
abbrev rm_D_write : Room := { frames := 4, cells := 0, slots := 0, locals := 90 }
set_option maxHeartbeats 4000000 in
set_option maxRecDepth 100000 in
/-- write -/
theorem c_D_write (l : Launch) (D : va_G) (cb ci cz : ClassId) (h0 qt : Nat) (tp : Nat → Int32) (qr qd ql qn : Nat) (dk L N : Nat → Int32) (old us pr : Nat) (n : Nat) (t : Nat → Int32) (k : Nat) (r : Nat → Bool) (z : Nat → Nat) (u : Nat → Int32) (y : Nat → Nat → Int32) (nx wh : Int32) (pw ct : Bool) (hn : n ≤ 100) (ht : ∀ j, j < n → tp j &&& 255 = t j) (hR : jR old us pr dk L N k r z u y) (sz : Nat) : Met l yX1_write wsX1_write rm_D_write (va_Pc [.ref h0] (j_pre D (jT cb ci cz) [(h0, .inr (1, [.ref qt, .int (nI n), .ref qr, .int nx, .int wh, .int (jbi pw), .int (jbi ct)])), (qt, .inl (cb, 100, .inl tp)), (qr, .inr (0, [.ref qd, .ref ql, .ref qn, .int (nI old), .int (nI us), .int (nI pr)])), (qd, .inl (cb, 480, .inl dk)), (ql, .inl (ci, 40, .inl L)), (qn, .inl (ci, 40, .inl N))] sz)) (va_Qi (fun (x : Int32) (a : jDt) => x = (jop_wr ((n, t), (k, r, z, u, y), (nx, wh, pw, ct))).1 ∧ jDk (jop_wr ((n, t), (k, r, z, u, y), (nx, wh, pw, ct))).2 a) (j_post D (jT cb ci cz) (jDw h0 qt qr qd ql qn cb ci) (va_A [(h0, .inr (1, [.ref qt, .int (nI n), .ref qr, .int nx, .int wh, .int (jbi pw), .int (jbi ct)])), (qt, .inl (cb, 100, .inl tp)), (qr, .inr (0, [.ref qd, .ref ql, .ref qn, .int (nI old), .int (nI us), .int (nI pr)])), (qd, .inl (cb, 480, .inl dk)), (ql, .inl (ci, 40, .inl L)), (qn, .inl (ci, 40, .inl N))] sz)) (va_A [(h0, .inr (1, [.ref qt, .int (nI n), .ref qr, .int nx, .int wh, .int (jbi pw), .int (jbi ct)])), (qt, .inl (cb, 100, .inl tp)), (qr, .inr (0, [.ref qd, .ref ql, .ref qn, .int (nI old), .int (nI us), .int (nI pr)])), (qd, .inl (cb, 480, .inl dk)), (ql, .inl (ci, 40, .inl L)), (qn, .inl (ci, 40, .inl N))] sz)) 0 0 (va_A [(h0, .inr (1, [.ref qt, .int (nI n), .ref qr, .int nx, .int wh, .int (jbi pw), .int (jbi ct)])), (qt, .inl (cb, 100, .inl tp)), (qr, .inr (0, [.ref qd, .ref ql, .ref qn, .int (nI old), .int (nI us), .int (nI pr)])), (qd, .inl (cb, 480, .inl dk)), (ql, .inl (ci, 40, .inl L)), (qn, .inl (ci, 40, .inl N))] sz) := by
  refine j_in (Qc := fun A => (va_Qi (fun (x : Int32) (a : jDt) => x = (jop_wr ((n, t), (k, r, z, u, y), (nx, wh, pw, ct))).1 ∧ jDk (jop_wr ((n, t), (k, r, z, u, y), (nx, wh, pw, ct))).2 a) (j_post D (jT cb ci cz) (jDw h0 qt qr qd ql qn cb ci) A) A)) (cc := cX1_write) (maxL := 3) (ret := (some .int)) (by decide) rfl (Nat.le_of_ble_eq_true rfl) ?_
  intro p e s m av below meth c A ls H locs hx hb hr hml hts hown hlk hin hA hP hK hD hS hl
  have hown : s.vm.findClass RX1 = some m.cls := hown
  have hl : lv_has ls 3 [(0, .ref h0)] := hl
  refine lv_aload_n hx hb dX1_write_0 rfl (lv_at hl 0 rfl) ?_
  refine va_get (D := D) (ci := 1) (v := .int (jbi pw)) (C := RX1) (T := TX1) (N := 7) hx hb hts (by decide +kernel) hown hK hP 0 rfl rfl 5 (by decide) (hts (.fieldLink RX1 30 "JournalDesk" "power" "Z") (by decide +kernel)) (fun _ h9 => h9) rfl dX1_write_1 ?_
  refine lv_if_eq (tgt := 24) hx hb dX1_write_4 (by decide) (fun c_4_1 => ?_) (fun c_4_1 => ?_)
  · have hpw : pw = false := jbi_0.mp c_4_1
    have href : pw = false ∨ 40 < js (jse r z) k + jsc n := Or.inl hpw
    refine lv_iconst (v := (-1)) hx hb dX1_write_24 (by decide +kernel) ?_
    exact j_iret (v := (-1)) ((tp, dk, L, N, n, old, us, pr, nx, wh, (jbi pw), (jbi ct))) hx hb hr hlk hK hP hD hS (by rw [jwr_ref href]; exact ⟨rfl, jDk_i rfl hn ht hR rfl rfl rfl rfl⟩) dX1_write_25
  · have hpw : pw = true := jbi_n0.mp c_4_1
    refine lv_aload_n hx hb dX1_write_7 rfl (lv_at hl 0 rfl) ?_
    refine va_get (D := D) (ci := 1) (v := .ref qr) (C := RX1) (T := TX1) (N := 7) hx hb hts (by decide +kernel) hown hK hP 0 rfl rfl 2 (by decide) (hts (.fieldLink RX1 20 "JournalDesk" "ring" "LJournalDesk$Ring;") (by decide +kernel)) (fun _ h9 => h9) rfl dX1_write_8 ?_
    refine lv_aload_n hx hb dX1_write_11 rfl (lv_at hl 0 rfl) ?_
    refine va_get (D := D) (ci := 1) (v := .int (nI n)) (C := RX1) (T := TX1) (N := 7) hx hb hts (by decide +kernel) hown hK hP 0 rfl rfl 1 (by decide) (hts (.fieldLink RX1 13 "JournalDesk" "taped" "I") (by decide +kernel)) (fun _ h9 => h9) rfl dX1_write_12 ?_
    refine j_calli (wr := [(h0, .inr (1, [.ref qt, .int (nI n), .ref qr, .int nx, .int wh, .int (jbi pw), .int (jbi ct)])), (qt, .inl (cb, 100, .inl tp)), (qr, .inr (0, [.ref qd, .ref ql, .ref qn, .int (nI old), .int (nI us), .int (nI pr)])), (qd, .inl (cb, 480, .inl dk)), (ql, .inl (ci, 40, .inl L)), (qn, .inl (ci, 40, .inl N))]) hP hD hS hA [] [0, 1, 2, 3, 4, 5] rfl rfl (by decide) (by decide) (va_runS (As := [.int (nI n)]) (rest := [.ref qr]) ⟨hx, hb, hml, hown, hts⟩ (c_R_sectorsFor l D cb ci cz n hn H.size) (va_cwS 1 hts gX1_write_X0_sectorsFor rfl rfl rfl (by decide +kernel) ⟨Nat.le_of_ble_eq_true rfl, Nat.le_of_ble_eq_true rfl⟩) (j_preS [] [0, 1, 2] hK hP hD rfl rfl rfl rfl) rfl rfl hl.1 rfl (lv_room (Nat.le_of_ble_eq_true rfl)) dX1_write_15 ⟨Nat.le_of_ble_eq_true rfl, Nat.le_of_ble_eq_true rfl⟩) (fun r15 u9 H locs hw hP hD hS => ?_)
    have hP : va_P D vwCl [(h0, .inr (1, [.ref qt, .int (nI n), .ref qr, .int nx, .int wh, .int (jbi pw), .int (jbi ct)])), (qt, .inl (cb, 100, .inl tp)), (qr, .inr (0, [.ref qd, .ref ql, .ref qn, .int (nI old), .int (nI us), .int (nI pr)])), (qd, .inl (cb, 480, .inl dk)), (ql, .inl (ci, 40, .inl L)), (qn, .inl (ci, 40, .inl N))] H := hP
    have hD : va_D A [(h0, .inr (1, [.ref qt, .int (nI n), .ref qr, .int nx, .int wh, .int (jbi pw), .int (jbi ct)])), (qt, .inl (cb, 100, .inl tp)), (qr, .inr (0, [.ref qd, .ref ql, .ref qn, .int (nI old), .int (nI us), .int (nI pr)])), (qd, .inl (cb, 480, .inl dk)), (ql, .inl (ci, 40, .inl L)), (qn, .inl (ci, 40, .inl N))] := hD
    have hw : r15 = (nI (jsc n)) := hw
    subst hw
    refine j_calli (wr := [(h0, .inr (1, [.ref qt, .int (nI n), .ref qr, .int nx, .int wh, .int (jbi pw), .int (jbi ct)])), (qt, .inl (cb, 100, .inl tp))]) hP hD hS hA [2, 3, 4, 5] [0, 1] rfl rfl (by decide) (by decide) (va_runV (As := [.int (nI (jsc n))]) (rest := []) ⟨hx, hb, hml, hown, hts⟩ (c_R_hasRoom l D cb ci cz qr qd ql qn dk L N old us pr (jsc n) (by have q := jsc_le hn; omega) hR.2.2.1 H.size) (cwV 1 hts gX1_write_X0_hasRoom rfl rfl rfl (by decide +kernel) ⟨Nat.le_of_ble_eq_true rfl, Nat.le_of_ble_eq_true rfl⟩) (j_preV (ci := 0) (q0 := 0) [2, 3, 4, 5] [0, 1, 2] hK hP hD rfl rfl rfl rfl rfl rfl) rfl rfl hl.1 rfl (lv_room (Nat.le_of_ble_eq_true rfl)) dX1_write_18 ⟨Nat.le_of_ble_eq_true rfl, Nat.le_of_ble_eq_true rfl⟩) (fun r18 u9 H locs hw hP hD hS => ?_)
    have hP : va_P D vwCl [(h0, .inr (1, [.ref qt, .int (nI n), .ref qr, .int nx, .int wh, .int (jbi pw), .int (jbi ct)])), (qt, .inl (cb, 100, .inl tp)), (qr, .inr (0, [.ref qd, .ref ql, .ref qn, .int (nI old), .int (nI us), .int (nI pr)])), (qd, .inl (cb, 480, .inl dk)), (ql, .inl (ci, 40, .inl L)), (qn, .inl (ci, 40, .inl N))] H := hP
    have hD : va_D A [(h0, .inr (1, [.ref qt, .int (nI n), .ref qr, .int nx, .int wh, .int (jbi pw), .int (jbi ct)])), (qt, .inl (cb, 100, .inl tp)), (qr, .inr (0, [.ref qd, .ref ql, .ref qn, .int (nI old), .int (nI us), .int (nI pr)])), (qd, .inl (cb, 480, .inl dk)), (ql, .inl (ci, 40, .inl L)), (qn, .inl (ci, 40, .inl N))] := hD
    have hw : r18 = (jbi (decide (us + jsc n ≤ 40))) := hw
    subst hw
    refine lv_if_ne (tgt := 26) hx hb dX1_write_21 (by decide) (fun c_21_2 => ?_) (fun c_21_2 => ?_)
    · have hfit : us + jsc n ≤ 40 := of_decide_eq_true (jbi_n0.mp c_21_2)
      refine lv_aload_n hx hb dX1_write_26 rfl (lv_at hl 0 rfl) ?_
      refine va_get (D := D) (ci := 1) (v := .int (nI n)) (C := RX1) (T := TX1) (N := 7) hx hb hts (by decide +kernel) hown hK hP 0 rfl rfl 1 (by decide) (hts (.fieldLink RX1 13 "JournalDesk" "taped" "I") (by decide +kernel)) (fun _ h9 => h9) rfl dX1_write_27 ?_
      refine lv_istore_n (lv' := [(1, .int (nI n)), (0, .ref h0)]) hx hb dX1_write_30 rfl hl (by decide) rfl (fun ls hl => ?_)
      refine lv_aload_n hx hb dX1_write_31 rfl (lv_at hl 1 rfl) ?_
      refine lv_iconst (v := (nI 0)) hx hb dX1_write_32 (by decide +kernel) ?_
      refine va_put (D := D) (ci := 1) (v := .int (nI 0)) (ty := .int) (C := RX1) (T := TX1) (N := 7) hx hb hts (by decide +kernel) tyX1 tyX1_ok nmX1 hown hK hP hD hS 0 rfl rfl 1 (by decide) (hts (.fieldLink RX1 13 "JournalDesk" "taped" "I") (by decide +kernel)) (fun _ h9 => h9) rfl (by decide +kernel) (rfl) (rfl) (Nat.le_of_ble_eq_true rfl) dX1_write_33 (fun H locs hP hD hS => ?_)
      have hP : va_P D vwCl [(h0, .inr (1, [.ref qt, .int (nI 0), .ref qr, .int nx, .int wh, .int (jbi pw), .int (jbi ct)])), (qt, .inl (cb, 100, .inl tp)), (qr, .inr (0, [.ref qd, .ref ql, .ref qn, .int (nI old), .int (nI us), .int (nI pr)])), (qd, .inl (cb, 480, .inl dk)), (ql, .inl (ci, 40, .inl L)), (qn, .inl (ci, 40, .inl N))] H := hP
      have hD : va_D A [(h0, .inr (1, [.ref qt, .int (nI 0), .ref qr, .int nx, .int wh, .int (jbi pw), .int (jbi ct)])), (qt, .inl (cb, 100, .inl tp)), (qr, .inr (0, [.ref qd, .ref ql, .ref qn, .int (nI old), .int (nI us), .int (nI pr)])), (qd, .inl (cb, 480, .inl dk)), (ql, .inl (ci, 40, .inl L)), (qn, .inl (ci, 40, .inl N))] := hD
      refine lv_aload_n hx hb dX1_write_36 rfl (lv_at hl 1 rfl) ?_
      refine j_calli (wr := []) hP hD hS hA [0, 1, 2, 3, 4, 5] [] rfl rfl (by decide) (by decide) (va_runV (As := []) (rest := []) ⟨hx, hb, hml, hown, hts⟩ (c_D_losesPower l D cb ci cz h0 qt tp qr qd ql qn dk L N old us pr 0 nx wh pw ct H.size) (cwV 0 hts gX1_write_X1_losesPower rfl rfl rfl (by decide +kernel) ⟨Nat.le_of_ble_eq_true rfl, Nat.le_of_ble_eq_true rfl⟩) (j_preV (ci := 1) (q0 := 0) [0, 1, 2, 3, 4, 5] [0, 1, 2] hK hP hD rfl rfl rfl rfl rfl rfl) rfl rfl hl.1 rfl (lv_room (Nat.le_of_ble_eq_true rfl)) dX1_write_37 ⟨Nat.le_of_ble_eq_true rfl, Nat.le_of_ble_eq_true rfl⟩) (fun r37 u9 H locs hw hP hD hS => ?_)
      have hP : va_P D vwCl [(h0, .inr (1, [.ref qt, .int (nI 0), .ref qr, .int nx, .int wh, .int (jbi (!ct && pw)), .int (jbi false)])), (qt, .inl (cb, 100, .inl tp)), (qr, .inr (0, [.ref qd, .ref ql, .ref qn, .int (nI old), .int (nI us), .int (nI pr)])), (qd, .inl (cb, 480, .inl dk)), (ql, .inl (ci, 40, .inl L)), (qn, .inl (ci, 40, .inl N))] H := hP
      have hD : va_D A [(h0, .inr (1, [.ref qt, .int (nI 0), .ref qr, .int nx, .int wh, .int (jbi (!ct && pw)), .int (jbi false)])), (qt, .inl (cb, 100, .inl tp)), (qr, .inr (0, [.ref qd, .ref ql, .ref qn, .int (nI old), .int (nI us), .int (nI pr)])), (qd, .inl (cb, 480, .inl dk)), (ql, .inl (ci, 40, .inl L)), (qn, .inl (ci, 40, .inl N))] := hD
      have hw : r37 = (jbi ct) := hw
      subst hw
      refine lv_if_eq (tgt := 46) hx hb dX1_write_40 (by decide) (fun c_40_3 => ?_) (fun c_40_3 => ?_)
      · have hct : ct = false := jbi_0.mp c_40_3
        refine lv_aload_n hx hb dX1_write_46 rfl (lv_at hl 1 rfl) ?_
        refine va_get (D := D) (ci := 1) (v := .int nx) (C := RX1) (T := TX1) (N := 7) hx hb hts (by decide +kernel) hown hK hP 0 rfl rfl 3 (by decide) (hts (.fieldLink RX1 24 "JournalDesk" "nextNumber" "I") (by decide +kernel)) (fun _ h9 => h9) rfl dX1_write_47 ?_
        refine lv_istore_n (lv' := [(2, .int nx), (1, .int (nI n)), (0, .ref h0)]) hx hb dX1_write_50 rfl hl (by decide) rfl (fun ls hl => ?_)
        refine lv_aload_n hx hb dX1_write_51 rfl (lv_at hl 2 rfl) ?_
        refine va_get (D := D) (ci := 1) (v := .ref qr) (C := RX1) (T := TX1) (N := 7) hx hb hts (by decide +kernel) hown hK hP 0 rfl rfl 2 (by decide) (hts (.fieldLink RX1 20 "JournalDesk" "ring" "LJournalDesk$Ring;") (by decide +kernel)) (fun _ h9 => h9) rfl dX1_write_52 ?_
        refine lv_aload_n hx hb dX1_write_55 rfl (lv_at hl 2 rfl) ?_
        refine va_get (D := D) (ci := 1) (v := .ref qt) (C := RX1) (T := TX1) (N := 7) hx hb hts (by decide +kernel) hown hK hP 0 rfl rfl 0 (by decide) (hts (.fieldLink RX1 9 "JournalDesk" "tape" "[B") (by decide +kernel)) (fun _ h9 => h9) rfl dX1_write_56 ?_
        refine lv_iload_n hx hb dX1_write_59 rfl (lv_at hl 1 rfl) ?_
        refine lv_iload_n hx hb dX1_write_60 rfl (lv_at hl 0 rfl) ?_
        refine j_callv (wr := [(h0, .inr (1, [.ref qt, .int (nI 0), .ref qr, .int nx, .int wh, .int (jbi (!ct && pw)), .int (jbi false)]))]) hP hD hS hA [1, 2, 3, 4, 5] [0] rfl rfl (by decide) (by decide) (va_runV (As := [.ref qt, .int (nI n), .int nx]) (rest := []) ⟨hx, hb, hml, hown, hts⟩ (c_R_addRecord l D cb ci cz qt tp qr qd ql qn dk L N old us pr n nx hR.1 hR.2.2.1 hn (jR_pr hR) H.size) (cwV 3 hts gX1_write_X0_addRecord rfl rfl rfl (by decide +kernel) ⟨Nat.le_of_ble_eq_true rfl, Nat.le_of_ble_eq_true rfl⟩) (j_preV (ci := 0) (q0 := 1) [1, 2, 3, 4, 5] [0, 1, 2] hK hP hD rfl rfl rfl rfl rfl rfl) rfl rfl hl.1 rfl (lv_room (Nat.le_of_ble_eq_true rfl)) dX1_write_61 ⟨Nat.le_of_ble_eq_true rfl, Nat.le_of_ble_eq_true rfl⟩) (fun d H locs hw hP hD hS => ?_)
        obtain ⟨hd1, hd2⟩ := hw
        have hP : va_P D vwCl [(h0, .inr (1, [.ref qt, .int (nI 0), .ref qr, .int nx, .int wh, .int (jbi (!ct && pw)), .int (jbi false)])), (qt, .inl (cb, 100, .inl tp)), (qr, .inr (0, [.ref qd, .ref ql, .ref qn, .int (nI old), .int (nI (us + jsc n)), .int (nI (pr + 1))])), (qd, .inl (cb, 480, .inl d)), (ql, .inl (ci, 40, .inl (upd L ((old + us) % 40) (nI n)))), (qn, .inl (ci, 40, .inl (upd N ((old + us) % 40) nx)))] H := hP
        have hD : va_D A [(h0, .inr (1, [.ref qt, .int (nI 0), .ref qr, .int nx, .int wh, .int (jbi (!ct && pw)), .int (jbi false)])), (qt, .inl (cb, 100, .inl tp)), (qr, .inr (0, [.ref qd, .ref ql, .ref qn, .int (nI old), .int (nI (us + jsc n)), .int (nI (pr + 1))])), (qd, .inl (cb, 480, .inl d)), (ql, .inl (ci, 40, .inl (upd L ((old + us) % 40) (nI n)))), (qn, .inl (ci, 40, .inl (upd N ((old + us) % 40) nx)))] := hD
        refine lv_aload_n hx hb dX1_write_64 rfl (lv_at hl 2 rfl) ?_
        refine lv_dup hx hb dX1_write_65 rfl ?_
        refine va_get (D := D) (ci := 1) (v := .int nx) (C := RX1) (T := TX1) (N := 7) hx hb hts (by decide +kernel) hown hK hP 0 rfl rfl 3 (by decide) (hts (.fieldLink RX1 24 "JournalDesk" "nextNumber" "I") (by decide +kernel)) (fun _ h9 => h9) rfl dX1_write_66 ?_
        refine lv_iconst (v := (nI 1)) hx hb dX1_write_69 (by decide +kernel) ?_
        refine lv_iadd hx hb dX1_write_70 ?_
        refine jt_i (y := (nx + 1)) (rfl) ?_
        refine va_put (D := D) (ci := 1) (v := .int (nx + 1)) (ty := .int) (C := RX1) (T := TX1) (N := 7) hx hb hts (by decide +kernel) tyX1 tyX1_ok nmX1 hown hK hP hD hS 0 rfl rfl 3 (by decide) (hts (.fieldLink RX1 24 "JournalDesk" "nextNumber" "I") (by decide +kernel)) (fun _ h9 => h9) rfl (by decide +kernel) (rfl) (rfl) (Nat.le_of_ble_eq_true rfl) dX1_write_71 (fun H locs hP hD hS => ?_)
        have hP : va_P D vwCl [(h0, .inr (1, [.ref qt, .int (nI 0), .ref qr, .int (nx + 1), .int wh, .int (jbi (!ct && pw)), .int (jbi false)])), (qt, .inl (cb, 100, .inl tp)), (qr, .inr (0, [.ref qd, .ref ql, .ref qn, .int (nI old), .int (nI (us + jsc n)), .int (nI (pr + 1))])), (qd, .inl (cb, 480, .inl d)), (ql, .inl (ci, 40, .inl (upd L ((old + us) % 40) (nI n)))), (qn, .inl (ci, 40, .inl (upd N ((old + us) % 40) nx)))] H := hP
        have hD : va_D A [(h0, .inr (1, [.ref qt, .int (nI 0), .ref qr, .int (nx + 1), .int wh, .int (jbi (!ct && pw)), .int (jbi false)])), (qt, .inl (cb, 100, .inl tp)), (qr, .inr (0, [.ref qd, .ref ql, .ref qn, .int (nI old), .int (nI (us + jsc n)), .int (nI (pr + 1))])), (qd, .inl (cb, 480, .inl d)), (ql, .inl (ci, 40, .inl (upd L ((old + us) % 40) (nI n)))), (qn, .inl (ci, 40, .inl (upd N ((old + us) % 40) nx)))] := hD
        refine lv_aload_n hx hb dX1_write_74 rfl (lv_at hl 2 rfl) ?_
        refine lv_dup hx hb dX1_write_75 rfl ?_
        refine va_get (D := D) (ci := 1) (v := .int wh) (C := RX1) (T := TX1) (N := 7) hx hb hts (by decide +kernel) hown hK hP 0 rfl rfl 4 (by decide) (hts (.fieldLink RX1 27 "JournalDesk" "wholeEntries" "I") (by decide +kernel)) (fun _ h9 => h9) rfl dX1_write_76 ?_
        refine lv_iconst (v := (nI 1)) hx hb dX1_write_79 (by decide +kernel) ?_
        refine lv_iadd hx hb dX1_write_80 ?_
        refine jt_i (y := (wh + 1)) (rfl) ?_
        refine va_put (D := D) (ci := 1) (v := .int (wh + 1)) (ty := .int) (C := RX1) (T := TX1) (N := 7) hx hb hts (by decide +kernel) tyX1 tyX1_ok nmX1 hown hK hP hD hS 0 rfl rfl 4 (by decide) (hts (.fieldLink RX1 27 "JournalDesk" "wholeEntries" "I") (by decide +kernel)) (fun _ h9 => h9) rfl (by decide +kernel) (rfl) (rfl) (Nat.le_of_ble_eq_true rfl) dX1_write_81 (fun H locs hP hD hS => ?_)
        have hP : va_P D vwCl [(h0, .inr (1, [.ref qt, .int (nI 0), .ref qr, .int (nx + 1), .int (wh + 1), .int (jbi (!ct && pw)), .int (jbi false)])), (qt, .inl (cb, 100, .inl tp)), (qr, .inr (0, [.ref qd, .ref ql, .ref qn, .int (nI old), .int (nI (us + jsc n)), .int (nI (pr + 1))])), (qd, .inl (cb, 480, .inl d)), (ql, .inl (ci, 40, .inl (upd L ((old + us) % 40) (nI n)))), (qn, .inl (ci, 40, .inl (upd N ((old + us) % 40) nx)))] H := hP
        have hD : va_D A [(h0, .inr (1, [.ref qt, .int (nI 0), .ref qr, .int (nx + 1), .int (wh + 1), .int (jbi (!ct && pw)), .int (jbi false)])), (qt, .inl (cb, 100, .inl tp)), (qr, .inr (0, [.ref qd, .ref ql, .ref qn, .int (nI old), .int (nI (us + jsc n)), .int (nI (pr + 1))])), (qd, .inl (cb, 480, .inl d)), (ql, .inl (ci, 40, .inl (upd L ((old + us) % 40) (nI n)))), (qn, .inl (ci, 40, .inl (upd N ((old + us) % 40) nx)))] := hD
        refine lv_iload_n hx hb dX1_write_84 rfl (lv_at hl 0 rfl) ?_
        exact j_iret (v := nx) ((tp, d, upd L ((old + us) % 40) (nI n), upd N ((old + us) % 40) nx, 0, old, us + jsc n, pr + 1, (nx + 1), (wh + 1), (jbi (!ct && pw)), (jbi false))) hx hb hr hlk hK hP hD hS (by subst hct; subst hpw; rw [jwr_ok (by have q2 := hR.2.1; omega)]; exact ⟨rfl, jDk_i rfl (Nat.zero_le _) (fun j hj => absurd hj (Nat.not_lt_zero j)) (jR_add hR hn hfit rfl hd1 hd2 (fun i hi => (jx_b _).trans (ht i hi))) rfl rfl rfl rfl⟩) dX1_write_85
      · have hct : ct = true := jbi_n0.mp c_40_3
        refine lv_bipush (v := (-2)) hx hb dX1_write_43 (by decide +kernel) ?_
        exact j_iret (v := (-2)) ((tp, dk, L, N, 0, old, us, pr, nx, wh, (jbi (!ct && pw)), (jbi false))) hx hb hr hlk hK hP hD hS (by subst hct; subst hpw; rw [jwr_cut (by have q2 := hR.2.1; omega)]; exact ⟨rfl, jDk_i rfl (Nat.zero_le _) (fun j hj => absurd hj (Nat.not_lt_zero j)) hR rfl rfl rfl rfl⟩) dX1_write_45
    · have href : pw = false ∨ 40 < js (jse r z) k + jsc n := Or.inr (by have q := of_decide_eq_false (jbi_0.mp c_21_2); have q2 := hR.2.1; omega)
      refine lv_iconst (v := (-1)) hx hb dX1_write_24 (by decide +kernel) ?_
      exact j_iret (v := (-1)) ((tp, dk, L, N, n, old, us, pr, nx, wh, (jbi pw), (jbi ct))) hx hb hr hlk hK hP hD hS (by rw [jwr_ref href]; exact ⟨rfl, jDk_i rfl hn ht hR rfl rfl rfl rfl⟩) dX1_write_25
abbrev rm_D_drop : Room := { frames := 7, cells := 0, slots := 0, locals := 150 }
set_option maxHeartbeats 4000000 in
set_option maxRecDepth 100000 in
/-- drop -/
theorem c_D_drop (l : Launch) (D : va_G) (cb ci cz : ClassId) (h0 qt : Nat) (tp : Nat → Int32) (qr qd ql qn : Nat) (dk L N : Nat → Int32) (old us pr : Nat) (n : Nat) (t : Nat → Int32) (k : Nat) (r : Nat → Bool) (z : Nat → Nat) (u : Nat → Int32) (y : Nat → Nat → Int32) (nx wh : Int32) (pw ct : Bool) (mv : Int32) (hn : n ≤ 100) (ht : ∀ j, j < n → tp j &&& 255 = t j) (hR : jR old us pr dk L N k r z u y) (sz : Nat) : Met l yX1_drop wsX1_drop rm_D_drop (va_Pc [.ref h0, .int mv] (j_pre D (jT cb ci cz) [(h0, .inr (1, [.ref qt, .int (nI n), .ref qr, .int nx, .int wh, .int (jbi pw), .int (jbi ct)])), (qt, .inl (cb, 100, .inl tp)), (qr, .inr (0, [.ref qd, .ref ql, .ref qn, .int (nI old), .int (nI us), .int (nI pr)])), (qd, .inl (cb, 480, .inl dk)), (ql, .inl (ci, 40, .inl L)), (qn, .inl (ci, 40, .inl N))] sz)) (va_Qi (fun (x : Int32) (a : jDt) => x = (jop_dr ((n, t), (k, r, z, u, y), (nx, wh, pw, ct)) mv).1 ∧ jDk (jop_dr ((n, t), (k, r, z, u, y), (nx, wh, pw, ct)) mv).2 a) (j_post D (jT cb ci cz) (jDw h0 qt qr qd ql qn cb ci) (va_A [(h0, .inr (1, [.ref qt, .int (nI n), .ref qr, .int nx, .int wh, .int (jbi pw), .int (jbi ct)])), (qt, .inl (cb, 100, .inl tp)), (qr, .inr (0, [.ref qd, .ref ql, .ref qn, .int (nI old), .int (nI us), .int (nI pr)])), (qd, .inl (cb, 480, .inl dk)), (ql, .inl (ci, 40, .inl L)), (qn, .inl (ci, 40, .inl N))] sz)) (va_A [(h0, .inr (1, [.ref qt, .int (nI n), .ref qr, .int nx, .int wh, .int (jbi pw), .int (jbi ct)])), (qt, .inl (cb, 100, .inl tp)), (qr, .inr (0, [.ref qd, .ref ql, .ref qn, .int (nI old), .int (nI us), .int (nI pr)])), (qd, .inl (cb, 480, .inl dk)), (ql, .inl (ci, 40, .inl L)), (qn, .inl (ci, 40, .inl N))] sz)) 0 0 (va_A [(h0, .inr (1, [.ref qt, .int (nI n), .ref qr, .int nx, .int wh, .int (jbi pw), .int (jbi ct)])), (qt, .inl (cb, 100, .inl tp)), (qr, .inr (0, [.ref qd, .ref ql, .ref qn, .int (nI old), .int (nI us), .int (nI pr)])), (qd, .inl (cb, 480, .inl dk)), (ql, .inl (ci, 40, .inl L)), (qn, .inl (ci, 40, .inl N))] sz) := by
  refine j_in (Qc := fun A => (va_Qi (fun (x : Int32) (a : jDt) => x = (jop_dr ((n, t), (k, r, z, u, y), (nx, wh, pw, ct)) mv).1 ∧ jDk (jop_dr ((n, t), (k, r, z, u, y), (nx, wh, pw, ct)) mv).2 a) (j_post D (jT cb ci cz) (jDw h0 qt qr qd ql qn cb ci) A) A)) (cc := cX1_drop) (maxL := 2) (ret := (some .int)) (by decide) rfl (Nat.le_of_ble_eq_true rfl) ?_
  intro p e s m av below meth c A ls H locs hx hb hr hml hts hown hlk hin hA hP hK hD hS hl
  have hown : s.vm.findClass RX1 = some m.cls := hown
  have hl : lv_has ls 2 [(0, .ref h0), (1, .int mv)] := hl
  refine lv_aload_n hx hb dX1_drop_0 rfl (lv_at hl 0 rfl) ?_
  refine va_get (D := D) (ci := 1) (v := .int (jbi pw)) (C := RX1) (T := TX1) (N := 7) hx hb hts (by decide +kernel) hown hK hP 0 rfl rfl 5 (by decide) (hts (.fieldLink RX1 30 "JournalDesk" "power" "Z") (by decide +kernel)) (fun _ h9 => h9) rfl dX1_drop_1 ?_
  refine lv_if_eq (tgt := 33) hx hb dX1_drop_4 (by decide) (fun c_4_1 => ?_) (fun c_4_1 => ?_)
  · have hpw : pw = false := jbi_0.mp c_4_1
    have href : pw = false ∨ mv < 0 ∨ nI (js (jcn r) k) < mv ∨ 40 < js (jse r z) k + 1 := Or.inl hpw
    refine lv_iconst (v := (-1)) hx hb dX1_drop_33 (by decide +kernel) ?_
    exact j_iret (v := (-1)) ((tp, dk, L, N, n, old, us, pr, nx, wh, (jbi pw), (jbi ct))) hx hb hr hlk hK hP hD hS (by rw [jdr_ref href]; exact ⟨rfl, jDk_i rfl hn ht hR rfl rfl rfl rfl⟩) dX1_drop_34
  · have hpw : pw = true := jbi_n0.mp c_4_1
    refine lv_iload_n hx hb dX1_drop_7 rfl (lv_at hl 1 rfl) ?_
    refine lv_if_lt (tgt := 33) hx hb dX1_drop_8 (by decide) (fun c_8_2 => ?_) (fun c_8_2 => ?_)
    · have href : pw = false ∨ mv < 0 ∨ nI (js (jcn r) k) < mv ∨ 40 < js (jse r z) k + 1 := Or.inr (Or.inl c_8_2)
      refine lv_iconst (v := (-1)) hx hb dX1_drop_33 (by decide +kernel) ?_
      exact j_iret (v := (-1)) ((tp, dk, L, N, n, old, us, pr, nx, wh, (jbi pw), (jbi ct))) hx hb hr hlk hK hP hD hS (by rw [jdr_ref href]; exact ⟨rfl, jDk_i rfl hn ht hR rfl rfl rfl rfl⟩) dX1_drop_34
    · have h0m := c_8_2
      refine lv_iload_n hx hb dX1_drop_11 rfl (lv_at hl 1 rfl) ?_
      refine lv_aload_n hx hb dX1_drop_12 rfl (lv_at hl 0 rfl) ?_
      refine va_get (D := D) (ci := 1) (v := .ref qr) (C := RX1) (T := TX1) (N := 7) hx hb hts (by decide +kernel) hown hK hP 0 rfl rfl 2 (by decide) (hts (.fieldLink RX1 20 "JournalDesk" "ring" "LJournalDesk$Ring;") (by decide +kernel)) (fun _ h9 => h9) rfl dX1_drop_13 ?_
      refine j_calli (wr := [(h0, .inr (1, [.ref qt, .int (nI n), .ref qr, .int nx, .int wh, .int (jbi pw), .int (jbi ct)])), (qt, .inl (cb, 100, .inl tp))]) hP hD hS hA [2, 3, 4, 5] [0, 1] rfl rfl (by decide) (by decide) (va_runV (As := []) (rest := [.int mv]) ⟨hx, hb, hml, hown, hts⟩ (c_R_records l D cb ci cz qr qd ql qn dk L N old us pr H.size) (cwV 0 hts gX1_drop_X0_records rfl rfl rfl (by decide +kernel) ⟨Nat.le_of_ble_eq_true rfl, Nat.le_of_ble_eq_true rfl⟩) (j_preV (ci := 0) (q0 := 0) [2, 3, 4, 5] [0, 1, 2] hK hP hD rfl rfl rfl rfl rfl rfl) rfl rfl hl.1 rfl (lv_room (Nat.le_of_ble_eq_true rfl)) dX1_drop_16 ⟨Nat.le_of_ble_eq_true rfl, Nat.le_of_ble_eq_true rfl⟩) (fun r16 u9 H locs hw hP hD hS => ?_)
      have hP : va_P D vwCl [(h0, .inr (1, [.ref qt, .int (nI n), .ref qr, .int nx, .int wh, .int (jbi pw), .int (jbi ct)])), (qt, .inl (cb, 100, .inl tp)), (qr, .inr (0, [.ref qd, .ref ql, .ref qn, .int (nI old), .int (nI us), .int (nI pr)])), (qd, .inl (cb, 480, .inl dk)), (ql, .inl (ci, 40, .inl L)), (qn, .inl (ci, 40, .inl N))] H := hP
      have hD : va_D A [(h0, .inr (1, [.ref qt, .int (nI n), .ref qr, .int nx, .int wh, .int (jbi pw), .int (jbi ct)])), (qt, .inl (cb, 100, .inl tp)), (qr, .inr (0, [.ref qd, .ref ql, .ref qn, .int (nI old), .int (nI us), .int (nI pr)])), (qd, .inl (cb, 480, .inl dk)), (ql, .inl (ci, 40, .inl L)), (qn, .inl (ci, 40, .inl N))] := hD
      have hw : r16 = (nI pr) := hw
      subst hw
      refine lv_icmp_gt (tgt := 33) hx hb dX1_drop_19 (by decide) (fun c_19_3 => ?_) (fun c_19_3 => ?_)
      · have href : pw = false ∨ mv < 0 ∨ nI (js (jcn r) k) < mv ∨ 40 < js (jse r z) k + 1 := Or.inr (Or.inr (Or.inl (by rw [← hR.2.2.2.1]; exact c_19_3)))
        refine lv_iconst (v := (-1)) hx hb dX1_drop_33 (by decide +kernel) ?_
        exact j_iret (v := (-1)) ((tp, dk, L, N, n, old, us, pr, nx, wh, (jbi pw), (jbi ct))) hx hb hr hlk hK hP hD hS (by rw [jdr_ref href]; exact ⟨rfl, jDk_i rfl hn ht hR rfl rfl rfl rfl⟩) dX1_drop_34
      · have h1m := c_19_3
        obtain ⟨mm, hm31, hmv⟩ := nI_of h0m
        have hmm : mm ≤ pr := by
          have q := jR_pr hR
          have q3 := h1m
          rw [hmv, nI_ltI (by omega) hm31] at q3
          omega
        rw [hmv] at hl
        refine lv_aload_n hx hb dX1_drop_22 rfl (lv_at hl 0 rfl) ?_
        refine va_get (D := D) (ci := 1) (v := .ref qr) (C := RX1) (T := TX1) (N := 7) hx hb hts (by decide +kernel) hown hK hP 0 rfl rfl 2 (by decide) (hts (.fieldLink RX1 20 "JournalDesk" "ring" "LJournalDesk$Ring;") (by decide +kernel)) (fun _ h9 => h9) rfl dX1_drop_23 ?_
        refine lv_iconst (v := (nI 1)) hx hb dX1_drop_26 (by decide +kernel) ?_
        refine j_calli (wr := [(h0, .inr (1, [.ref qt, .int (nI n), .ref qr, .int nx, .int wh, .int (jbi pw), .int (jbi ct)])), (qt, .inl (cb, 100, .inl tp))]) hP hD hS hA [2, 3, 4, 5] [0, 1] rfl rfl (by decide) (by decide) (va_runV (As := [.int (nI 1)]) (rest := []) ⟨hx, hb, hml, hown, hts⟩ (c_R_hasRoom l D cb ci cz qr qd ql qn dk L N old us pr 1 (by decide) hR.2.2.1 H.size) (cwV 1 hts gX1_drop_X0_hasRoom rfl rfl rfl (by decide +kernel) ⟨Nat.le_of_ble_eq_true rfl, Nat.le_of_ble_eq_true rfl⟩) (j_preV (ci := 0) (q0 := 0) [2, 3, 4, 5] [0, 1, 2] hK hP hD rfl rfl rfl rfl rfl rfl) rfl rfl hl.1 rfl (lv_room (Nat.le_of_ble_eq_true rfl)) dX1_drop_27 ⟨Nat.le_of_ble_eq_true rfl, Nat.le_of_ble_eq_true rfl⟩) (fun r27 u9 H locs hw hP hD hS => ?_)
        have hP : va_P D vwCl [(h0, .inr (1, [.ref qt, .int (nI n), .ref qr, .int nx, .int wh, .int (jbi pw), .int (jbi ct)])), (qt, .inl (cb, 100, .inl tp)), (qr, .inr (0, [.ref qd, .ref ql, .ref qn, .int (nI old), .int (nI us), .int (nI pr)])), (qd, .inl (cb, 480, .inl dk)), (ql, .inl (ci, 40, .inl L)), (qn, .inl (ci, 40, .inl N))] H := hP
        have hD : va_D A [(h0, .inr (1, [.ref qt, .int (nI n), .ref qr, .int nx, .int wh, .int (jbi pw), .int (jbi ct)])), (qt, .inl (cb, 100, .inl tp)), (qr, .inr (0, [.ref qd, .ref ql, .ref qn, .int (nI old), .int (nI us), .int (nI pr)])), (qd, .inl (cb, 480, .inl dk)), (ql, .inl (ci, 40, .inl L)), (qn, .inl (ci, 40, .inl N))] := hD
        have hw : r27 = (jbi (decide (us + 1 ≤ 40))) := hw
        subst hw
        refine lv_if_ne (tgt := 35) hx hb dX1_drop_30 (by decide) (fun c_30_4 => ?_) (fun c_30_4 => ?_)
        · have hfit : us + 1 ≤ 40 := of_decide_eq_true (jbi_n0.mp c_30_4)
          refine lv_aload_n hx hb dX1_drop_35 rfl (lv_at hl 0 rfl) ?_
          refine j_calli (wr := []) hP hD hS hA [0, 1, 2, 3, 4, 5] [] rfl rfl (by decide) (by decide) (va_runV (As := []) (rest := []) ⟨hx, hb, hml, hown, hts⟩ (c_D_losesPower l D cb ci cz h0 qt tp qr qd ql qn dk L N old us pr n nx wh pw ct H.size) (cwV 0 hts gX1_drop_X1_losesPower rfl rfl rfl (by decide +kernel) ⟨Nat.le_of_ble_eq_true rfl, Nat.le_of_ble_eq_true rfl⟩) (j_preV (ci := 1) (q0 := 0) [0, 1, 2, 3, 4, 5] [0, 1, 2] hK hP hD rfl rfl rfl rfl rfl rfl) rfl rfl hl.1 rfl (lv_room (Nat.le_of_ble_eq_true rfl)) dX1_drop_36 ⟨Nat.le_of_ble_eq_true rfl, Nat.le_of_ble_eq_true rfl⟩) (fun r36 u9 H locs hw hP hD hS => ?_)
          have hP : va_P D vwCl [(h0, .inr (1, [.ref qt, .int (nI n), .ref qr, .int nx, .int wh, .int (jbi (!ct && pw)), .int (jbi false)])), (qt, .inl (cb, 100, .inl tp)), (qr, .inr (0, [.ref qd, .ref ql, .ref qn, .int (nI old), .int (nI us), .int (nI pr)])), (qd, .inl (cb, 480, .inl dk)), (ql, .inl (ci, 40, .inl L)), (qn, .inl (ci, 40, .inl N))] H := hP
          have hD : va_D A [(h0, .inr (1, [.ref qt, .int (nI n), .ref qr, .int nx, .int wh, .int (jbi (!ct && pw)), .int (jbi false)])), (qt, .inl (cb, 100, .inl tp)), (qr, .inr (0, [.ref qd, .ref ql, .ref qn, .int (nI old), .int (nI us), .int (nI pr)])), (qd, .inl (cb, 480, .inl dk)), (ql, .inl (ci, 40, .inl L)), (qn, .inl (ci, 40, .inl N))] := hD
          have hw : r36 = (jbi ct) := hw
          subst hw
          refine lv_if_eq (tgt := 45) hx hb dX1_drop_39 (by decide) (fun c_39_5 => ?_) (fun c_39_5 => ?_)
          · have hct : ct = false := jbi_0.mp c_39_5
            refine lv_aload_n hx hb dX1_drop_45 rfl (lv_at hl 0 rfl) ?_
            refine va_get (D := D) (ci := 1) (v := .ref qr) (C := RX1) (T := TX1) (N := 7) hx hb hts (by decide +kernel) hown hK hP 0 rfl rfl 2 (by decide) (hts (.fieldLink RX1 20 "JournalDesk" "ring" "LJournalDesk$Ring;") (by decide +kernel)) (fun _ h9 => h9) rfl dX1_drop_46 ?_
            refine lv_iload_n hx hb dX1_drop_49 rfl (lv_at hl 1 rfl) ?_
            refine j_callv (wr := [(h0, .inr (1, [.ref qt, .int (nI n), .ref qr, .int nx, .int wh, .int (jbi (!ct && pw)), .int (jbi false)])), (qt, .inl (cb, 100, .inl tp))]) hP hD hS hA [2, 3, 4, 5] [0, 1] rfl rfl (by decide) (by decide) (va_runV (As := [.int (nI mm)]) (rest := []) ⟨hx, hb, hml, hown, hts⟩ (c_R_addDrop l D cb ci cz qr qd ql qn dk L N old us pr k r z u y mm hR hfit hmm H.size) (cwV 1 hts gX1_drop_X0_addDrop rfl rfl rfl (by decide +kernel) ⟨Nat.le_of_ble_eq_true rfl, Nat.le_of_ble_eq_true rfl⟩) (j_preV (ci := 0) (q0 := 0) [2, 3, 4, 5] [0, 1, 2] hK hP hD rfl rfl rfl rfl rfl rfl) rfl rfl hl.1 rfl (lv_room (Nat.le_of_ble_eq_true rfl)) dX1_drop_50 ⟨Nat.le_of_ble_eq_true rfl, Nat.le_of_ble_eq_true rfl⟩) (fun u9 H locs hw hP hD hS => ?_)
            have hcm : js (jcn (va_up r k false)) (jdrF k r mm) = mm := hw
            have hP : va_P D vwCl [(h0, .inr (1, [.ref qt, .int (nI n), .ref qr, .int nx, .int wh, .int (jbi (!ct && pw)), .int (jbi false)])), (qt, .inl (cb, 100, .inl tp)), (qr, .inr (0, [.ref qd, .ref ql, .ref qn, .int (nI ((old + js (jse (va_up r k false) (va_up z k 0)) (jdrF k r mm)) % 40)), .int (nI (us + 1 - js (jse (va_up r k false) (va_up z k 0)) (jdrF k r mm))), .int (nI (pr - mm))])), (qd, .inl (cb, 480, .inl dk)), (ql, .inl (ci, 40, .inl (upd L ((old + us) % 40) (-1)))), (qn, .inl (ci, 40, .inl N))] H := hP
            have hD : va_D A [(h0, .inr (1, [.ref qt, .int (nI n), .ref qr, .int nx, .int wh, .int (jbi (!ct && pw)), .int (jbi false)])), (qt, .inl (cb, 100, .inl tp)), (qr, .inr (0, [.ref qd, .ref ql, .ref qn, .int (nI ((old + js (jse (va_up r k false) (va_up z k 0)) (jdrF k r mm)) % 40)), .int (nI (us + 1 - js (jse (va_up r k false) (va_up z k 0)) (jdrF k r mm))), .int (nI (pr - mm))])), (qd, .inl (cb, 480, .inl dk)), (ql, .inl (ci, 40, .inl (upd L ((old + us) % 40) (-1)))), (qn, .inl (ci, 40, .inl N))] := hD
            refine lv_aload_n hx hb dX1_drop_53 rfl (lv_at hl 0 rfl) ?_
            refine lv_dup hx hb dX1_drop_54 rfl ?_
            refine va_get (D := D) (ci := 1) (v := .int wh) (C := RX1) (T := TX1) (N := 7) hx hb hts (by decide +kernel) hown hK hP 0 rfl rfl 4 (by decide) (hts (.fieldLink RX1 27 "JournalDesk" "wholeEntries" "I") (by decide +kernel)) (fun _ h9 => h9) rfl dX1_drop_55 ?_
            refine lv_iconst (v := (nI 1)) hx hb dX1_drop_58 (by decide +kernel) ?_
            refine lv_iadd hx hb dX1_drop_59 ?_
            refine jt_i (y := (wh + 1)) (rfl) ?_
            refine va_put (D := D) (ci := 1) (v := .int (wh + 1)) (ty := .int) (C := RX1) (T := TX1) (N := 7) hx hb hts (by decide +kernel) tyX1 tyX1_ok nmX1 hown hK hP hD hS 0 rfl rfl 4 (by decide) (hts (.fieldLink RX1 27 "JournalDesk" "wholeEntries" "I") (by decide +kernel)) (fun _ h9 => h9) rfl (by decide +kernel) (rfl) (rfl) (Nat.le_of_ble_eq_true rfl) dX1_drop_60 (fun H locs hP hD hS => ?_)
            have hP : va_P D vwCl [(h0, .inr (1, [.ref qt, .int (nI n), .ref qr, .int nx, .int (wh + 1), .int (jbi (!ct && pw)), .int (jbi false)])), (qt, .inl (cb, 100, .inl tp)), (qr, .inr (0, [.ref qd, .ref ql, .ref qn, .int (nI ((old + js (jse (va_up r k false) (va_up z k 0)) (jdrF k r mm)) % 40)), .int (nI (us + 1 - js (jse (va_up r k false) (va_up z k 0)) (jdrF k r mm))), .int (nI (pr - mm))])), (qd, .inl (cb, 480, .inl dk)), (ql, .inl (ci, 40, .inl (upd L ((old + us) % 40) (-1)))), (qn, .inl (ci, 40, .inl N))] H := hP
            have hD : va_D A [(h0, .inr (1, [.ref qt, .int (nI n), .ref qr, .int nx, .int (wh + 1), .int (jbi (!ct && pw)), .int (jbi false)])), (qt, .inl (cb, 100, .inl tp)), (qr, .inr (0, [.ref qd, .ref ql, .ref qn, .int (nI ((old + js (jse (va_up r k false) (va_up z k 0)) (jdrF k r mm)) % 40)), .int (nI (us + 1 - js (jse (va_up r k false) (va_up z k 0)) (jdrF k r mm))), .int (nI (pr - mm))])), (qd, .inl (cb, 480, .inl dk)), (ql, .inl (ci, 40, .inl (upd L ((old + us) % 40) (-1)))), (qn, .inl (ci, 40, .inl N))] := hD
            refine lv_aload_n hx hb dX1_drop_63 rfl (lv_at hl 0 rfl) ?_
            refine va_get (D := D) (ci := 1) (v := .ref qr) (C := RX1) (T := TX1) (N := 7) hx hb hts (by decide +kernel) hown hK hP 0 rfl rfl 2 (by decide) (hts (.fieldLink RX1 20 "JournalDesk" "ring" "LJournalDesk$Ring;") (by decide +kernel)) (fun _ h9 => h9) rfl dX1_drop_64 ?_
            refine j_calli (wr := [(h0, .inr (1, [.ref qt, .int (nI n), .ref qr, .int nx, .int (wh + 1), .int (jbi (!ct && pw)), .int (jbi false)])), (qt, .inl (cb, 100, .inl tp))]) hP hD hS hA [2, 3, 4, 5] [0, 1] rfl rfl (by decide) (by decide) (va_runV (As := []) (rest := []) ⟨hx, hb, hml, hown, hts⟩ (c_R_records l D cb ci cz qr qd ql qn dk (upd L ((old + us) % 40) (-1)) N ((old + js (jse (va_up r k false) (va_up z k 0)) (jdrF k r mm)) % 40) (us + 1 - js (jse (va_up r k false) (va_up z k 0)) (jdrF k r mm)) (pr - mm) H.size) (cwV 0 hts gX1_drop_X0_records rfl rfl rfl (by decide +kernel) ⟨Nat.le_of_ble_eq_true rfl, Nat.le_of_ble_eq_true rfl⟩) (j_preV (ci := 0) (q0 := 0) [2, 3, 4, 5] [0, 1, 2] hK hP hD rfl rfl rfl rfl rfl rfl) rfl rfl hl.1 rfl (lv_room (Nat.le_of_ble_eq_true rfl)) dX1_drop_67 ⟨Nat.le_of_ble_eq_true rfl, Nat.le_of_ble_eq_true rfl⟩) (fun r67 u9 H locs hw hP hD hS => ?_)
            have hP : va_P D vwCl [(h0, .inr (1, [.ref qt, .int (nI n), .ref qr, .int nx, .int (wh + 1), .int (jbi (!ct && pw)), .int (jbi false)])), (qt, .inl (cb, 100, .inl tp)), (qr, .inr (0, [.ref qd, .ref ql, .ref qn, .int (nI ((old + js (jse (va_up r k false) (va_up z k 0)) (jdrF k r mm)) % 40)), .int (nI (us + 1 - js (jse (va_up r k false) (va_up z k 0)) (jdrF k r mm))), .int (nI (pr - mm))])), (qd, .inl (cb, 480, .inl dk)), (ql, .inl (ci, 40, .inl (upd L ((old + us) % 40) (-1)))), (qn, .inl (ci, 40, .inl N))] H := hP
            have hD : va_D A [(h0, .inr (1, [.ref qt, .int (nI n), .ref qr, .int nx, .int (wh + 1), .int (jbi (!ct && pw)), .int (jbi false)])), (qt, .inl (cb, 100, .inl tp)), (qr, .inr (0, [.ref qd, .ref ql, .ref qn, .int (nI ((old + js (jse (va_up r k false) (va_up z k 0)) (jdrF k r mm)) % 40)), .int (nI (us + 1 - js (jse (va_up r k false) (va_up z k 0)) (jdrF k r mm))), .int (nI (pr - mm))])), (qd, .inl (cb, 480, .inl dk)), (ql, .inl (ci, 40, .inl (upd L ((old + us) % 40) (-1)))), (qn, .inl (ci, 40, .inl N))] := hD
            have hw : r67 = (nI (pr - mm)) := hw
            subst hw
            have hR2 := jR_cut (jR_drp hR hfit (s := ((old + us) % 40)) rfl) (f := jdrF k r mm) (Nat.le_succ_of_le (jdrF_le k r mm))
            rw [hcm] at hR2
            exact j_iret (v := (nI (pr - mm))) ((tp, dk, upd L ((old + us) % 40) (-1), N, n, (old + js (jse (va_up r k false) (va_up z k 0)) (jdrF k r mm)) % 40, us + 1 - js (jse (va_up r k false) (va_up z k 0)) (jdrF k r mm), pr - mm, nx, (wh + 1), (jbi (!ct && pw)), (jbi false))) hx hb hr hlk hK hP hD hS (by subst hct; subst hpw; rw [jdr_ok hmv hm31 h0m (by rw [← hR.2.2.2.1]; exact h1m) (by have q2 := hR.2.1; omega)]; exact ⟨congrArg (fun q => nI (q - mm)) hR.2.2.2.1, jDk_i rfl hn ht hR2 rfl rfl rfl rfl⟩) dX1_drop_70
          · have hct : ct = true := jbi_n0.mp c_39_5
            refine lv_bipush (v := (-2)) hx hb dX1_drop_42 (by decide +kernel) ?_
            exact j_iret (v := (-2)) ((tp, dk, L, N, n, old, us, pr, nx, wh, (jbi (!ct && pw)), (jbi false))) hx hb hr hlk hK hP hD hS (by subst hct; subst hpw; rw [jdr_cut h0m (by rw [← hR.2.2.2.1]; exact h1m) (by have q2 := hR.2.1; omega)]; exact ⟨rfl, jDk_i rfl hn ht hR rfl rfl rfl rfl⟩) dX1_drop_44
        · have href : pw = false ∨ mv < 0 ∨ nI (js (jcn r) k) < mv ∨ 40 < js (jse r z) k + 1 := Or.inr (Or.inr (Or.inr (by have q := of_decide_eq_false (jbi_0.mp c_30_4); have q2 := hR.2.1; omega)))
          refine lv_iconst (v := (-1)) hx hb dX1_drop_33 (by decide +kernel) ?_
          exact j_iret (v := (-1)) ((tp, dk, L, N, n, old, us, pr, nx, wh, (jbi pw), (jbi ct))) hx hb hr hlk hK hP hD hS (by rw [jdr_ref href]; exact ⟨rfl, jDk_i rfl hn ht hR rfl rfl rfl rfl⟩) dX1_drop_34
abbrev rm_D_cut : Room := { frames := 0, cells := 0, slots := 0, locals := 0 }
set_option maxHeartbeats 4000000 in
set_option maxRecDepth 100000 in
/-- cut -/
theorem c_D_cut (l : Launch) (D : va_G) (cb ci cz : ClassId) (h0 qt : Nat) (tp : Nat → Int32) (qr qd ql qn : Nat) (dk L N : Nat → Int32) (old us pr : Nat) (n : Nat) (t : Nat → Int32) (k : Nat) (r : Nat → Bool) (z : Nat → Nat) (u : Nat → Int32) (y : Nat → Nat → Int32) (nx wh : Int32) (pw ct : Bool) (sv : Int32) (hn : n ≤ 100) (ht : ∀ j, j < n → tp j &&& 255 = t j) (hR : jR old us pr dk L N k r z u y) (sz : Nat) : Met l yX1_cut wsX1_cut rm_D_cut (va_Pc [.ref h0, .int sv] (j_pre D (jT cb ci cz) [(h0, .inr (1, [.ref qt, .int (nI n), .ref qr, .int nx, .int wh, .int (jbi pw), .int (jbi ct)])), (qt, .inl (cb, 100, .inl tp)), (qr, .inr (0, [.ref qd, .ref ql, .ref qn, .int (nI old), .int (nI us), .int (nI pr)])), (qd, .inl (cb, 480, .inl dk)), (ql, .inl (ci, 40, .inl L)), (qn, .inl (ci, 40, .inl N))] sz)) (va_Qi (fun (x : Int32) (a : jDt) => x = (jop_cu ((n, t), (k, r, z, u, y), (nx, wh, pw, ct)) sv).1 ∧ jDk (jop_cu ((n, t), (k, r, z, u, y), (nx, wh, pw, ct)) sv).2 a) (j_post D (jT cb ci cz) (jDw h0 qt qr qd ql qn cb ci) (va_A [(h0, .inr (1, [.ref qt, .int (nI n), .ref qr, .int nx, .int wh, .int (jbi pw), .int (jbi ct)])), (qt, .inl (cb, 100, .inl tp)), (qr, .inr (0, [.ref qd, .ref ql, .ref qn, .int (nI old), .int (nI us), .int (nI pr)])), (qd, .inl (cb, 480, .inl dk)), (ql, .inl (ci, 40, .inl L)), (qn, .inl (ci, 40, .inl N))] sz)) (va_A [(h0, .inr (1, [.ref qt, .int (nI n), .ref qr, .int nx, .int wh, .int (jbi pw), .int (jbi ct)])), (qt, .inl (cb, 100, .inl tp)), (qr, .inr (0, [.ref qd, .ref ql, .ref qn, .int (nI old), .int (nI us), .int (nI pr)])), (qd, .inl (cb, 480, .inl dk)), (ql, .inl (ci, 40, .inl L)), (qn, .inl (ci, 40, .inl N))] sz)) 0 0 (va_A [(h0, .inr (1, [.ref qt, .int (nI n), .ref qr, .int nx, .int wh, .int (jbi pw), .int (jbi ct)])), (qt, .inl (cb, 100, .inl tp)), (qr, .inr (0, [.ref qd, .ref ql, .ref qn, .int (nI old), .int (nI us), .int (nI pr)])), (qd, .inl (cb, 480, .inl dk)), (ql, .inl (ci, 40, .inl L)), (qn, .inl (ci, 40, .inl N))] sz) := by
  refine j_in (Qc := fun A => (va_Qi (fun (x : Int32) (a : jDt) => x = (jop_cu ((n, t), (k, r, z, u, y), (nx, wh, pw, ct)) sv).1 ∧ jDk (jop_cu ((n, t), (k, r, z, u, y), (nx, wh, pw, ct)) sv).2 a) (j_post D (jT cb ci cz) (jDw h0 qt qr qd ql qn cb ci) A) A)) (cc := cX1_cut) (maxL := 2) (ret := (some .boolean)) (by decide) rfl (Nat.le_of_ble_eq_true rfl) ?_
  intro p e s m av below meth c A ls H locs hx hb hr hml hts hown hlk hin hA hP hK hD hS hl
  have hown : s.vm.findClass RX1 = some m.cls := hown
  have hl : lv_has ls 2 [(0, .ref h0), (1, .int sv)] := hl
  refine lv_iload_n hx hb dX1_cut_0 rfl (lv_at hl 1 rfl) ?_
  refine lv_iconst (v := (-1)) hx hb dX1_cut_1 (by decide +kernel) ?_
  refine lv_icmp_lt (tgt := 11) hx hb dX1_cut_2 (by decide) (fun c_2_1 => ?_) (fun c_2_1 => ?_)
  · have href : sv < -1 ∨ 8 < sv := Or.inl c_2_1
    refine lv_iconst (v := (nI 0)) hx hb dX1_cut_11 (by decide +kernel) ?_
    exact j_zret (v := (nI 0)) ((tp, dk, L, N, n, old, us, pr, nx, wh, (jbi pw), (jbi ct))) hx hb hr hlk hK hP hD hS (by decide +kernel) (by rw [show jop_cu ((n, t), (k, r, z, u, y), (nx, wh, pw, ct)) sv = (0, ((n, t), (k, r, z, u, y), (nx, wh, pw, ct))) from if_pos href]; exact ⟨rfl, jDk_i rfl hn ht hR rfl rfl rfl rfl⟩) dX1_cut_12
  · have hs1 := c_2_1
    refine lv_iload_n hx hb dX1_cut_5 rfl (lv_at hl 1 rfl) ?_
    refine lv_bipush (v := (nI 8)) hx hb dX1_cut_6 (by decide +kernel) ?_
    refine lv_icmp_le (tgt := 13) hx hb dX1_cut_8 (by decide) (fun c_8_2 => ?_) (fun c_8_2 => ?_)
    · have hs2 := c_8_2
      refine lv_aload_n hx hb dX1_cut_13 rfl (lv_at hl 0 rfl) ?_
      refine lv_iload_n hx hb dX1_cut_14 rfl (lv_at hl 1 rfl) ?_
      refine lv_iconst (v := (-1)) hx hb dX1_cut_15 (by decide +kernel) ?_
      refine lv_icmp_eq (tgt := 23) hx hb dX1_cut_16 (by decide) (fun c_16_3 => ?_) (fun c_16_3 => ?_)
      · have hs3 := c_16_3
        refine lv_iconst (v := (nI 0)) hx hb dX1_cut_23 (by decide +kernel) ?_
        refine va_put (D := D) (ci := 1) (v := .int (nI 0)) (ty := .boolean) (C := RX1) (T := TX1) (N := 7) hx hb hts (by decide +kernel) tyX1 tyX1_ok nmX1 hown hK hP hD hS 0 rfl rfl 6 (by decide) (hts (.fieldLink RX1 34 "JournalDesk" "cutNext" "Z") (by decide +kernel)) (fun _ h9 => h9) rfl (by decide +kernel) (rfl) (rfl) (Nat.le_of_ble_eq_true rfl) dX1_cut_24 (fun H locs hP hD hS => ?_)
        have hP : va_P D vwCl [(h0, .inr (1, [.ref qt, .int (nI n), .ref qr, .int nx, .int wh, .int (jbi pw), .int (nI 0)])), (qt, .inl (cb, 100, .inl tp)), (qr, .inr (0, [.ref qd, .ref ql, .ref qn, .int (nI old), .int (nI us), .int (nI pr)])), (qd, .inl (cb, 480, .inl dk)), (ql, .inl (ci, 40, .inl L)), (qn, .inl (ci, 40, .inl N))] H := hP
        have hD : va_D A [(h0, .inr (1, [.ref qt, .int (nI n), .ref qr, .int nx, .int wh, .int (jbi pw), .int (nI 0)])), (qt, .inl (cb, 100, .inl tp)), (qr, .inr (0, [.ref qd, .ref ql, .ref qn, .int (nI old), .int (nI us), .int (nI pr)])), (qd, .inl (cb, 480, .inl dk)), (ql, .inl (ci, 40, .inl L)), (qn, .inl (ci, 40, .inl N))] := hD
        refine lv_iconst (v := (nI 1)) hx hb dX1_cut_27 (by decide +kernel) ?_
        have he : jop_cu ((n, t), (k, r, z, u, y), (nx, wh, pw, ct)) sv = (1, ((n, t), (k, r, z, u, y), (nx, wh, pw, decide (sv ≠ -1)))) := if_neg (fun q => by rcases q with q | q; exact hs1 q; exact absurd hs2 (Int32.not_le.mpr q))
        exact j_zret (v := (nI 1)) ((tp, dk, L, N, n, old, us, pr, nx, wh, (jbi pw), (nI 0))) hx hb hr hlk hK hP hD hS (by decide +kernel) (by rw [he]; exact ⟨rfl, jDk_i rfl hn ht hR rfl rfl rfl (by rw [hs3]; decide +kernel)⟩) dX1_cut_28
      · have hs3 := c_16_3
        refine lv_iconst (v := (nI 1)) hx hb dX1_cut_19 (by decide +kernel) ?_
        refine lv_goto (tgt := 24) hx hb dX1_cut_20 (by decide) ?_
        refine va_put (D := D) (ci := 1) (v := .int (nI 1)) (ty := .boolean) (C := RX1) (T := TX1) (N := 7) hx hb hts (by decide +kernel) tyX1 tyX1_ok nmX1 hown hK hP hD hS 0 rfl rfl 6 (by decide) (hts (.fieldLink RX1 34 "JournalDesk" "cutNext" "Z") (by decide +kernel)) (fun _ h9 => h9) rfl (by decide +kernel) (rfl) (rfl) (Nat.le_of_ble_eq_true rfl) dX1_cut_24 (fun H locs hP hD hS => ?_)
        have hP : va_P D vwCl [(h0, .inr (1, [.ref qt, .int (nI n), .ref qr, .int nx, .int wh, .int (jbi pw), .int (nI 1)])), (qt, .inl (cb, 100, .inl tp)), (qr, .inr (0, [.ref qd, .ref ql, .ref qn, .int (nI old), .int (nI us), .int (nI pr)])), (qd, .inl (cb, 480, .inl dk)), (ql, .inl (ci, 40, .inl L)), (qn, .inl (ci, 40, .inl N))] H := hP
        have hD : va_D A [(h0, .inr (1, [.ref qt, .int (nI n), .ref qr, .int nx, .int wh, .int (jbi pw), .int (nI 1)])), (qt, .inl (cb, 100, .inl tp)), (qr, .inr (0, [.ref qd, .ref ql, .ref qn, .int (nI old), .int (nI us), .int (nI pr)])), (qd, .inl (cb, 480, .inl dk)), (ql, .inl (ci, 40, .inl L)), (qn, .inl (ci, 40, .inl N))] := hD
        refine lv_iconst (v := (nI 1)) hx hb dX1_cut_27 (by decide +kernel) ?_
        have he : jop_cu ((n, t), (k, r, z, u, y), (nx, wh, pw, ct)) sv = (1, ((n, t), (k, r, z, u, y), (nx, wh, pw, decide (sv ≠ -1)))) := if_neg (fun q => by rcases q with q | q; exact hs1 q; exact absurd hs2 (Int32.not_le.mpr q))
        exact j_zret (v := (nI 1)) ((tp, dk, L, N, n, old, us, pr, nx, wh, (jbi pw), (nI 1))) hx hb hr hlk hK hP hD hS (by decide +kernel) (by rw [he]; exact ⟨rfl, jDk_i rfl hn ht hR rfl rfl rfl (by rw [decide_eq_true (show sv ≠ -1 from hs3)]; rfl)⟩) dX1_cut_28
    · have href : sv < -1 ∨ 8 < sv := Or.inr (Int32.not_le.mp c_8_2)
      refine lv_iconst (v := (nI 0)) hx hb dX1_cut_11 (by decide +kernel) ?_
      exact j_zret (v := (nI 0)) ((tp, dk, L, N, n, old, us, pr, nx, wh, (jbi pw), (jbi ct))) hx hb hr hlk hK hP hD hS (by decide +kernel) (by rw [show jop_cu ((n, t), (k, r, z, u, y), (nx, wh, pw, ct)) sv = (0, ((n, t), (k, r, z, u, y), (nx, wh, pw, ct))) from if_pos href]; exact ⟨rfl, jDk_i rfl hn ht hR rfl rfl rfl rfl⟩) dX1_cut_12
abbrev rm_D_start : Room := { frames := 1, cells := 0, slots := 0, locals := 20 }
set_option maxHeartbeats 4000000 in
set_option maxRecDepth 100000 in
/-- start -/
theorem c_D_start (l : Launch) (D : va_G) (cb ci cz : ClassId) (h0 qt : Nat) (tp : Nat → Int32) (qr qd ql qn : Nat) (dk L N : Nat → Int32) (old us pr : Nat) (n : Nat) (t : Nat → Int32) (k : Nat) (r : Nat → Bool) (z : Nat → Nat) (u : Nat → Int32) (y : Nat → Nat → Int32) (nx wh : Int32) (pw ct : Bool) (hn : n ≤ 100) (ht : ∀ j, j < n → tp j &&& 255 = t j) (hR : jR old us pr dk L N k r z u y) (sz : Nat) : Met l yX1_start wsX1_start rm_D_start (va_Pc [.ref h0] (j_pre D (jT cb ci cz) [(h0, .inr (1, [.ref qt, .int (nI n), .ref qr, .int nx, .int wh, .int (jbi pw), .int (jbi ct)])), (qt, .inl (cb, 100, .inl tp)), (qr, .inr (0, [.ref qd, .ref ql, .ref qn, .int (nI old), .int (nI us), .int (nI pr)])), (qd, .inl (cb, 480, .inl dk)), (ql, .inl (ci, 40, .inl L)), (qn, .inl (ci, 40, .inl N))] sz)) (va_Qi (fun (x : Int32) (a : jDt) => x = (jop_st ((n, t), (k, r, z, u, y), (nx, wh, pw, ct))).1 ∧ jDk (jop_st ((n, t), (k, r, z, u, y), (nx, wh, pw, ct))).2 a) (j_post D (jT cb ci cz) (jDw h0 qt qr qd ql qn cb ci) (va_A [(h0, .inr (1, [.ref qt, .int (nI n), .ref qr, .int nx, .int wh, .int (jbi pw), .int (jbi ct)])), (qt, .inl (cb, 100, .inl tp)), (qr, .inr (0, [.ref qd, .ref ql, .ref qn, .int (nI old), .int (nI us), .int (nI pr)])), (qd, .inl (cb, 480, .inl dk)), (ql, .inl (ci, 40, .inl L)), (qn, .inl (ci, 40, .inl N))] sz)) (va_A [(h0, .inr (1, [.ref qt, .int (nI n), .ref qr, .int nx, .int wh, .int (jbi pw), .int (jbi ct)])), (qt, .inl (cb, 100, .inl tp)), (qr, .inr (0, [.ref qd, .ref ql, .ref qn, .int (nI old), .int (nI us), .int (nI pr)])), (qd, .inl (cb, 480, .inl dk)), (ql, .inl (ci, 40, .inl L)), (qn, .inl (ci, 40, .inl N))] sz)) 0 0 (va_A [(h0, .inr (1, [.ref qt, .int (nI n), .ref qr, .int nx, .int wh, .int (jbi pw), .int (jbi ct)])), (qt, .inl (cb, 100, .inl tp)), (qr, .inr (0, [.ref qd, .ref ql, .ref qn, .int (nI old), .int (nI us), .int (nI pr)])), (qd, .inl (cb, 480, .inl dk)), (ql, .inl (ci, 40, .inl L)), (qn, .inl (ci, 40, .inl N))] sz) := by
  refine j_in (Qc := fun A => (va_Qi (fun (x : Int32) (a : jDt) => x = (jop_st ((n, t), (k, r, z, u, y), (nx, wh, pw, ct))).1 ∧ jDk (jop_st ((n, t), (k, r, z, u, y), (nx, wh, pw, ct))).2 a) (j_post D (jT cb ci cz) (jDw h0 qt qr qd ql qn cb ci) A) A)) (cc := cX1_start) (maxL := 1) (ret := (some .int)) (by decide) rfl (Nat.le_of_ble_eq_true rfl) ?_
  intro p e s m av below meth c A ls H locs hx hb hr hml hts hown hlk hin hA hP hK hD hS hl
  have hown : s.vm.findClass RX1 = some m.cls := hown
  have hl : lv_has ls 1 [(0, .ref h0)] := hl
  refine lv_aload_n hx hb dX1_start_0 rfl (lv_at hl 0 rfl) ?_
  refine va_get (D := D) (ci := 1) (v := .int (jbi pw)) (C := RX1) (T := TX1) (N := 7) hx hb hts (by decide +kernel) hown hK hP 0 rfl rfl 5 (by decide) (hts (.fieldLink RX1 30 "JournalDesk" "power" "Z") (by decide +kernel)) (fun _ h9 => h9) rfl dX1_start_1 ?_
  refine lv_if_eq (tgt := 9) hx hb dX1_start_4 (by decide) (fun c_4_1 => ?_) (fun c_4_1 => ?_)
  · have hpw : pw = false := jbi_0.mp c_4_1
    refine lv_aload_n hx hb dX1_start_9 rfl (lv_at hl 0 rfl) ?_
    refine lv_iconst (v := (nI 1)) hx hb dX1_start_10 (by decide +kernel) ?_
    refine va_put (D := D) (ci := 1) (v := .int (nI 1)) (ty := .boolean) (C := RX1) (T := TX1) (N := 7) hx hb hts (by decide +kernel) tyX1 tyX1_ok nmX1 hown hK hP hD hS 0 rfl rfl 5 (by decide) (hts (.fieldLink RX1 30 "JournalDesk" "power" "Z") (by decide +kernel)) (fun _ h9 => h9) rfl (by decide +kernel) (rfl) (rfl) (Nat.le_of_ble_eq_true rfl) dX1_start_11 (fun H locs hP hD hS => ?_)
    have hP : va_P D vwCl [(h0, .inr (1, [.ref qt, .int (nI n), .ref qr, .int nx, .int wh, .int (nI 1), .int (jbi ct)])), (qt, .inl (cb, 100, .inl tp)), (qr, .inr (0, [.ref qd, .ref ql, .ref qn, .int (nI old), .int (nI us), .int (nI pr)])), (qd, .inl (cb, 480, .inl dk)), (ql, .inl (ci, 40, .inl L)), (qn, .inl (ci, 40, .inl N))] H := hP
    have hD : va_D A [(h0, .inr (1, [.ref qt, .int (nI n), .ref qr, .int nx, .int wh, .int (nI 1), .int (jbi ct)])), (qt, .inl (cb, 100, .inl tp)), (qr, .inr (0, [.ref qd, .ref ql, .ref qn, .int (nI old), .int (nI us), .int (nI pr)])), (qd, .inl (cb, 480, .inl dk)), (ql, .inl (ci, 40, .inl L)), (qn, .inl (ci, 40, .inl N))] := hD
    refine lv_aload_n hx hb dX1_start_14 rfl (lv_at hl 0 rfl) ?_
    refine va_get (D := D) (ci := 1) (v := .ref qr) (C := RX1) (T := TX1) (N := 7) hx hb hts (by decide +kernel) hown hK hP 0 rfl rfl 2 (by decide) (hts (.fieldLink RX1 20 "JournalDesk" "ring" "LJournalDesk$Ring;") (by decide +kernel)) (fun _ h9 => h9) rfl dX1_start_15 ?_
    refine j_calli (wr := [(h0, .inr (1, [.ref qt, .int (nI n), .ref qr, .int nx, .int wh, .int (nI 1), .int (jbi ct)])), (qt, .inl (cb, 100, .inl tp))]) hP hD hS hA [2, 3, 4, 5] [0, 1] rfl rfl (by decide) (by decide) (va_runV (As := []) (rest := []) ⟨hx, hb, hml, hown, hts⟩ (c_R_records l D cb ci cz qr qd ql qn dk L N old us pr H.size) (cwV 0 hts gX1_start_X0_records rfl rfl rfl (by decide +kernel) ⟨Nat.le_of_ble_eq_true rfl, Nat.le_of_ble_eq_true rfl⟩) (j_preV (ci := 0) (q0 := 0) [2, 3, 4, 5] [0, 1, 2] hK hP hD rfl rfl rfl rfl rfl rfl) rfl rfl hl.1 rfl (lv_room (Nat.le_of_ble_eq_true rfl)) dX1_start_18 ⟨Nat.le_of_ble_eq_true rfl, Nat.le_of_ble_eq_true rfl⟩) (fun r18 u9 H locs hw hP hD hS => ?_)
    have hP : va_P D vwCl [(h0, .inr (1, [.ref qt, .int (nI n), .ref qr, .int nx, .int wh, .int (nI 1), .int (jbi ct)])), (qt, .inl (cb, 100, .inl tp)), (qr, .inr (0, [.ref qd, .ref ql, .ref qn, .int (nI old), .int (nI us), .int (nI pr)])), (qd, .inl (cb, 480, .inl dk)), (ql, .inl (ci, 40, .inl L)), (qn, .inl (ci, 40, .inl N))] H := hP
    have hD : va_D A [(h0, .inr (1, [.ref qt, .int (nI n), .ref qr, .int nx, .int wh, .int (nI 1), .int (jbi ct)])), (qt, .inl (cb, 100, .inl tp)), (qr, .inr (0, [.ref qd, .ref ql, .ref qn, .int (nI old), .int (nI us), .int (nI pr)])), (qd, .inl (cb, 480, .inl dk)), (ql, .inl (ci, 40, .inl L)), (qn, .inl (ci, 40, .inl N))] := hD
    have hw : r18 = (nI pr) := hw
    subst hw
    exact j_iret (v := (nI pr)) ((tp, dk, L, N, n, old, us, pr, nx, wh, (nI 1), (jbi ct))) hx hb hr hlk hK hP hD hS (by rw [show jop_st ((n, t), (k, r, z, u, y), (nx, wh, pw, ct)) = (nI (js (jcn r) k), ((n, t), (k, r, z, u, y), (nx, wh, true, ct))) from if_neg (by rw [hpw]; decide)]; exact ⟨congrArg nI hR.2.2.2.1, jDk_i rfl hn ht hR rfl rfl rfl rfl⟩) dX1_start_21
  · have hpw : pw = true := jbi_n0.mp c_4_1
    refine lv_iconst (v := (-1)) hx hb dX1_start_7 (by decide +kernel) ?_
    exact j_iret (v := (-1)) ((tp, dk, L, N, n, old, us, pr, nx, wh, (jbi pw), (jbi ct))) hx hb hr hlk hK hP hD hS (by rw [show jop_st ((n, t), (k, r, z, u, y), (nx, wh, pw, ct)) = (-1, ((n, t), (k, r, z, u, y), (nx, wh, pw, ct))) from if_pos hpw]; exact ⟨rfl, jDk_i rfl hn ht hR rfl rfl rfl rfl⟩) dX1_start_8
abbrev rm_D_findRecord : Room := { frames := 6, cells := 0, slots := 0, locals := 129 }
set_option maxHeartbeats 4000000 in
set_option maxRecDepth 100000 in
/-- the first sector of the i-th record that is there -/
theorem c_D_findRecord (l : Launch) (D : va_G) (cb ci cz : ClassId) (h0 qt : Nat) (tp : Nat → Int32) (qr qd ql qn : Nat) (dk L N : Nat → Int32) (old us pr : Nat) (n : Nat) (t : Nat → Int32) (k : Nat) (r : Nat → Bool) (z : Nat → Nat) (u : Nat → Int32) (y : Nat → Nat → Int32) (nx wh : Int32) (pw ct : Bool) (i : Int32) (hn : n ≤ 100) (ht : ∀ j, j < n → tp j &&& 255 = t j) (hR : jR old us pr dk L N k r z u y) (sz : Nat) : Met l yX1_findRecord wsX1_findRecord rm_D_findRecord (va_Pc [.ref h0, .int i] (j_pre D (jT cb ci cz) [(h0, .inr (1, [.ref qt, .int (nI n), .ref qr, .int nx, .int wh, .int (jbi pw), .int (jbi ct)])), (qt, .inl (cb, 100, .inl tp)), (qr, .inr (0, [.ref qd, .ref ql, .ref qn, .int (nI old), .int (nI us), .int (nI pr)])), (qd, .inl (cb, 480, .inl dk)), (ql, .inl (ci, 40, .inl L)), (qn, .inl (ci, 40, .inl N))] sz)) (va_Qi (fun (x : Int32) (_ : Unit) => (∃ j, jfd k r pw i j ∧ x = nI ((old + js (jse r z) j) % 40)) ∨ ((∀ j, ¬ jfd k r pw i j) ∧ x = -1)) (j_post D (jT cb ci cz) (fun _ => [(h0, .inr (1, [.ref qt, .int (nI n), .ref qr, .int nx, .int wh, .int (jbi pw), .int (jbi ct)])), (qt, .inl (cb, 100, .inl tp)), (qr, .inr (0, [.ref qd, .ref ql, .ref qn, .int (nI old), .int (nI us), .int (nI pr)])), (qd, .inl (cb, 480, .inl dk)), (ql, .inl (ci, 40, .inl L)), (qn, .inl (ci, 40, .inl N))]) (va_A [(h0, .inr (1, [.ref qt, .int (nI n), .ref qr, .int nx, .int wh, .int (jbi pw), .int (jbi ct)])), (qt, .inl (cb, 100, .inl tp)), (qr, .inr (0, [.ref qd, .ref ql, .ref qn, .int (nI old), .int (nI us), .int (nI pr)])), (qd, .inl (cb, 480, .inl dk)), (ql, .inl (ci, 40, .inl L)), (qn, .inl (ci, 40, .inl N))] sz)) (va_A [(h0, .inr (1, [.ref qt, .int (nI n), .ref qr, .int nx, .int wh, .int (jbi pw), .int (jbi ct)])), (qt, .inl (cb, 100, .inl tp)), (qr, .inr (0, [.ref qd, .ref ql, .ref qn, .int (nI old), .int (nI us), .int (nI pr)])), (qd, .inl (cb, 480, .inl dk)), (ql, .inl (ci, 40, .inl L)), (qn, .inl (ci, 40, .inl N))] sz)) 0 0 (va_A [(h0, .inr (1, [.ref qt, .int (nI n), .ref qr, .int nx, .int wh, .int (jbi pw), .int (jbi ct)])), (qt, .inl (cb, 100, .inl tp)), (qr, .inr (0, [.ref qd, .ref ql, .ref qn, .int (nI old), .int (nI us), .int (nI pr)])), (qd, .inl (cb, 480, .inl dk)), (ql, .inl (ci, 40, .inl L)), (qn, .inl (ci, 40, .inl N))] sz) := by
  refine j_in (Qc := fun A => (va_Qi (fun (x : Int32) (_ : Unit) => (∃ j, jfd k r pw i j ∧ x = nI ((old + js (jse r z) j) % 40)) ∨ ((∀ j, ¬ jfd k r pw i j) ∧ x = -1)) (j_post D (jT cb ci cz) (fun _ => [(h0, .inr (1, [.ref qt, .int (nI n), .ref qr, .int nx, .int wh, .int (jbi pw), .int (jbi ct)])), (qt, .inl (cb, 100, .inl tp)), (qr, .inr (0, [.ref qd, .ref ql, .ref qn, .int (nI old), .int (nI us), .int (nI pr)])), (qd, .inl (cb, 480, .inl dk)), (ql, .inl (ci, 40, .inl L)), (qn, .inl (ci, 40, .inl N))]) A) A)) (cc := cX1_findRecord) (maxL := 2) (ret := (some .int)) (by decide) rfl (Nat.le_of_ble_eq_true rfl) ?_
  intro p e s m av below meth c A ls H locs hx hb hr hml hts hown hlk hin hA hP hK hD hS hl
  have hown : s.vm.findClass RX1 = some m.cls := hown
  have hl : lv_has ls 2 [(0, .ref h0), (1, .int i)] := hl
  refine lv_aload_n hx hb dX1_findRecord_0 rfl (lv_at hl 0 rfl) ?_
  refine va_get (D := D) (ci := 1) (v := .int (jbi pw)) (C := RX1) (T := TX1) (N := 7) hx hb hts (by decide +kernel) hown hK hP 0 rfl rfl 5 (by decide) (hts (.fieldLink RX1 30 "JournalDesk" "power" "Z") (by decide +kernel)) (fun _ h9 => h9) rfl dX1_findRecord_1 ?_
  refine lv_if_eq (tgt := 18) hx hb dX1_findRecord_4 (by decide) (fun c_4_1 => ?_) (fun c_4_1 => ?_)
  · have hpw : pw = false := jbi_0.mp c_4_1
    refine lv_iconst (v := (-1)) hx hb dX1_findRecord_18 (by decide +kernel) ?_
    exact j_iret (v := (-1)) (()) hx hb hr hlk hK hP hD hS (Or.inr ⟨fun j q => absurd (hpw.symm.trans q.1) (by decide), rfl⟩) dX1_findRecord_19
  · have hpw : pw = true := jbi_n0.mp c_4_1
    refine lv_aload_n hx hb dX1_findRecord_7 rfl (lv_at hl 0 rfl) ?_
    refine va_get (D := D) (ci := 1) (v := .ref qr) (C := RX1) (T := TX1) (N := 7) hx hb hts (by decide +kernel) hown hK hP 0 rfl rfl 2 (by decide) (hts (.fieldLink RX1 20 "JournalDesk" "ring" "LJournalDesk$Ring;") (by decide +kernel)) (fun _ h9 => h9) rfl dX1_findRecord_8 ?_
    refine lv_iload_n hx hb dX1_findRecord_11 rfl (lv_at hl 1 rfl) ?_
    refine j_calli (wr := [(h0, .inr (1, [.ref qt, .int (nI n), .ref qr, .int nx, .int wh, .int (jbi pw), .int (jbi ct)])), (qt, .inl (cb, 100, .inl tp))]) hP hD hS hA [2, 3, 4, 5] [0, 1] rfl rfl (by decide) (by decide) (va_runV (As := [.int i]) (rest := []) ⟨hx, hb, hml, hown, hts⟩ (c_R_sectorOfRecord l D cb ci cz qr qd ql qn dk L N old us pr k r z u y i hR H.size) (cwV 1 hts gX1_findRecord_X0_sectorOfRecord rfl rfl rfl (by decide +kernel) ⟨Nat.le_of_ble_eq_true rfl, Nat.le_of_ble_eq_true rfl⟩) (j_preV (ci := 0) (q0 := 0) [2, 3, 4, 5] [0, 1, 2] hK hP hD rfl rfl rfl rfl rfl rfl) rfl rfl hl.1 rfl (lv_room (Nat.le_of_ble_eq_true rfl)) dX1_findRecord_12 ⟨Nat.le_of_ble_eq_true rfl, Nat.le_of_ble_eq_true rfl⟩) (fun r12 u9 H locs hw hP hD hS => ?_)
    have hP : va_P D vwCl [(h0, .inr (1, [.ref qt, .int (nI n), .ref qr, .int nx, .int wh, .int (jbi pw), .int (jbi ct)])), (qt, .inl (cb, 100, .inl tp)), (qr, .inr (0, [.ref qd, .ref ql, .ref qn, .int (nI old), .int (nI us), .int (nI pr)])), (qd, .inl (cb, 480, .inl dk)), (ql, .inl (ci, 40, .inl L)), (qn, .inl (ci, 40, .inl N))] H := hP
    have hD : va_D A [(h0, .inr (1, [.ref qt, .int (nI n), .ref qr, .int nx, .int wh, .int (jbi pw), .int (jbi ct)])), (qt, .inl (cb, 100, .inl tp)), (qr, .inr (0, [.ref qd, .ref ql, .ref qn, .int (nI old), .int (nI us), .int (nI pr)])), (qd, .inl (cb, 480, .inl dk)), (ql, .inl (ci, 40, .inl L)), (qn, .inl (ci, 40, .inl N))] := hD
    have hf := hw
    refine lv_goto (tgt := 19) hx hb dX1_findRecord_15 (by decide) ?_
    exact j_iret (v := r12) (()) hx hb hr hlk hK hP hD hS (by rw [hpw]; exact hf) dX1_findRecord_19
abbrev rm_D_record : Room := { frames := 7, cells := 0, slots := 0, locals := 150 }
set_option maxHeartbeats 4000000 in
set_option maxRecDepth 100000 in
/-- record -/
theorem c_D_record (l : Launch) (D : va_G) (cb ci cz : ClassId) (h0 qt : Nat) (tp : Nat → Int32) (qr qd ql qn : Nat) (dk L N : Nat → Int32) (old us pr : Nat) (n : Nat) (t : Nat → Int32) (k : Nat) (r : Nat → Bool) (z : Nat → Nat) (u : Nat → Int32) (y : Nat → Nat → Int32) (nx wh : Int32) (pw ct : Bool) (i wv : Int32) (hn : n ≤ 100) (ht : ∀ j, j < n → tp j &&& 255 = t j) (hR : jR old us pr dk L N k r z u y) (sz : Nat) : Met l yX1_record wsX1_record rm_D_record (va_Pc [.ref h0, .int i, .int wv] (j_pre D (jT cb ci cz) [(h0, .inr (1, [.ref qt, .int (nI n), .ref qr, .int nx, .int wh, .int (jbi pw), .int (jbi ct)])), (qt, .inl (cb, 100, .inl tp)), (qr, .inr (0, [.ref qd, .ref ql, .ref qn, .int (nI old), .int (nI us), .int (nI pr)])), (qd, .inl (cb, 480, .inl dk)), (ql, .inl (ci, 40, .inl L)), (qn, .inl (ci, 40, .inl N))] sz)) (va_Qi (fun (x : Int32) (_ : Unit) => jop_rc ((n, t), (k, r, z, u, y), (nx, wh, pw, ct)) i wv x) (j_post D (jT cb ci cz) (fun _ => [(h0, .inr (1, [.ref qt, .int (nI n), .ref qr, .int nx, .int wh, .int (jbi pw), .int (jbi ct)])), (qt, .inl (cb, 100, .inl tp)), (qr, .inr (0, [.ref qd, .ref ql, .ref qn, .int (nI old), .int (nI us), .int (nI pr)])), (qd, .inl (cb, 480, .inl dk)), (ql, .inl (ci, 40, .inl L)), (qn, .inl (ci, 40, .inl N))]) (va_A [(h0, .inr (1, [.ref qt, .int (nI n), .ref qr, .int nx, .int wh, .int (jbi pw), .int (jbi ct)])), (qt, .inl (cb, 100, .inl tp)), (qr, .inr (0, [.ref qd, .ref ql, .ref qn, .int (nI old), .int (nI us), .int (nI pr)])), (qd, .inl (cb, 480, .inl dk)), (ql, .inl (ci, 40, .inl L)), (qn, .inl (ci, 40, .inl N))] sz)) (va_A [(h0, .inr (1, [.ref qt, .int (nI n), .ref qr, .int nx, .int wh, .int (jbi pw), .int (jbi ct)])), (qt, .inl (cb, 100, .inl tp)), (qr, .inr (0, [.ref qd, .ref ql, .ref qn, .int (nI old), .int (nI us), .int (nI pr)])), (qd, .inl (cb, 480, .inl dk)), (ql, .inl (ci, 40, .inl L)), (qn, .inl (ci, 40, .inl N))] sz)) 0 0 (va_A [(h0, .inr (1, [.ref qt, .int (nI n), .ref qr, .int nx, .int wh, .int (jbi pw), .int (jbi ct)])), (qt, .inl (cb, 100, .inl tp)), (qr, .inr (0, [.ref qd, .ref ql, .ref qn, .int (nI old), .int (nI us), .int (nI pr)])), (qd, .inl (cb, 480, .inl dk)), (ql, .inl (ci, 40, .inl L)), (qn, .inl (ci, 40, .inl N))] sz) := by
  refine j_in (Qc := fun A => (va_Qi (fun (x : Int32) (_ : Unit) => jop_rc ((n, t), (k, r, z, u, y), (nx, wh, pw, ct)) i wv x) (j_post D (jT cb ci cz) (fun _ => [(h0, .inr (1, [.ref qt, .int (nI n), .ref qr, .int nx, .int wh, .int (jbi pw), .int (jbi ct)])), (qt, .inl (cb, 100, .inl tp)), (qr, .inr (0, [.ref qd, .ref ql, .ref qn, .int (nI old), .int (nI us), .int (nI pr)])), (qd, .inl (cb, 480, .inl dk)), (ql, .inl (ci, 40, .inl L)), (qn, .inl (ci, 40, .inl N))]) A) A)) (cc := cX1_record) (maxL := 4) (ret := (some .int)) (by decide) rfl (Nat.le_of_ble_eq_true rfl) ?_
  intro p e s m av below meth c A ls H locs hx hb hr hml hts hown hlk hin hA hP hK hD hS hl
  have hown : s.vm.findClass RX1 = some m.cls := hown
  have hl : lv_has ls 4 [(0, .ref h0), (1, .int i), (2, .int wv)] := hl
  refine lv_aload_n hx hb dX1_record_0 rfl (lv_at hl 0 rfl) ?_
  refine lv_iload_n hx hb dX1_record_1 rfl (lv_at hl 1 rfl) ?_
  refine j_calli (wr := []) hP hD hS hA [0, 1, 2, 3, 4, 5] [] rfl rfl (by decide) (by decide) (va_runV (As := [.int i]) (rest := []) ⟨hx, hb, hml, hown, hts⟩ (c_D_findRecord l D cb ci cz h0 qt tp qr qd ql qn dk L N old us pr n t k r z u y nx wh pw ct i hn ht hR H.size) (cwV 1 hts gX1_record_X1_findRecord rfl rfl rfl (by decide +kernel) ⟨Nat.le_of_ble_eq_true rfl, Nat.le_of_ble_eq_true rfl⟩) (j_preV (ci := 1) (q0 := 0) [0, 1, 2, 3, 4, 5] [0, 1, 2] hK hP hD rfl rfl rfl rfl rfl rfl) rfl rfl hl.1 rfl (lv_room (Nat.le_of_ble_eq_true rfl)) dX1_record_2 ⟨Nat.le_of_ble_eq_true rfl, Nat.le_of_ble_eq_true rfl⟩) (fun r2 u9 H locs hw hP hD hS => ?_)
  have hP : va_P D vwCl [(h0, .inr (1, [.ref qt, .int (nI n), .ref qr, .int nx, .int wh, .int (jbi pw), .int (jbi ct)])), (qt, .inl (cb, 100, .inl tp)), (qr, .inr (0, [.ref qd, .ref ql, .ref qn, .int (nI old), .int (nI us), .int (nI pr)])), (qd, .inl (cb, 480, .inl dk)), (ql, .inl (ci, 40, .inl L)), (qn, .inl (ci, 40, .inl N))] H := hP
  have hD : va_D A [(h0, .inr (1, [.ref qt, .int (nI n), .ref qr, .int nx, .int wh, .int (jbi pw), .int (jbi ct)])), (qt, .inl (cb, 100, .inl tp)), (qr, .inr (0, [.ref qd, .ref ql, .ref qn, .int (nI old), .int (nI us), .int (nI pr)])), (qd, .inl (cb, 480, .inl dk)), (ql, .inl (ci, 40, .inl L)), (qn, .inl (ci, 40, .inl N))] := hD
  obtain ⟨fr, hfr⟩ : ∃ fr, fr = r2 := ⟨_, rfl⟩
  rw [← hfr]
  have hf : (∃ j, jfd k r pw i j ∧ fr = nI ((old + js (jse r z) j) % 40)) ∨ ((∀ j, ¬ jfd k r pw i j) ∧ fr = -1) := hfr ▸ hw
  refine lv_istore_n (lv' := [(3, .int fr), (0, .ref h0), (1, .int i), (2, .int wv)]) hx hb dX1_record_5 rfl hl (by decide) rfl (fun ls hl => ?_)
  refine lv_iload_n hx hb dX1_record_6 rfl (lv_at hl 0 rfl) ?_
  refine lv_iconst (v := (-1)) hx hb dX1_record_7 (by decide +kernel) ?_
  refine lv_icmp_ne (tgt := 13) hx hb dX1_record_8 (by decide) (fun c_8_1 => ?_) (fun c_8_1 => ?_)
  · obtain ⟨j, hj, hrj⟩ : ∃ j, jfd k r pw i j ∧ fr = nI ((old + js (jse r z) j) % 40) := hf.resolve_right (fun q => c_8_1 q.2)
    rw [hrj] at hl
    refine lv_iload_n hx hb dX1_record_13 rfl (lv_at hl 3 rfl) ?_
    by_cases hsw0 : wv = 0
    · refine lv_lookup (tgt := 40) hx hb dX1_record_14 (by decide +kernel) (off := 26) (by rw [hsw0]; decide +kernel) (by decide) ?_
      refine lv_aload_n hx hb dX1_record_40 rfl (lv_at hl 1 rfl) ?_
      refine va_get (D := D) (ci := 1) (v := .ref qr) (C := RX1) (T := TX1) (N := 7) hx hb hts (by decide +kernel) hown hK hP 0 rfl rfl 2 (by decide) (hts (.fieldLink RX1 20 "JournalDesk" "ring" "LJournalDesk$Ring;") (by decide +kernel)) (fun _ h9 => h9) rfl dX1_record_41 ?_
      refine lv_iload_n hx hb dX1_record_44 rfl (lv_at hl 0 rfl) ?_
      refine j_calli (wr := [(h0, .inr (1, [.ref qt, .int (nI n), .ref qr, .int nx, .int wh, .int (jbi pw), .int (jbi ct)])), (qt, .inl (cb, 100, .inl tp))]) hP hD hS hA [2, 3, 4, 5] [0, 1] rfl rfl (by decide) (by decide) (va_runV (As := [.int (nI ((old + js (jse r z) j) % 40))]) (rest := []) ⟨hx, hb, hml, hown, hts⟩ (c_R_lengthAt l D cb ci cz qr qd ql qn dk L N old us pr ((old + js (jse r z) j) % 40) (Nat.mod_lt _ (by decide)) H.size) (cwV 1 hts gX1_record_X0_lengthAt rfl rfl rfl (by decide +kernel) ⟨Nat.le_of_ble_eq_true rfl, Nat.le_of_ble_eq_true rfl⟩) (j_preV (ci := 0) (q0 := 0) [2, 3, 4, 5] [0, 1, 2] hK hP hD rfl rfl rfl rfl rfl rfl) rfl rfl hl.1 rfl (lv_room (Nat.le_of_ble_eq_true rfl)) dX1_record_45 ⟨Nat.le_of_ble_eq_true rfl, Nat.le_of_ble_eq_true rfl⟩) (fun r45 u9 H locs hw hP hD hS => ?_)
      have hP : va_P D vwCl [(h0, .inr (1, [.ref qt, .int (nI n), .ref qr, .int nx, .int wh, .int (jbi pw), .int (jbi ct)])), (qt, .inl (cb, 100, .inl tp)), (qr, .inr (0, [.ref qd, .ref ql, .ref qn, .int (nI old), .int (nI us), .int (nI pr)])), (qd, .inl (cb, 480, .inl dk)), (ql, .inl (ci, 40, .inl L)), (qn, .inl (ci, 40, .inl N))] H := hP
      have hD : va_D A [(h0, .inr (1, [.ref qt, .int (nI n), .ref qr, .int nx, .int wh, .int (jbi pw), .int (jbi ct)])), (qt, .inl (cb, 100, .inl tp)), (qr, .inr (0, [.ref qd, .ref ql, .ref qn, .int (nI old), .int (nI us), .int (nI pr)])), (qd, .inl (cb, 480, .inl dk)), (ql, .inl (ci, 40, .inl L)), (qn, .inl (ci, 40, .inl N))] := hD
      have hw : r45 = (L ((old + js (jse r z) j) % 40)) := hw
      subst hw
      exact j_iret (v := (L ((old + js (jse r z) j) % 40))) (()) hx hb hr hlk hK hP hD hS (Or.inl ⟨j, hj, by rw [if_pos hsw0]; exact (jR_L hR hj.2.1).trans (if_pos hj.2.2.1)⟩) dX1_record_48
    by_cases hsw1 : wv = 1
    · refine lv_lookup (tgt := 49) hx hb dX1_record_14 (by decide +kernel) (off := 35) (by rw [hsw1]; decide +kernel) (by decide) ?_
      refine lv_aload_n hx hb dX1_record_49 rfl (lv_at hl 1 rfl) ?_
      refine va_get (D := D) (ci := 1) (v := .ref qr) (C := RX1) (T := TX1) (N := 7) hx hb hts (by decide +kernel) hown hK hP 0 rfl rfl 2 (by decide) (hts (.fieldLink RX1 20 "JournalDesk" "ring" "LJournalDesk$Ring;") (by decide +kernel)) (fun _ h9 => h9) rfl dX1_record_50 ?_
      refine lv_iload_n hx hb dX1_record_53 rfl (lv_at hl 0 rfl) ?_
      refine j_calli (wr := [(h0, .inr (1, [.ref qt, .int (nI n), .ref qr, .int nx, .int wh, .int (jbi pw), .int (jbi ct)])), (qt, .inl (cb, 100, .inl tp))]) hP hD hS hA [2, 3, 4, 5] [0, 1] rfl rfl (by decide) (by decide) (va_runV (As := [.int (nI ((old + js (jse r z) j) % 40))]) (rest := []) ⟨hx, hb, hml, hown, hts⟩ (c_R_numberAt l D cb ci cz qr qd ql qn dk L N old us pr ((old + js (jse r z) j) % 40) (Nat.mod_lt _ (by decide)) H.size) (cwV 1 hts gX1_record_X0_numberAt rfl rfl rfl (by decide +kernel) ⟨Nat.le_of_ble_eq_true rfl, Nat.le_of_ble_eq_true rfl⟩) (j_preV (ci := 0) (q0 := 0) [2, 3, 4, 5] [0, 1, 2] hK hP hD rfl rfl rfl rfl rfl rfl) rfl rfl hl.1 rfl (lv_room (Nat.le_of_ble_eq_true rfl)) dX1_record_54 ⟨Nat.le_of_ble_eq_true rfl, Nat.le_of_ble_eq_true rfl⟩) (fun r54 u9 H locs hw hP hD hS => ?_)
      have hP : va_P D vwCl [(h0, .inr (1, [.ref qt, .int (nI n), .ref qr, .int nx, .int wh, .int (jbi pw), .int (jbi ct)])), (qt, .inl (cb, 100, .inl tp)), (qr, .inr (0, [.ref qd, .ref ql, .ref qn, .int (nI old), .int (nI us), .int (nI pr)])), (qd, .inl (cb, 480, .inl dk)), (ql, .inl (ci, 40, .inl L)), (qn, .inl (ci, 40, .inl N))] H := hP
      have hD : va_D A [(h0, .inr (1, [.ref qt, .int (nI n), .ref qr, .int nx, .int wh, .int (jbi pw), .int (jbi ct)])), (qt, .inl (cb, 100, .inl tp)), (qr, .inr (0, [.ref qd, .ref ql, .ref qn, .int (nI old), .int (nI us), .int (nI pr)])), (qd, .inl (cb, 480, .inl dk)), (ql, .inl (ci, 40, .inl L)), (qn, .inl (ci, 40, .inl N))] := hD
      have hw : r54 = (N ((old + js (jse r z) j) % 40)) := hw
      subst hw
      exact j_iret (v := (N ((old + js (jse r z) j) % 40))) (()) hx hb hr hlk hK hP hD hS (Or.inl ⟨j, hj, by rw [if_neg hsw0, if_pos hsw1]; exact hR.2.2.2.2.2.2.1 j hj.2.1 hj.2.2.1⟩) dX1_record_57
    refine lv_lookup (tgt := 58) hx hb dX1_record_14 (by decide +kernel) (off := 44) (by show Op.lookupswitch.offset [(0, 26), (1, 35)] 44 (wv).toInt = _; rw [lv_osw (k := 0) hsw0 (by decide +kernel), lv_osw (k := 1) hsw1 (by decide +kernel)]; rfl) (by decide) ?_
    refine lv_iconst (v := (-1)) hx hb dX1_record_58 (by decide +kernel) ?_
    exact j_iret (v := (-1)) (()) hx hb hr hlk hK hP hD hS (Or.inl ⟨j, hj, by rw [if_neg hsw0, if_neg hsw1]⟩) dX1_record_59
  · have hno : ∀ j, ¬ jfd k r pw i j := by
      rcases hf with ⟨j, hj, hrj⟩ | q
      · exact absurd (hrj.symm.trans c_8_1) (j_ne1 _ (by omega))
      · exact q.1
    refine lv_iconst (v := (-1)) hx hb dX1_record_11 (by decide +kernel) ?_
    exact j_iret (v := (-1)) (()) hx hb hr hlk hK hP hD hS (Or.inr ⟨hno, rfl⟩) dX1_record_12
abbrev rm_D_bytes : Room := { frames := 7, cells := 0, slots := 0, locals := 150 }
set_option maxHeartbeats 4000000 in
set_option maxRecDepth 100000 in
/-- bytes -/
theorem c_D_bytes (l : Launch) (D : va_G) (cb ci cz : ClassId) (h0 qt : Nat) (tp : Nat → Int32) (qr qd ql qn : Nat) (dk L N : Nat → Int32) (old us pr : Nat) (n : Nat) (t : Nat → Int32) (k : Nat) (r : Nat → Bool) (z : Nat → Nat) (u : Nat → Int32) (y : Nat → Nat → Int32) (nx wh : Int32) (pw ct : Bool) (i kv : Int32) (hn : n ≤ 100) (ht : ∀ j, j < n → tp j &&& 255 = t j) (hR : jR old us pr dk L N k r z u y) (sz : Nat) : Met l yX1_bytes wsX1_bytes rm_D_bytes (va_Pc [.ref h0, .int i, .int kv] (j_pre D (jT cb ci cz) [(h0, .inr (1, [.ref qt, .int (nI n), .ref qr, .int nx, .int wh, .int (jbi pw), .int (jbi ct)])), (qt, .inl (cb, 100, .inl tp)), (qr, .inr (0, [.ref qd, .ref ql, .ref qn, .int (nI old), .int (nI us), .int (nI pr)])), (qd, .inl (cb, 480, .inl dk)), (ql, .inl (ci, 40, .inl L)), (qn, .inl (ci, 40, .inl N))] sz)) (va_Ql (fun (x : Int64) (_ : Unit) => jop_by ((n, t), (k, r, z, u, y), (nx, wh, pw, ct)) i kv x) (j_post D (jT cb ci cz) (fun _ => [(h0, .inr (1, [.ref qt, .int (nI n), .ref qr, .int nx, .int wh, .int (jbi pw), .int (jbi ct)])), (qt, .inl (cb, 100, .inl tp)), (qr, .inr (0, [.ref qd, .ref ql, .ref qn, .int (nI old), .int (nI us), .int (nI pr)])), (qd, .inl (cb, 480, .inl dk)), (ql, .inl (ci, 40, .inl L)), (qn, .inl (ci, 40, .inl N))]) (va_A [(h0, .inr (1, [.ref qt, .int (nI n), .ref qr, .int nx, .int wh, .int (jbi pw), .int (jbi ct)])), (qt, .inl (cb, 100, .inl tp)), (qr, .inr (0, [.ref qd, .ref ql, .ref qn, .int (nI old), .int (nI us), .int (nI pr)])), (qd, .inl (cb, 480, .inl dk)), (ql, .inl (ci, 40, .inl L)), (qn, .inl (ci, 40, .inl N))] sz)) (va_A [(h0, .inr (1, [.ref qt, .int (nI n), .ref qr, .int nx, .int wh, .int (jbi pw), .int (jbi ct)])), (qt, .inl (cb, 100, .inl tp)), (qr, .inr (0, [.ref qd, .ref ql, .ref qn, .int (nI old), .int (nI us), .int (nI pr)])), (qd, .inl (cb, 480, .inl dk)), (ql, .inl (ci, 40, .inl L)), (qn, .inl (ci, 40, .inl N))] sz)) 0 0 (va_A [(h0, .inr (1, [.ref qt, .int (nI n), .ref qr, .int nx, .int wh, .int (jbi pw), .int (jbi ct)])), (qt, .inl (cb, 100, .inl tp)), (qr, .inr (0, [.ref qd, .ref ql, .ref qn, .int (nI old), .int (nI us), .int (nI pr)])), (qd, .inl (cb, 480, .inl dk)), (ql, .inl (ci, 40, .inl L)), (qn, .inl (ci, 40, .inl N))] sz) := by
  refine j_in (Qc := fun A => (va_Ql (fun (x : Int64) (_ : Unit) => jop_by ((n, t), (k, r, z, u, y), (nx, wh, pw, ct)) i kv x) (j_post D (jT cb ci cz) (fun _ => [(h0, .inr (1, [.ref qt, .int (nI n), .ref qr, .int nx, .int wh, .int (jbi pw), .int (jbi ct)])), (qt, .inl (cb, 100, .inl tp)), (qr, .inr (0, [.ref qd, .ref ql, .ref qn, .int (nI old), .int (nI us), .int (nI pr)])), (qd, .inl (cb, 480, .inl dk)), (ql, .inl (ci, 40, .inl L)), (qn, .inl (ci, 40, .inl N))]) A) A)) (cc := cX1_bytes) (maxL := 4) (ret := (some .long)) (by decide) rfl (Nat.le_of_ble_eq_true rfl) ?_
  intro p e s m av below meth c A ls H locs hx hb hr hml hts hown hlk hin hA hP hK hD hS hl
  have hown : s.vm.findClass RX1 = some m.cls := hown
  have hl : lv_has ls 4 [(0, .ref h0), (1, .int i), (2, .int kv)] := hl
  refine lv_aload_n hx hb dX1_bytes_0 rfl (lv_at hl 0 rfl) ?_
  refine lv_iload_n hx hb dX1_bytes_1 rfl (lv_at hl 1 rfl) ?_
  refine j_calli (wr := []) hP hD hS hA [0, 1, 2, 3, 4, 5] [] rfl rfl (by decide) (by decide) (va_runV (As := [.int i]) (rest := []) ⟨hx, hb, hml, hown, hts⟩ (c_D_findRecord l D cb ci cz h0 qt tp qr qd ql qn dk L N old us pr n t k r z u y nx wh pw ct i hn ht hR H.size) (cwV 1 hts gX1_bytes_X1_findRecord rfl rfl rfl (by decide +kernel) ⟨Nat.le_of_ble_eq_true rfl, Nat.le_of_ble_eq_true rfl⟩) (j_preV (ci := 1) (q0 := 0) [0, 1, 2, 3, 4, 5] [0, 1, 2] hK hP hD rfl rfl rfl rfl rfl rfl) rfl rfl hl.1 rfl (lv_room (Nat.le_of_ble_eq_true rfl)) dX1_bytes_2 ⟨Nat.le_of_ble_eq_true rfl, Nat.le_of_ble_eq_true rfl⟩) (fun r2 u9 H locs hw hP hD hS => ?_)
  have hP : va_P D vwCl [(h0, .inr (1, [.ref qt, .int (nI n), .ref qr, .int nx, .int wh, .int (jbi pw), .int (jbi ct)])), (qt, .inl (cb, 100, .inl tp)), (qr, .inr (0, [.ref qd, .ref ql, .ref qn, .int (nI old), .int (nI us), .int (nI pr)])), (qd, .inl (cb, 480, .inl dk)), (ql, .inl (ci, 40, .inl L)), (qn, .inl (ci, 40, .inl N))] H := hP
  have hD : va_D A [(h0, .inr (1, [.ref qt, .int (nI n), .ref qr, .int nx, .int wh, .int (jbi pw), .int (jbi ct)])), (qt, .inl (cb, 100, .inl tp)), (qr, .inr (0, [.ref qd, .ref ql, .ref qn, .int (nI old), .int (nI us), .int (nI pr)])), (qd, .inl (cb, 480, .inl dk)), (ql, .inl (ci, 40, .inl L)), (qn, .inl (ci, 40, .inl N))] := hD
  obtain ⟨fr, hfr⟩ : ∃ fr, fr = r2 := ⟨_, rfl⟩
  rw [← hfr]
  have hf : (∃ j, jfd k r pw i j ∧ fr = nI ((old + js (jse r z) j) % 40)) ∨ ((∀ j, ¬ jfd k r pw i j) ∧ fr = -1) := hfr ▸ hw
  refine lv_istore_n (lv' := [(3, .int fr), (0, .ref h0), (1, .int i), (2, .int kv)]) hx hb dX1_bytes_5 rfl hl (by decide) rfl (fun ls hl => ?_)
  refine lv_iload_n hx hb dX1_bytes_6 rfl (lv_at hl 0 rfl) ?_
  refine lv_iconst (v := (-1)) hx hb dX1_bytes_7 (by decide +kernel) ?_
  refine lv_icmp_eq (tgt := 15) hx hb dX1_bytes_8 (by decide) (fun c_8_1 => ?_) (fun c_8_1 => ?_)
  · have hno : ∀ j, ¬ jfd k r pw i j := by
      rcases hf with ⟨j, hj, hrj⟩ | q
      · exact absurd (hrj.symm.trans c_8_1) (j_ne1 _ (by omega))
      · exact q.1
    refine lv_ldc2 (v := (-1)) hx hb hown (hts (.constantLong RX1 70 (-1)) (by decide +kernel)) dX1_bytes_15 ?_
    exact j_lret (v := (-1)) (()) hx hb hr hlk hK hP hD hS (Or.inr ⟨hno, rfl⟩) dX1_bytes_18
  · obtain ⟨j, hj, hrj⟩ : ∃ j, jfd k r pw i j ∧ fr = nI ((old + js (jse r z) j) % 40) := hf.resolve_right (fun q => c_8_1 q.2)
    rw [hrj] at hl
    refine lv_iload_n hx hb dX1_bytes_11 rfl (lv_at hl 3 rfl) ?_
    refine lv_if_ge (tgt := 19) hx hb dX1_bytes_12 (by decide) (fun c_12_2 => ?_) (fun c_12_2 => ?_)
    · obtain ⟨cc, hc31, hkv⟩ := nI_of (Int32.not_lt.mpr c_12_2)
      rw [hkv] at hl
      refine lv_aload_n hx hb dX1_bytes_19 rfl (lv_at hl 1 rfl) ?_
      refine va_get (D := D) (ci := 1) (v := .ref qr) (C := RX1) (T := TX1) (N := 7) hx hb hts (by decide +kernel) hown hK hP 0 rfl rfl 2 (by decide) (hts (.fieldLink RX1 20 "JournalDesk" "ring" "LJournalDesk$Ring;") (by decide +kernel)) (fun _ h9 => h9) rfl dX1_bytes_20 ?_
      refine lv_iload_n hx hb dX1_bytes_23 rfl (lv_at hl 0 rfl) ?_
      refine lv_iload_n hx hb dX1_bytes_24 rfl (lv_at hl 3 rfl) ?_
      refine j_calll (wr := [(h0, .inr (1, [.ref qt, .int (nI n), .ref qr, .int nx, .int wh, .int (jbi pw), .int (jbi ct)])), (qt, .inl (cb, 100, .inl tp))]) hP hD hS hA [2, 3, 4, 5] [0, 1] rfl rfl (by decide) (by decide) (va_runV (As := [.int (nI ((old + js (jse r z) j) % 40)), .int (nI cc)]) (rest := []) ⟨hx, hb, hml, hown, hts⟩ (c_R_eightBytes l D cb ci cz qr qd ql qn dk L N old us pr ((old + js (jse r z) j) % 40) cc (z j) (y j) (Nat.mod_lt _ (by decide)) (jR_z hR hj.2.1) ((jR_L hR hj.2.1).trans (if_pos hj.2.2.1)) (fun i0 q0 => hR.2.2.2.2.2.2.2 j i0 hj.2.1 hj.2.2.1 q0) hc31 H.size) (cwV 2 hts gX1_bytes_X0_eightBytes rfl rfl rfl (by decide +kernel) ⟨Nat.le_of_ble_eq_true rfl, Nat.le_of_ble_eq_true rfl⟩) (j_preV (ci := 0) (q0 := 0) [2, 3, 4, 5] [0, 1, 2] hK hP hD rfl rfl rfl rfl rfl rfl) rfl rfl hl.1 rfl (lv_room (Nat.le_of_ble_eq_true rfl)) dX1_bytes_25 ⟨Nat.le_of_ble_eq_true rfl, Nat.le_of_ble_eq_true rfl⟩) (fun r25 u9 H locs hw hP hD hS => ?_)
      have hP : va_P D vwCl [(h0, .inr (1, [.ref qt, .int (nI n), .ref qr, .int nx, .int wh, .int (jbi pw), .int (jbi ct)])), (qt, .inl (cb, 100, .inl tp)), (qr, .inr (0, [.ref qd, .ref ql, .ref qn, .int (nI old), .int (nI us), .int (nI pr)])), (qd, .inl (cb, 480, .inl dk)), (ql, .inl (ci, 40, .inl L)), (qn, .inl (ci, 40, .inl N))] H := hP
      have hD : va_D A [(h0, .inr (1, [.ref qt, .int (nI n), .ref qr, .int nx, .int wh, .int (jbi pw), .int (jbi ct)])), (qt, .inl (cb, 100, .inl tp)), (qr, .inr (0, [.ref qd, .ref ql, .ref qn, .int (nI old), .int (nI us), .int (nI pr)])), (qd, .inl (cb, 480, .inl dk)), (ql, .inl (ci, 40, .inl L)), (qn, .inl (ci, 40, .inl N))] := hD
      have hw : r25 = (je8 (fun b => if cc + b < z j then y j (cc + b) else 0) 8) := hw
      subst hw
      exact j_lret (v := (je8 (fun b => if cc + b < z j then y j (cc + b) else 0) 8)) (()) hx hb hr hlk hK hP hD hS (Or.inl ⟨j, hj, by rw [hkv, if_neg (nI_pos hc31), nI_clamp hc31]⟩) dX1_bytes_28
    · have hneg : kv < 0 := Int32.not_le.mp c_12_2
      refine lv_ldc2 (v := (-1)) hx hb hown (hts (.constantLong RX1 70 (-1)) (by decide +kernel)) dX1_bytes_15 ?_
      exact j_lret (v := (-1)) (()) hx hb hr hlk hK hP hD hS (Or.inl ⟨j, hj, (if_pos hneg).symm⟩) dX1_bytes_18
abbrev rm_D_count : Room := { frames := 1, cells := 0, slots := 0, locals := 20 }
set_option maxHeartbeats 4000000 in
set_option maxRecDepth 100000 in
/-- count -/
theorem c_D_count (l : Launch) (D : va_G) (cb ci cz : ClassId) (h0 qt : Nat) (tp : Nat → Int32) (qr qd ql qn : Nat) (dk L N : Nat → Int32) (old us pr : Nat) (n : Nat) (t : Nat → Int32) (k : Nat) (r : Nat → Bool) (z : Nat → Nat) (u : Nat → Int32) (y : Nat → Nat → Int32) (nx wh : Int32) (pw ct : Bool) (wv : Int32) (hn : n ≤ 100) (ht : ∀ j, j < n → tp j &&& 255 = t j) (hR : jR old us pr dk L N k r z u y) (sz : Nat) : Met l yX1_count wsX1_count rm_D_count (va_Pc [.ref h0, .int wv] (j_pre D (jT cb ci cz) [(h0, .inr (1, [.ref qt, .int (nI n), .ref qr, .int nx, .int wh, .int (jbi pw), .int (jbi ct)])), (qt, .inl (cb, 100, .inl tp)), (qr, .inr (0, [.ref qd, .ref ql, .ref qn, .int (nI old), .int (nI us), .int (nI pr)])), (qd, .inl (cb, 480, .inl dk)), (ql, .inl (ci, 40, .inl L)), (qn, .inl (ci, 40, .inl N))] sz)) (va_Qi (fun (x : Int32) (_ : Unit) => x = jop_ct ((n, t), (k, r, z, u, y), (nx, wh, pw, ct)) wv) (j_post D (jT cb ci cz) (fun _ => [(h0, .inr (1, [.ref qt, .int (nI n), .ref qr, .int nx, .int wh, .int (jbi pw), .int (jbi ct)])), (qt, .inl (cb, 100, .inl tp)), (qr, .inr (0, [.ref qd, .ref ql, .ref qn, .int (nI old), .int (nI us), .int (nI pr)])), (qd, .inl (cb, 480, .inl dk)), (ql, .inl (ci, 40, .inl L)), (qn, .inl (ci, 40, .inl N))]) (va_A [(h0, .inr (1, [.ref qt, .int (nI n), .ref qr, .int nx, .int wh, .int (jbi pw), .int (jbi ct)])), (qt, .inl (cb, 100, .inl tp)), (qr, .inr (0, [.ref qd, .ref ql, .ref qn, .int (nI old), .int (nI us), .int (nI pr)])), (qd, .inl (cb, 480, .inl dk)), (ql, .inl (ci, 40, .inl L)), (qn, .inl (ci, 40, .inl N))] sz)) (va_A [(h0, .inr (1, [.ref qt, .int (nI n), .ref qr, .int nx, .int wh, .int (jbi pw), .int (jbi ct)])), (qt, .inl (cb, 100, .inl tp)), (qr, .inr (0, [.ref qd, .ref ql, .ref qn, .int (nI old), .int (nI us), .int (nI pr)])), (qd, .inl (cb, 480, .inl dk)), (ql, .inl (ci, 40, .inl L)), (qn, .inl (ci, 40, .inl N))] sz)) 0 0 (va_A [(h0, .inr (1, [.ref qt, .int (nI n), .ref qr, .int nx, .int wh, .int (jbi pw), .int (jbi ct)])), (qt, .inl (cb, 100, .inl tp)), (qr, .inr (0, [.ref qd, .ref ql, .ref qn, .int (nI old), .int (nI us), .int (nI pr)])), (qd, .inl (cb, 480, .inl dk)), (ql, .inl (ci, 40, .inl L)), (qn, .inl (ci, 40, .inl N))] sz) := by
  refine j_in (Qc := fun A => (va_Qi (fun (x : Int32) (_ : Unit) => x = jop_ct ((n, t), (k, r, z, u, y), (nx, wh, pw, ct)) wv) (j_post D (jT cb ci cz) (fun _ => [(h0, .inr (1, [.ref qt, .int (nI n), .ref qr, .int nx, .int wh, .int (jbi pw), .int (jbi ct)])), (qt, .inl (cb, 100, .inl tp)), (qr, .inr (0, [.ref qd, .ref ql, .ref qn, .int (nI old), .int (nI us), .int (nI pr)])), (qd, .inl (cb, 480, .inl dk)), (ql, .inl (ci, 40, .inl L)), (qn, .inl (ci, 40, .inl N))]) A) A)) (cc := cX1_count) (maxL := 2) (ret := (some .int)) (by decide) rfl (Nat.le_of_ble_eq_true rfl) ?_
  intro p e s m av below meth c A ls H locs hx hb hr hml hts hown hlk hin hA hP hK hD hS hl
  have hown : s.vm.findClass RX1 = some m.cls := hown
  have hl : lv_has ls 2 [(0, .ref h0), (1, .int wv)] := hl
  refine lv_iload_n hx hb dX1_count_0 rfl (lv_at hl 1 rfl) ?_
  by_cases hsw0 : wv = 0
  · refine lv_tableIn (tgt := 36) hx hb dX1_count_1 (by rw [hsw0]; decide +kernel) (by rw [hsw0]; decide +kernel) (off := 35) (by rw [hsw0]; decide +kernel) (by decide) ?_
    refine lv_aload_n hx hb dX1_count_36 rfl (lv_at hl 0 rfl) ?_
    refine va_get (D := D) (ci := 1) (v := .int (nI n)) (C := RX1) (T := TX1) (N := 7) hx hb hts (by decide +kernel) hown hK hP 0 rfl rfl 1 (by decide) (hts (.fieldLink RX1 13 "JournalDesk" "taped" "I") (by decide +kernel)) (fun _ h9 => h9) rfl dX1_count_37 ?_
    exact j_iret (v := (nI n)) (()) hx hb hr hlk hK hP hD hS (by show _ = (if wv = 0 then _ else if wv = 1 then _ else if wv = 2 then _ else if wv = 3 then _ else if wv = 4 then _ else _); rw [if_pos hsw0]) dX1_count_40
  by_cases hsw1 : wv = 1
  · refine lv_tableIn (tgt := 41) hx hb dX1_count_1 (by rw [hsw1]; decide +kernel) (by rw [hsw1]; decide +kernel) (off := 40) (by rw [hsw1]; decide +kernel) (by decide) ?_
    refine lv_aload_n hx hb dX1_count_41 rfl (lv_at hl 0 rfl) ?_
    refine va_get (D := D) (ci := 1) (v := .int (jbi pw)) (C := RX1) (T := TX1) (N := 7) hx hb hts (by decide +kernel) hown hK hP 0 rfl rfl 5 (by decide) (hts (.fieldLink RX1 30 "JournalDesk" "power" "Z") (by decide +kernel)) (fun _ h9 => h9) rfl dX1_count_42 ?_
    refine lv_if_eq (tgt := 58) hx hb dX1_count_45 (by decide) (fun c_45_1 => ?_) (fun c_45_1 => ?_)
    · have hpw : pw = false := jbi_0.mp c_45_1
      refine lv_iconst (v := (nI 0)) hx hb dX1_count_58 (by decide +kernel) ?_
      exact j_iret (v := (nI 0)) (()) hx hb hr hlk hK hP hD hS (by show _ = (if wv = 0 then _ else if wv = 1 then _ else if wv = 2 then _ else if wv = 3 then _ else if wv = 4 then _ else _); rw [if_neg hsw0, if_pos hsw1, if_neg (by rw [hpw]; decide)]; rfl) dX1_count_59
    · have hpw : pw = true := jbi_n0.mp c_45_1
      refine lv_aload_n hx hb dX1_count_48 rfl (lv_at hl 0 rfl) ?_
      refine va_get (D := D) (ci := 1) (v := .ref qr) (C := RX1) (T := TX1) (N := 7) hx hb hts (by decide +kernel) hown hK hP 0 rfl rfl 2 (by decide) (hts (.fieldLink RX1 20 "JournalDesk" "ring" "LJournalDesk$Ring;") (by decide +kernel)) (fun _ h9 => h9) rfl dX1_count_49 ?_
      refine j_calli (wr := [(h0, .inr (1, [.ref qt, .int (nI n), .ref qr, .int nx, .int wh, .int (jbi pw), .int (jbi ct)])), (qt, .inl (cb, 100, .inl tp))]) hP hD hS hA [2, 3, 4, 5] [0, 1] rfl rfl (by decide) (by decide) (va_runV (As := []) (rest := []) ⟨hx, hb, hml, hown, hts⟩ (c_R_records l D cb ci cz qr qd ql qn dk L N old us pr H.size) (cwV 0 hts gX1_count_X0_records rfl rfl rfl (by decide +kernel) ⟨Nat.le_of_ble_eq_true rfl, Nat.le_of_ble_eq_true rfl⟩) (j_preV (ci := 0) (q0 := 0) [2, 3, 4, 5] [0, 1, 2] hK hP hD rfl rfl rfl rfl rfl rfl) rfl rfl hl.1 rfl (lv_room (Nat.le_of_ble_eq_true rfl)) dX1_count_52 ⟨Nat.le_of_ble_eq_true rfl, Nat.le_of_ble_eq_true rfl⟩) (fun r52 u9 H locs hw hP hD hS => ?_)
      have hP : va_P D vwCl [(h0, .inr (1, [.ref qt, .int (nI n), .ref qr, .int nx, .int wh, .int (jbi pw), .int (jbi ct)])), (qt, .inl (cb, 100, .inl tp)), (qr, .inr (0, [.ref qd, .ref ql, .ref qn, .int (nI old), .int (nI us), .int (nI pr)])), (qd, .inl (cb, 480, .inl dk)), (ql, .inl (ci, 40, .inl L)), (qn, .inl (ci, 40, .inl N))] H := hP
      have hD : va_D A [(h0, .inr (1, [.ref qt, .int (nI n), .ref qr, .int nx, .int wh, .int (jbi pw), .int (jbi ct)])), (qt, .inl (cb, 100, .inl tp)), (qr, .inr (0, [.ref qd, .ref ql, .ref qn, .int (nI old), .int (nI us), .int (nI pr)])), (qd, .inl (cb, 480, .inl dk)), (ql, .inl (ci, 40, .inl L)), (qn, .inl (ci, 40, .inl N))] := hD
      have hw : r52 = (nI pr) := hw
      subst hw
      refine lv_goto (tgt := 59) hx hb dX1_count_55 (by decide) ?_
      exact j_iret (v := (nI pr)) (()) hx hb hr hlk hK hP hD hS (by show _ = (if wv = 0 then _ else if wv = 1 then _ else if wv = 2 then _ else if wv = 3 then _ else if wv = 4 then _ else _); rw [if_neg hsw0, if_pos hsw1, if_pos hpw]; exact congrArg nI hR.2.2.2.1) dX1_count_59
  by_cases hsw2 : wv = 2
  · refine lv_tableIn (tgt := 60) hx hb dX1_count_1 (by rw [hsw2]; decide +kernel) (by rw [hsw2]; decide +kernel) (off := 59) (by rw [hsw2]; decide +kernel) (by decide) ?_
    refine lv_aload_n hx hb dX1_count_60 rfl (lv_at hl 0 rfl) ?_
    refine va_get (D := D) (ci := 1) (v := .int (jbi pw)) (C := RX1) (T := TX1) (N := 7) hx hb hts (by decide +kernel) hown hK hP 0 rfl rfl 5 (by decide) (hts (.fieldLink RX1 30 "JournalDesk" "power" "Z") (by decide +kernel)) (fun _ h9 => h9) rfl dX1_count_61 ?_
    refine lv_if_eq (tgt := 77) hx hb dX1_count_64 (by decide) (fun c_64_2 => ?_) (fun c_64_2 => ?_)
    · have hpw : pw = false := jbi_0.mp c_64_2
      refine lv_iconst (v := (nI 0)) hx hb dX1_count_77 (by decide +kernel) ?_
      exact j_iret (v := (nI 0)) (()) hx hb hr hlk hK hP hD hS (by show _ = (if wv = 0 then _ else if wv = 1 then _ else if wv = 2 then _ else if wv = 3 then _ else if wv = 4 then _ else _); rw [if_neg hsw0, if_neg hsw1, if_pos hsw2, if_neg (by rw [hpw]; decide)]; rfl) dX1_count_78
    · have hpw : pw = true := jbi_n0.mp c_64_2
      refine lv_aload_n hx hb dX1_count_67 rfl (lv_at hl 0 rfl) ?_
      refine va_get (D := D) (ci := 1) (v := .ref qr) (C := RX1) (T := TX1) (N := 7) hx hb hts (by decide +kernel) hown hK hP 0 rfl rfl 2 (by decide) (hts (.fieldLink RX1 20 "JournalDesk" "ring" "LJournalDesk$Ring;") (by decide +kernel)) (fun _ h9 => h9) rfl dX1_count_68 ?_
      refine j_calli (wr := [(h0, .inr (1, [.ref qt, .int (nI n), .ref qr, .int nx, .int wh, .int (jbi pw), .int (jbi ct)])), (qt, .inl (cb, 100, .inl tp))]) hP hD hS hA [2, 3, 4, 5] [0, 1] rfl rfl (by decide) (by decide) (va_runV (As := []) (rest := []) ⟨hx, hb, hml, hown, hts⟩ (c_R_sectors l D cb ci cz qr qd ql qn dk L N old us pr H.size) (cwV 0 hts gX1_count_X0_sectors rfl rfl rfl (by decide +kernel) ⟨Nat.le_of_ble_eq_true rfl, Nat.le_of_ble_eq_true rfl⟩) (j_preV (ci := 0) (q0 := 0) [2, 3, 4, 5] [0, 1, 2] hK hP hD rfl rfl rfl rfl rfl rfl) rfl rfl hl.1 rfl (lv_room (Nat.le_of_ble_eq_true rfl)) dX1_count_71 ⟨Nat.le_of_ble_eq_true rfl, Nat.le_of_ble_eq_true rfl⟩) (fun r71 u9 H locs hw hP hD hS => ?_)
      have hP : va_P D vwCl [(h0, .inr (1, [.ref qt, .int (nI n), .ref qr, .int nx, .int wh, .int (jbi pw), .int (jbi ct)])), (qt, .inl (cb, 100, .inl tp)), (qr, .inr (0, [.ref qd, .ref ql, .ref qn, .int (nI old), .int (nI us), .int (nI pr)])), (qd, .inl (cb, 480, .inl dk)), (ql, .inl (ci, 40, .inl L)), (qn, .inl (ci, 40, .inl N))] H := hP
      have hD : va_D A [(h0, .inr (1, [.ref qt, .int (nI n), .ref qr, .int nx, .int wh, .int (jbi pw), .int (jbi ct)])), (qt, .inl (cb, 100, .inl tp)), (qr, .inr (0, [.ref qd, .ref ql, .ref qn, .int (nI old), .int (nI us), .int (nI pr)])), (qd, .inl (cb, 480, .inl dk)), (ql, .inl (ci, 40, .inl L)), (qn, .inl (ci, 40, .inl N))] := hD
      have hw : r71 = (nI us) := hw
      subst hw
      refine lv_goto (tgt := 78) hx hb dX1_count_74 (by decide) ?_
      exact j_iret (v := (nI us)) (()) hx hb hr hlk hK hP hD hS (by show _ = (if wv = 0 then _ else if wv = 1 then _ else if wv = 2 then _ else if wv = 3 then _ else if wv = 4 then _ else _); rw [if_neg hsw0, if_neg hsw1, if_pos hsw2, if_pos hpw]; exact congrArg nI hR.2.1) dX1_count_78
  by_cases hsw3 : wv = 3
  · refine lv_tableIn (tgt := 79) hx hb dX1_count_1 (by rw [hsw3]; decide +kernel) (by rw [hsw3]; decide +kernel) (off := 78) (by rw [hsw3]; decide +kernel) (by decide) ?_
    refine lv_aload_n hx hb dX1_count_79 rfl (lv_at hl 0 rfl) ?_
    refine va_get (D := D) (ci := 1) (v := .int wh) (C := RX1) (T := TX1) (N := 7) hx hb hts (by decide +kernel) hown hK hP 0 rfl rfl 4 (by decide) (hts (.fieldLink RX1 27 "JournalDesk" "wholeEntries" "I") (by decide +kernel)) (fun _ h9 => h9) rfl dX1_count_80 ?_
    exact j_iret (v := wh) (()) hx hb hr hlk hK hP hD hS (by show _ = (if wv = 0 then _ else if wv = 1 then _ else if wv = 2 then _ else if wv = 3 then _ else if wv = 4 then _ else _); rw [if_neg hsw0, if_neg hsw1, if_neg hsw2, if_pos hsw3]) dX1_count_83
  by_cases hsw4 : wv = 4
  · refine lv_tableIn (tgt := 84) hx hb dX1_count_1 (by rw [hsw4]; decide +kernel) (by rw [hsw4]; decide +kernel) (off := 83) (by rw [hsw4]; decide +kernel) (by decide) ?_
    refine lv_aload_n hx hb dX1_count_84 rfl (lv_at hl 0 rfl) ?_
    refine va_get (D := D) (ci := 1) (v := .int (jbi pw)) (C := RX1) (T := TX1) (N := 7) hx hb hts (by decide +kernel) hown hK hP 0 rfl rfl 5 (by decide) (hts (.fieldLink RX1 30 "JournalDesk" "power" "Z") (by decide +kernel)) (fun _ h9 => h9) rfl dX1_count_85 ?_
    refine lv_if_eq (tgt := 95) hx hb dX1_count_88 (by decide) (fun c_88_3 => ?_) (fun c_88_3 => ?_)
    · have hpw : pw = false := jbi_0.mp c_88_3
      refine lv_iconst (v := (nI 0)) hx hb dX1_count_95 (by decide +kernel) ?_
      exact j_iret (v := (nI 0)) (()) hx hb hr hlk hK hP hD hS (by show _ = (if wv = 0 then _ else if wv = 1 then _ else if wv = 2 then _ else if wv = 3 then _ else if wv = 4 then _ else _); rw [if_neg hsw0, if_neg hsw1, if_neg hsw2, if_neg hsw3, if_pos hsw4, hpw]; rfl) dX1_count_96
    · have hpw : pw = true := jbi_n0.mp c_88_3
      refine lv_iconst (v := (nI 1)) hx hb dX1_count_91 (by decide +kernel) ?_
      refine lv_goto (tgt := 96) hx hb dX1_count_92 (by decide) ?_
      exact j_iret (v := (nI 1)) (()) hx hb hr hlk hK hP hD hS (by show _ = (if wv = 0 then _ else if wv = 1 then _ else if wv = 2 then _ else if wv = 3 then _ else if wv = 4 then _ else _); rw [if_neg hsw0, if_neg hsw1, if_neg hsw2, if_neg hsw3, if_pos hsw4, hpw]; rfl) dX1_count_96
  refine lv_tableOut (tgt := 97) hx hb dX1_count_1 (by have a0 := lv_neT (k := 0) (a := 0) hsw0 (by decide +kernel); have a1 := lv_neT (k := 1) (a := 1) hsw1 (by decide +kernel); have a2 := lv_neT (k := 2) (a := 2) hsw2 (by decide +kernel); have a3 := lv_neT (k := 3) (a := 3) hsw3 (by decide +kernel); have a4 := lv_neT (k := 4) (a := 4) hsw4 (by decide +kernel); omega) (by decide) ?_
  refine lv_iconst (v := (-1)) hx hb dX1_count_97 (by decide +kernel) ?_
  exact j_iret (v := (-1)) (()) hx hb hr hlk hK hP hD hS (by show _ = (if wv = 0 then _ else if wv = 1 then _ else if wv = 2 then _ else if wv = 3 then _ else if wv = 4 then _ else _); rw [if_neg hsw0, if_neg hsw1, if_neg hsw2, if_neg hsw3, if_neg hsw4]) dX1_count_98
