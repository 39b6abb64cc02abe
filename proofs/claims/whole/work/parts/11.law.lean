theorem j_lc {x y : Int64} (h : x = y) : lg_cmp x y = 0 := by
  subst h
  simp [lg_cmp]
/-! THE CLAIM OUT OF ONE WALK OF THE LAW'S BODY. Your part is whole_start (and what it stands on); all else here is the same for every law, but numbers. -/
def R_law : String := "JournalDeskLaw"
def lw_P (b : Addr) (xs : List Int32) (args : Array Value) (s : State) : Prop := args = #[.ref b] ∧ s.IntsAt b xs ∧ xs.length ≤ 2048 ∧ (Jvm.Cond.and given_1 narrow_1).before args s = true
def lw_Q (_ : Array Value) (s : State) (o : Outcome) (t : State) : Prop := o = .returned (some (.int 1)) ∧ Framed s o t [] 12 5007
def lw_Z (below : List Frame) (a : Array Value) (s : State) : State → Prop := fun t => ∃ o, t.status = .running ∧ Ended t below o ∧ lw_Q a s o t
/-- the law's own end, with 1 on the stack, nothing written that was there before, its room as the claim has it -/
theorem lw_ret {p : Program} {l : Launch} {e : Env} {s : State} {m : MethodId} {below : List Frame} {meth : Method} {c : Code} {b : Nat} (hx : p.tables.exec = Jvm.exec) (hb : c.code = code) (hr : meth.sig.returnType = ret) (hlocks : meth.locks = false) {pc : Nat} {H : Heap} {ls : Array Slot} (hdg : decode code pc = .ok (.ireturn, 1)) : W p l e room_1 s m #[Value.ref b] below meth c H [] 12 5007 (lw_Z below #[Value.ref b] s) (F0 m pc ls [.int 1]) := by
  intro T hT X
  obtain ⟨fs, hret, hrun, hended, hW, hframe⟩ := X.leave (v := some (.int 1)) (hlocks := hlocks) (fun h => by rw [hr] at h; cases h)
  have hmeth' : T.vm.method? m = some meth := X.method'
  refine ⟨T.setFrames fs, ?_, .returned (some (.int 1)), hrun, hended, rfl, ⟨_, rfl⟩, hW, hframe⟩
  jvm_step X.here [X.here.top, hx, hb, hdg, hmeth', hr, ret, narrow_b1]
  (try refine ⟨rfl, ?_⟩); (try refine ⟨rfl, ?_⟩)
  first | (intro acts; rw [hret _ acts rfl rfl rfl]) | rw [hret _ _ rfl rfl rfl]
  exact Steps.refl _
/-- what holds at the law's entry: the machine, the code, the tables' words (any of lw_tbl by 'hts w (by decide +kernel)'), the script of L ints xs at the cell b, what the Statement gives of the start (any of its parts by flat_of_before) -/
def lw_At (p : Program) (s : State) (m : MethodId) (meth : Method) (c : Code) (b L : Nat) (xs : Nat → Int32) : Prop :=
  p.tables.exec = Jvm.exec ∧ c.code = code ∧ meth.sig.returnType = ret ∧ c.maxLocals = 4 ∧ s.vm.findClass R_law = some m.cls ∧ (∀ w ∈ lw_tbl, w.before #[Value.ref b] s = true) ∧ va_X b L xs s s.heap ∧ b < s.heap.size ∧ meth.locks = false ∧ (Jvm.Cond.and given_1 narrow_1).before #[Value.ref b] s = true
set_option maxHeartbeats 4000000 in
set_option maxRecDepth 100000 in
/-- THE LAW, from its entry -/
theorem whole_start {p : Program} {e : Env} {s : State} {m : MethodId} {below : List Frame} {meth : Method} {c : Code} (l : Launch) {b L : Nat} {xs : Nat → Int32} (hL : L ≤ 2048) (C0 : lw_At p s m meth c b L xs) : W p l e room_1 s m #[Value.ref b] below meth c s.heap [] 0 0 (lw_Z below #[Value.ref b] s) (entryFrame m ([Value.ref b] : List Value).toArray 4) := by
  obtain ⟨hx, hb, hr, hml, hown0, hts, hX, hbl, hlocks, hgv⟩ := C0
  have htsL : ∀ w ∈ wsL_law, w.before #[Value.ref b] s = true := fun w h => hts w (wsL_law_in w h)
  have hown : s.vm.findClass RL = some m.cls := hown0
  obtain ⟨A, hAe⟩ : ∃ A : Nat → Prop, A = fun q : Nat => s.heap.size ≤ q := ⟨_, rfl⟩
  have hA : ∀ q : Nat, s.heap.size ≤ q → A q := fun q h => by rw [hAe]; exact h
  have hAs : ∀ q : Nat, A q → s.heap.size ≤ q := fun q h => by rw [hAe] at h; exact h
  have hbA : ¬ A b := fun h => absurd (hAs b h) (Nat.not_le.mpr hbl)
  obtain ⟨c0, iS0, hKn0⟩ := u_known (C := RX0) (T := TX0) (N := 6) (n := 6) hts inX0 (hts (.instantiable RX0 6) (by decide +kernel))
  obtain ⟨c1, iS1, hKn1⟩ := u_known (C := RX1) (T := TX1) (N := 7) (n := 7) hts inX1 (hts (.instantiable RX1 7) (by decide +kernel))
  obtain ⟨c2, iS2, hKn2⟩ := u_known (C := RX2) (T := TX2) (N := 11) (n := 11) hts inX2 (hts (.instantiable RX2 11) (by decide +kernel))
  obtain ⟨D, hKc⟩ : ∃ D : va_G, ∀ (k : Nat) (q : vw_C), vwCl[k]? = some q → u_Kn s q.1 q.2.1 q.2.2 (D.1 k) (D.2 k) := by
    refine ⟨(fun k => if k = 0 then c0 else if k = 1 then c1 else c2, fun k => if k = 0 then iS0 else if k = 1 then iS1 else iS2), ?_⟩
    intro k q hq
    match k, hq with
    | 0, hq => cases hq; exact hKn0
    | 1, hq => cases hq; exact hKn1
    | 2, hq => cases hq; exact hKn2
    | k + 3, hq => simp [vwCl] at hq
  obtain ⟨cb, hb1, hb2⟩ := j_arr (hts (.arrayClass .byte) (by decide +kernel))
  obtain ⟨ci, hi1, hi2⟩ := j_arr (hts (.arrayClass .int) (by decide +kernel))
  obtain ⟨cz, hz1, hz2⟩ := j_arr (hts (.arrayClass .boolean) (by decide +kernel))
  have hK : va_K D vwCl (jT cb ci cz) s := ⟨hKc, fun k q h => by
    match k, h with
    | 0, h => cases h; exact ⟨hb1, hb2⟩
    | 1, h => cases h; exact ⟨hi1, hi2⟩
    | 2, h => cases h; exact ⟨hz1, hz2⟩
    | k + 3, h => simp [jT] at h⟩
  have hS : va_S A s.heap s.heap [] := va_S.rf
  have hP : va_P D vwCl [] s.heap := fun k q h => by simp at h
  have hD : va_D A [] := ⟨fun i j p q h => by simp at h, fun k q h => by simp at h⟩
  have hl := lv_entry ([.ref b]) (n := 4) (Nat.le_of_ble_eq_true rfl)
  rw [lg_entry_eq]
  generalize (lg_sl ([.ref b]) ++ List.replicate (4 - (lg_sl ([.ref b])).length) Slot.unset).toArray = ls at hl ⊢
  have hl : lv_has ls 4 [(0, .ref b)] := hl
  refine va_new (ci := 1) (fs := [.null, .int 0, .null, .int 0, .int 0, .int 0, .int 0]) (C := RX1) (T := TX1) (N := 7) hx hb hts inX1 tyX1 tyX1_ok hown (hts (.classLink RL 7 RX1) (by decide +kernel)) (hts (.instantiable RX1 7) (by decide +kernel)) (hts (.initialized RX1) (by decide +kernel)) hK hP hD hS hA rfl (by decide +kernel) (Nat.le_of_ble_eq_true rfl) (Nat.le_of_ble_eq_true rfl) dL_law_0 (fun h0 H hP hD hS => ?_)
  have hP : va_P D vwCl [(h0, .inr (1, [.null, .int 0, .null, .int 0, .int 0, .int 0, .int 0]))] H := hP
  have hD : va_D A [(h0, .inr (1, [.null, .int 0, .null, .int 0, .int 0, .int 0, .int 0]))] := hD
  refine W.widen (k := 1) (n := 7) (Nat.le_of_ble_eq_true rfl) (Nat.le_of_ble_eq_true rfl) ?_
  refine lv_dup hx hb dL_law_3 rfl ?_
  refine j_callv (wr := []) hP hD hS hA [0] [] rfl rfl (by decide) (by decide) (va_runI (As := []) (rest := [.ref h0]) ⟨hx, hb, hml, hown, htsL⟩ (c_D_init l D cb ci cz h0 H.size) (cwI 0 htsL gL_law_X1_init rfl rfl rfl (hts (.initialized RX1) (by decide +kernel)) (hts (.methodLink RL 9 yX1_init) (by decide +kernel)) (hts (.instanceMethod yX1_init) (by decide +kernel)) rfl (by decide +kernel) ⟨Nat.le_of_ble_eq_true rfl, Nat.le_of_ble_eq_true rfl⟩) (j_preS [0] [0, 1, 2] hK hP hD rfl rfl rfl rfl) rfl rfl hl.1 rfl (lv_room (Nat.le_of_ble_eq_true rfl)) dL_law_4 ⟨Nat.le_of_ble_eq_true rfl, Nat.le_of_ble_eq_true rfl⟩) (fun u9 H locs hw hP hD hS => ?_)
  obtain ⟨qt, qr, qd, ql, qn⟩ := u9
  have hP : va_P D vwCl (jDw h0 qt qr qd ql qn cb ci ((fun _ => 0), (fun _ => 0), (fun _ => 0), (fun _ => 0), 0, 0, 0, 0, 0, 0, 1, 0)) H := hP
  have hD : va_D A (jDw h0 qt qr qd ql qn cb ci ((fun _ => 0), (fun _ => 0), (fun _ => 0), (fun _ => 0), 0, 0, 0, 0, 0, 0, 1, 0)) := hD
  refine W.widen (k := 6) (n := 673) (Nat.le_of_ble_eq_true rfl) (Nat.le_of_ble_eq_true rfl) ?_
  refine lv_astore_n (lv' := [(1, .ref h0), (0, .ref b)]) hx hb dL_law_7 rfl hl (by decide) rfl (fun ls hl => ?_)
  refine va_new (ci := 2) (fs := [.null, .int 0, .int 0, .null, .null, .null, .null, .int 0, .int 0, .int 0, .int 0]) (C := RX2) (T := TX2) (N := 11) hx hb hts inX2 tyX2 tyX2_ok hown (hts (.classLink RL 10 RX2) (by decide +kernel)) (hts (.instantiable RX2 11) (by decide +kernel)) (hts (.initialized RX2) (by decide +kernel)) hK hP hD hS hA rfl (by decide +kernel) (Nat.le_of_ble_eq_true rfl) (Nat.le_of_ble_eq_true rfl) dL_law_8 (fun g0 H hP hD hS => ?_)
  have hP : va_P D vwCl ((jDw h0 qt qr qd ql qn cb ci ((fun _ => 0), (fun _ => 0), (fun _ => 0), (fun _ => 0), 0, 0, 0, 0, 0, 0, 1, 0)) ++ [(g0, .inr (2, [.null, .int 0, .int 0, .null, .null, .null, .null, .int 0, .int 0, .int 0, .int 0]))]) H := hP
  have hD : va_D A ((jDw h0 qt qr qd ql qn cb ci ((fun _ => 0), (fun _ => 0), (fun _ => 0), (fun _ => 0), 0, 0, 0, 0, 0, 0, 1, 0)) ++ [(g0, .inr (2, [.null, .int 0, .int 0, .null, .null, .null, .null, .int 0, .int 0, .int 0, .int 0]))]) := hD
  refine W.widen (k := 7) (n := 684) (Nat.le_of_ble_eq_true rfl) (Nat.le_of_ble_eq_true rfl) ?_
  refine lv_dup hx hb dL_law_11 rfl ?_
  refine j_callv (wr := (jDw h0 qt qr qd ql qn cb ci ((fun _ => 0), (fun _ => 0), (fun _ => 0), (fun _ => 0), 0, 0, 0, 0, 0, 0, 1, 0))) hP hD hS hA [6] [0, 1, 2, 3, 4, 5] rfl rfl (by decide) (by decide) (va_runI (As := []) (rest := [.ref g0]) ⟨hx, hb, hml, hown, htsL⟩ (c_M_init l D cb ci cz g0 H.size) (cwI 0 htsL gL_law_X2_init rfl rfl rfl (hts (.initialized RX2) (by decide +kernel)) (hts (.methodLink RL 12 yX2_init) (by decide +kernel)) (hts (.instanceMethod yX2_init) (by decide +kernel)) rfl (by decide +kernel) ⟨Nat.le_of_ble_eq_true rfl, Nat.le_of_ble_eq_true rfl⟩) (j_preS [6] [0, 1, 2] hK hP hD rfl rfl rfl rfl) rfl rfl hl.1 rfl (lv_room (Nat.le_of_ble_eq_true rfl)) dL_law_12 ⟨Nat.le_of_ble_eq_true rfl, Nat.le_of_ble_eq_true rfl⟩) (fun u9 H locs hw hP hD hS => ?_)
  obtain ⟨mt, mb, mz, mn, my⟩ := u9
  have hP : va_P D vwCl ((jDw h0 qt qr qd ql qn cb ci ((fun _ => 0), (fun _ => 0), (fun _ => 0), (fun _ => 0), 0, 0, 0, 0, 0, 0, 1, 0)) ++ (jMw g0 mt mb mz mn my ci cz ((fun _ => 0), (fun _ => 0), (fun _ => 0), (fun _ => 0), (fun _ => 0), 0, 0, 0, 0, 0, -1))) H := hP
  have hD : va_D A ((jDw h0 qt qr qd ql qn cb ci ((fun _ => 0), (fun _ => 0), (fun _ => 0), (fun _ => 0), 0, 0, 0, 0, 0, 0, 1, 0)) ++ (jMw g0 mt mb mz mn my ci cz ((fun _ => 0), (fun _ => 0), (fun _ => 0), (fun _ => 0), (fun _ => 0), 0, 0, 0, 0, 0, -1))) := hD
  refine W.widen (k := 12) (n := 5007) (Nat.le_of_ble_eq_true rfl) (Nat.le_of_ble_eq_true rfl) ?_
  refine lv_astore_n (lv' := [(2, .ref g0), (1, .ref h0), (0, .ref b)]) hx hb dL_law_15 rfl hl (by decide) rfl (fun ls hl => ?_)
  refine lv_iconst (v := nI 0) hx hb dL_law_16 (by decide +kernel) ?_
  refine lv_istore_n (lv' := [(3, .int (nI 0)), (2, .ref g0), (1, .ref h0), (0, .ref b)]) hx hb dL_law_17 rfl hl (by decide) rfl (fun ls hl => ?_)
  have LOOP : ∀ (fuel i : Nat) (M : jM) (a : jDt) (a1 : jMt) (hf : L < i + fuel) (hi : i ≤ L) (hDk : jDk M a) (hMk : jMk M a1) (H : Heap) (locs : List Loc), va_P D vwCl ((jDw h0 qt qr qd ql qn cb ci a) ++ (jMw g0 mt mb mz mn my ci cz a1)) H → va_D A ((jDw h0 qt qr qd ql qn cb ci a) ++ (jMw g0 mt mb mz mn my ci cz a1)) → va_S A s.heap H locs → ∀ ls : Array Slot, lv_has ls 4 [(0, .ref b), (1, .ref h0), (2, .ref g0), (3, .int (nI i))] → W p l e room_1 s m #[Value.ref b] below meth c H locs 12 5007 (lw_Z below #[Value.ref b] s) (F0 m 18 ls []) := by
    clear hP hD hS hl
    intro fuel
    induction fuel with
    | zero => intro i M a a1 hf hi; exfalso; omega
    | succ fuel ih =>
      intro i M a a1 hf hi hDk hMk H locs hP hD hS ls hl
      refine lv_iload_n hx hb dL_law_18 rfl (lv_at hl 3 rfl) ?_
      refine lv_aload_n hx hb dL_law_19 rfl (lv_at hl 0 rfl) ?_
      refine va_slen hx hb hX hbl hbA hS dL_law_20 ?_
      refine jt_i (y := nI L) (rfl) ?_
      refine lv_iconst (v := (nI 4)) hx hb dL_law_21 (by decide +kernel) ?_
      refine lv_isub hx hb dL_law_22 ?_
      refine jt_i (y := ((nI L) - (nI 4))) (rfl) ?_
      refine lv_icmp_gt (tgt := 311) hx hb dL_law_23 (by decide) (fun c_23 => ?_) (fun c_23 => ?_)
      · refine lv_iconst (v := 1) hx hb dL_law_311 (by decide) ?_
        refine va_forget (fun q hq => hAs _ (hS.2.2 q hq)) ?_
        exact lw_ret hx hb hr hlocks dL_law_312
      · have hi4 : i + 4 ≤ L := (j_l4 (by omega) (by omega)).mp (Int32.not_lt.mp c_23)
        refine lv_aload_n hx hb dL_law_26 rfl (lv_at hl 0 rfl) ?_
        refine lv_iload_n hx hb dL_law_27 rfl (lv_at hl 3 rfl) ?_
        refine va_sld hx hb hX hbl hbA hS (vp_in_nI (show i < L by omega) (by omega)) dL_law_28 ?_
        refine jt_i (y := (xs i)) (by rw [nI_clamp (by omega)]) ?_
        refine lv_bipush (v := (nI 7)) hx hb dL_law_29 (by decide +kernel) ?_
        refine lv_iand hx hb dL_law_31 ?_
        obtain ⟨sw, hsw, esw⟩ := pk_andE (xs i) (m := nI 7) 3 (by decide +kernel)
        refine jt_i (y := nI sw) esw ?_
        rcases (show sw = 0 ∨ sw = 1 ∨ sw = 2 ∨ sw = 3 ∨ sw = 4 ∨ sw = 5 ∨ sw = 6 ∨ sw = 7 by omega) with h8 | h8 | h8 | h8 | h8 | h8 | h8 | h8
        · refine lv_tableIn (tgt := 80) hx hb dL_law_32 (by rw [h8]; decide +kernel) (by rw [h8]; decide +kernel) (off := 48) (by rw [h8]; decide +kernel) (by decide) ?_
          refine lv_aload_n hx hb dL_law_80 rfl (lv_at hl 1 rfl) ?_
          refine lv_aload_n hx hb dL_law_81 rfl (lv_at hl 0 rfl) ?_
          refine lv_iload_n hx hb dL_law_82 rfl (lv_at hl 3 rfl) ?_
          refine lv_iconst (v := (nI 1)) hx hb dL_law_83 (by decide +kernel) ?_
          refine lv_iadd hx hb dL_law_84 ?_
          refine jt_i (y := (nI (i + 1))) (nI_add _ _) ?_
          refine va_sld hx hb hX hbl hbA hS (vp_in_nI (show i + 1 < L by omega) (by omega)) dL_law_85 ?_
          refine jt_i (y := (xs (i + 1))) (by rw [nI_clamp (by omega)]) ?_
          refine lv_i2l hx hb dL_law_86 rfl ?_
          refine lv_bipush (v := (nI 32)) hx hb dL_law_87 (by decide +kernel) ?_
          refine lv_lshl hx hb dL_law_89 rfl ?_
          refine lv_aload_n hx hb dL_law_90 rfl (lv_at hl 0 rfl) ?_
          refine lv_iload_n hx hb dL_law_91 rfl (lv_at hl 3 rfl) ?_
          refine lv_iconst (v := (nI 2)) hx hb dL_law_92 (by decide +kernel) ?_
          refine lv_iadd hx hb dL_law_93 ?_
          refine jt_i (y := (nI (i + 2))) (nI_add _ _) ?_
          refine va_sld hx hb hX hbl hbA hS (vp_in_nI (show i + 2 < L by omega) (by omega)) dL_law_94 ?_
          refine jt_i (y := (xs (i + 2))) (by rw [nI_clamp (by omega)]) ?_
          refine lv_i2l hx hb dL_law_95 rfl ?_
          refine lv_ldc2 (v := (4294967295)) hx hb hown (hts (.constantLong RL 13 (4294967295)) (by decide +kernel)) dL_law_96 ?_
          refine lv_land hx hb dL_law_99 ?_
          refine lv_lor hx hb dL_law_100 ?_
          refine lv_aload_n hx hb dL_law_101 rfl (lv_at hl 0 rfl) ?_
          refine lv_iload_n hx hb dL_law_102 rfl (lv_at hl 3 rfl) ?_
          refine lv_iconst (v := (nI 3)) hx hb dL_law_103 (by decide +kernel) ?_
          refine lv_iadd hx hb dL_law_104 ?_
          refine jt_i (y := (nI (i + 3))) (nI_add _ _) ?_
          refine va_sld hx hb hX hbl hbA hS (vp_in_nI (show i + 3 < L by omega) (by omega)) dL_law_105 ?_
          refine jt_i (y := (xs (i + 3))) (by rw [nI_clamp (by omega)]) ?_
          refine j_calli (wr := (jMw g0 mt mb mz mn my ci cz a1)) hP hD hS hA [0, 1, 2, 3, 4, 5] [6, 7, 8, 9, 10, 11] rfl rfl (by decide) (by decide) (va_runV (As := [.long ((((xs (i + 1)).toInt64) <<< ((nI 32).toInt64 &&& 63)) ||| (((xs (i + 2)).toInt64) &&& (4294967295))), .int (xs (i + 3))]) (rest := []) ⟨hx, hb, hml, hown, htsL⟩ (w_D_put l D cb ci cz h0 qt qr qd ql qn M a hDk ((((xs (i + 1)).toInt64) <<< ((nI 32).toInt64 &&& 63)) ||| (((xs (i + 2)).toInt64) &&& (4294967295))) (xs (i + 3)) H.size) (cwV 2 htsL gL_law_X1_put rfl rfl rfl (by decide +kernel) ⟨Nat.le_of_ble_eq_true rfl, Nat.le_of_ble_eq_true rfl⟩) (j_preV (ci := 1) (q0 := 0) [0, 1, 2, 3, 4, 5] [0, 1, 2] hK hP hD rfl rfl rfl rfl rfl rfl) rfl rfl hl.1 rfl (lv_room (Nat.le_of_ble_eq_true rfl)) dL_law_106 ⟨Nat.le_of_ble_eq_true rfl, Nat.le_of_ble_eq_true rfl⟩) (fun r106 a2 H locs hw1 hP hD hS => ?_)
          have hP : va_P D vwCl ((jMw g0 mt mb mz mn my ci cz a1) ++ (jDw h0 qt qr qd ql qn cb ci a2)) H := hP
          have hD : va_D A ((jMw g0 mt mb mz mn my ci cz a1) ++ (jDw h0 qt qr qd ql qn cb ci a2)) := hD
          refine lv_aload_n hx hb dL_law_109 rfl (lv_at hl 2 rfl) ?_
          refine lv_aload_n hx hb dL_law_110 rfl (lv_at hl 0 rfl) ?_
          refine lv_iload_n hx hb dL_law_111 rfl (lv_at hl 3 rfl) ?_
          refine lv_iconst (v := (nI 1)) hx hb dL_law_112 (by decide +kernel) ?_
          refine lv_iadd hx hb dL_law_113 ?_
          refine jt_i (y := (nI (i + 1))) (nI_add _ _) ?_
          refine va_sld hx hb hX hbl hbA hS (vp_in_nI (show i + 1 < L by omega) (by omega)) dL_law_114 ?_
          refine jt_i (y := (xs (i + 1))) (by rw [nI_clamp (by omega)]) ?_
          refine lv_i2l hx hb dL_law_115 rfl ?_
          refine lv_bipush (v := (nI 32)) hx hb dL_law_116 (by decide +kernel) ?_
          refine lv_lshl hx hb dL_law_118 rfl ?_
          refine lv_aload_n hx hb dL_law_119 rfl (lv_at hl 0 rfl) ?_
          refine lv_iload_n hx hb dL_law_120 rfl (lv_at hl 3 rfl) ?_
          refine lv_iconst (v := (nI 2)) hx hb dL_law_121 (by decide +kernel) ?_
          refine lv_iadd hx hb dL_law_122 ?_
          refine jt_i (y := (nI (i + 2))) (nI_add _ _) ?_
          refine va_sld hx hb hX hbl hbA hS (vp_in_nI (show i + 2 < L by omega) (by omega)) dL_law_123 ?_
          refine jt_i (y := (xs (i + 2))) (by rw [nI_clamp (by omega)]) ?_
          refine lv_i2l hx hb dL_law_124 rfl ?_
          refine lv_ldc2 (v := (4294967295)) hx hb hown (hts (.constantLong RL 13 (4294967295)) (by decide +kernel)) dL_law_125 ?_
          refine lv_land hx hb dL_law_128 ?_
          refine lv_lor hx hb dL_law_129 ?_
          refine lv_aload_n hx hb dL_law_130 rfl (lv_at hl 0 rfl) ?_
          refine lv_iload_n hx hb dL_law_131 rfl (lv_at hl 3 rfl) ?_
          refine lv_iconst (v := (nI 3)) hx hb dL_law_132 (by decide +kernel) ?_
          refine lv_iadd hx hb dL_law_133 ?_
          refine jt_i (y := (nI (i + 3))) (nI_add _ _) ?_
          refine va_sld hx hb hX hbl hbA hS (vp_in_nI (show i + 3 < L by omega) (by omega)) dL_law_134 ?_
          refine jt_i (y := (xs (i + 3))) (by rw [nI_clamp (by omega)]) ?_
          refine j_calli (wr := (jDw h0 qt qr qd ql qn cb ci a2)) hP hD hS hA [0, 1, 2, 3, 4, 5] [6, 7, 8, 9, 10, 11] rfl rfl (by decide) (by decide) (va_runV (As := [.long ((((xs (i + 1)).toInt64) <<< ((nI 32).toInt64 &&& 63)) ||| (((xs (i + 2)).toInt64) &&& (4294967295))), .int (xs (i + 3))]) (rest := [.int r106]) ⟨hx, hb, hml, hown, htsL⟩ (w_M_put l D cb ci cz g0 mt mb mz mn my M a1 hMk ((((xs (i + 1)).toInt64) <<< ((nI 32).toInt64 &&& 63)) ||| (((xs (i + 2)).toInt64) &&& (4294967295))) (xs (i + 3)) H.size) (cwV 2 htsL gL_law_X2_put rfl rfl rfl (by decide +kernel) ⟨Nat.le_of_ble_eq_true rfl, Nat.le_of_ble_eq_true rfl⟩) (j_preV (ci := 2) (q0 := 0) [0, 1, 2, 3, 4, 5] [0, 1, 2] hK hP hD rfl rfl rfl rfl rfl rfl) rfl rfl hl.1 rfl (lv_room (Nat.le_of_ble_eq_true rfl)) dL_law_135 ⟨Nat.le_of_ble_eq_true rfl, Nat.le_of_ble_eq_true rfl⟩) (fun r135 a3 H locs hw2 hP hD hS => ?_)
          have hP : va_P D vwCl ((jDw h0 qt qr qd ql qn cb ci a2) ++ (jMw g0 mt mb mz mn my ci cz a3)) H := hP
          have hD : va_D A ((jDw h0 qt qr qd ql qn cb ci a2) ++ (jMw g0 mt mb mz mn my ci cz a3)) := hD
          refine lv_icmp_eq (tgt := 305) hx hb dL_law_138 (by decide) (fun c_9 => ?_) (fun c_9 => ?_)
          · refine lv_iinc (v := (nI (i + 4))) (lv' := [(3, .int (nI (i + 4))), (0, .ref b), (1, .ref h0), (2, .ref g0)]) hx hb dL_law_305 hl (k := 3) rfl (nI_add i 4) (by decide) rfl (fun ls hl => ?_)
            refine lv_goto (tgt := 18) hx hb dL_law_308 (by decide) ?_
            exact ih (i + 4) (jop_pt M ((((xs (i + 1)).toInt64) <<< ((nI 32).toInt64 &&& 63)) ||| (((xs (i + 2)).toInt64) &&& (4294967295))) (xs (i + 3))).2 a2 a3 (by omega) (by omega) hw1.2 hw2.2 _ _ hP hD hS ls (lv_sub hl [1, 2, 3, 0] rfl)
          · exact absurd (hw1.1.trans hw2.1.symm) c_9
        · refine lv_tableIn (tgt := 143) hx hb dL_law_32 (by rw [h8]; decide +kernel) (by rw [h8]; decide +kernel) (off := 111) (by rw [h8]; decide +kernel) (by decide) ?_
          refine lv_aload_n hx hb dL_law_143 rfl (lv_at hl 1 rfl) ?_
          refine j_calli (wr := (jMw g0 mt mb mz mn my ci cz a1)) hP hD hS hA [0, 1, 2, 3, 4, 5] [6, 7, 8, 9, 10, 11] rfl rfl (by decide) (by decide) (va_runV (As := []) (rest := []) ⟨hx, hb, hml, hown, htsL⟩ (w_D_write l D cb ci cz h0 qt qr qd ql qn M a hDk  H.size) (cwV 0 htsL gL_law_X1_write rfl rfl rfl (by decide +kernel) ⟨Nat.le_of_ble_eq_true rfl, Nat.le_of_ble_eq_true rfl⟩) (j_preV (ci := 1) (q0 := 0) [0, 1, 2, 3, 4, 5] [0, 1, 2] hK hP hD rfl rfl rfl rfl rfl rfl) rfl rfl hl.1 rfl (lv_room (Nat.le_of_ble_eq_true rfl)) dL_law_144 ⟨Nat.le_of_ble_eq_true rfl, Nat.le_of_ble_eq_true rfl⟩) (fun r144 a2 H locs hw1 hP hD hS => ?_)
          have hP : va_P D vwCl ((jMw g0 mt mb mz mn my ci cz a1) ++ (jDw h0 qt qr qd ql qn cb ci a2)) H := hP
          have hD : va_D A ((jMw g0 mt mb mz mn my ci cz a1) ++ (jDw h0 qt qr qd ql qn cb ci a2)) := hD
          refine lv_aload_n hx hb dL_law_147 rfl (lv_at hl 2 rfl) ?_
          refine j_calli (wr := (jDw h0 qt qr qd ql qn cb ci a2)) hP hD hS hA [0, 1, 2, 3, 4, 5] [6, 7, 8, 9, 10, 11] rfl rfl (by decide) (by decide) (va_runV (As := []) (rest := [.int r144]) ⟨hx, hb, hml, hown, htsL⟩ (w_M_write l D cb ci cz g0 mt mb mz mn my M a1 hMk  H.size) (cwV 0 htsL gL_law_X2_write rfl rfl rfl (by decide +kernel) ⟨Nat.le_of_ble_eq_true rfl, Nat.le_of_ble_eq_true rfl⟩) (j_preV (ci := 2) (q0 := 0) [0, 1, 2, 3, 4, 5] [0, 1, 2] hK hP hD rfl rfl rfl rfl rfl rfl) rfl rfl hl.1 rfl (lv_room (Nat.le_of_ble_eq_true rfl)) dL_law_148 ⟨Nat.le_of_ble_eq_true rfl, Nat.le_of_ble_eq_true rfl⟩) (fun r148 a3 H locs hw2 hP hD hS => ?_)
          have hP : va_P D vwCl ((jDw h0 qt qr qd ql qn cb ci a2) ++ (jMw g0 mt mb mz mn my ci cz a3)) H := hP
          have hD : va_D A ((jDw h0 qt qr qd ql qn cb ci a2) ++ (jMw g0 mt mb mz mn my ci cz a3)) := hD
          refine lv_icmp_eq (tgt := 305) hx hb dL_law_151 (by decide) (fun c_9 => ?_) (fun c_9 => ?_)
          · refine lv_iinc (v := (nI (i + 4))) (lv' := [(3, .int (nI (i + 4))), (0, .ref b), (1, .ref h0), (2, .ref g0)]) hx hb dL_law_305 hl (k := 3) rfl (nI_add i 4) (by decide) rfl (fun ls hl => ?_)
            refine lv_goto (tgt := 18) hx hb dL_law_308 (by decide) ?_
            exact ih (i + 4) (jop_wr M).2 a2 a3 (by omega) (by omega) hw1.2 hw2.2 _ _ hP hD hS ls (lv_sub hl [1, 2, 3, 0] rfl)
          · exact absurd (hw1.1.trans hw2.1.symm) c_9
        · refine lv_tableIn (tgt := 156) hx hb dL_law_32 (by rw [h8]; decide +kernel) (by rw [h8]; decide +kernel) (off := 124) (by rw [h8]; decide +kernel) (by decide) ?_
          refine lv_aload_n hx hb dL_law_156 rfl (lv_at hl 1 rfl) ?_
          refine lv_aload_n hx hb dL_law_157 rfl (lv_at hl 0 rfl) ?_
          refine lv_iload_n hx hb dL_law_158 rfl (lv_at hl 3 rfl) ?_
          refine lv_iconst (v := (nI 1)) hx hb dL_law_159 (by decide +kernel) ?_
          refine lv_iadd hx hb dL_law_160 ?_
          refine jt_i (y := (nI (i + 1))) (nI_add _ _) ?_
          refine va_sld hx hb hX hbl hbA hS (vp_in_nI (show i + 1 < L by omega) (by omega)) dL_law_161 ?_
          refine jt_i (y := (xs (i + 1))) (by rw [nI_clamp (by omega)]) ?_
          refine j_calli (wr := (jMw g0 mt mb mz mn my ci cz a1)) hP hD hS hA [0, 1, 2, 3, 4, 5] [6, 7, 8, 9, 10, 11] rfl rfl (by decide) (by decide) (va_runV (As := [.int (xs (i + 1))]) (rest := []) ⟨hx, hb, hml, hown, htsL⟩ (w_D_drop l D cb ci cz h0 qt qr qd ql qn M a hDk (xs (i + 1)) H.size) (cwV 1 htsL gL_law_X1_drop rfl rfl rfl (by decide +kernel) ⟨Nat.le_of_ble_eq_true rfl, Nat.le_of_ble_eq_true rfl⟩) (j_preV (ci := 1) (q0 := 0) [0, 1, 2, 3, 4, 5] [0, 1, 2] hK hP hD rfl rfl rfl rfl rfl rfl) rfl rfl hl.1 rfl (lv_room (Nat.le_of_ble_eq_true rfl)) dL_law_162 ⟨Nat.le_of_ble_eq_true rfl, Nat.le_of_ble_eq_true rfl⟩) (fun r162 a2 H locs hw1 hP hD hS => ?_)
          have hP : va_P D vwCl ((jMw g0 mt mb mz mn my ci cz a1) ++ (jDw h0 qt qr qd ql qn cb ci a2)) H := hP
          have hD : va_D A ((jMw g0 mt mb mz mn my ci cz a1) ++ (jDw h0 qt qr qd ql qn cb ci a2)) := hD
          refine lv_aload_n hx hb dL_law_165 rfl (lv_at hl 2 rfl) ?_
          refine lv_aload_n hx hb dL_law_166 rfl (lv_at hl 0 rfl) ?_
          refine lv_iload_n hx hb dL_law_167 rfl (lv_at hl 3 rfl) ?_
          refine lv_iconst (v := (nI 1)) hx hb dL_law_168 (by decide +kernel) ?_
          refine lv_iadd hx hb dL_law_169 ?_
          refine jt_i (y := (nI (i + 1))) (nI_add _ _) ?_
          refine va_sld hx hb hX hbl hbA hS (vp_in_nI (show i + 1 < L by omega) (by omega)) dL_law_170 ?_
          refine jt_i (y := (xs (i + 1))) (by rw [nI_clamp (by omega)]) ?_
          refine j_calli (wr := (jDw h0 qt qr qd ql qn cb ci a2)) hP hD hS hA [0, 1, 2, 3, 4, 5] [6, 7, 8, 9, 10, 11] rfl rfl (by decide) (by decide) (va_runV (As := [.int (xs (i + 1))]) (rest := [.int r162]) ⟨hx, hb, hml, hown, hts⟩ (w_M_drop l D cb ci cz g0 mt mb mz mn my M a1 hMk (xs (i + 1)) H.size) (cwV 1 hts hqL_X2_drop rfl rfl rfl (by decide +kernel) ⟨Nat.le_of_ble_eq_true rfl, Nat.le_of_ble_eq_true rfl⟩) (j_preV (ci := 2) (q0 := 0) [0, 1, 2, 3, 4, 5] [0, 1, 2] hK hP hD rfl rfl rfl rfl rfl rfl) rfl rfl hl.1 rfl (lv_room (Nat.le_of_ble_eq_true rfl)) dL_law_171 ⟨Nat.le_of_ble_eq_true rfl, Nat.le_of_ble_eq_true rfl⟩) (fun r171 a3 H locs hw2 hP hD hS => ?_)
          have hP : va_P D vwCl ((jDw h0 qt qr qd ql qn cb ci a2) ++ (jMw g0 mt mb mz mn my ci cz a3)) H := hP
          have hD : va_D A ((jDw h0 qt qr qd ql qn cb ci a2) ++ (jMw g0 mt mb mz mn my ci cz a3)) := hD
          refine lv_icmp_eq (tgt := 305) hx hb dL_law_174 (by decide) (fun c_9 => ?_) (fun c_9 => ?_)
          · refine lv_iinc (v := (nI (i + 4))) (lv' := [(3, .int (nI (i + 4))), (0, .ref b), (1, .ref h0), (2, .ref g0)]) hx hb dL_law_305 hl (k := 3) rfl (nI_add i 4) (by decide) rfl (fun ls hl => ?_)
            refine lv_goto (tgt := 18) hx hb dL_law_308 (by decide) ?_
            exact ih (i + 4) (jop_dr M (xs (i + 1))).2 a2 a3 (by omega) (by omega) hw1.2 hw2.2 _ _ hP hD hS ls (lv_sub hl [1, 2, 3, 0] rfl)
          · exact absurd (hw1.1.trans hw2.1.symm) c_9
        · refine lv_tableIn (tgt := 179) hx hb dL_law_32 (by rw [h8]; decide +kernel) (by rw [h8]; decide +kernel) (off := 147) (by rw [h8]; decide +kernel) (by decide) ?_
          refine lv_aload_n hx hb dL_law_179 rfl (lv_at hl 1 rfl) ?_
          refine lv_aload_n hx hb dL_law_180 rfl (lv_at hl 0 rfl) ?_
          refine lv_iload_n hx hb dL_law_181 rfl (lv_at hl 3 rfl) ?_
          refine lv_iconst (v := (nI 1)) hx hb dL_law_182 (by decide +kernel) ?_
          refine lv_iadd hx hb dL_law_183 ?_
          refine jt_i (y := (nI (i + 1))) (nI_add _ _) ?_
          refine va_sld hx hb hX hbl hbA hS (vp_in_nI (show i + 1 < L by omega) (by omega)) dL_law_184 ?_
          refine jt_i (y := (xs (i + 1))) (by rw [nI_clamp (by omega)]) ?_
          refine j_calli (wr := (jMw g0 mt mb mz mn my ci cz a1)) hP hD hS hA [0, 1, 2, 3, 4, 5] [6, 7, 8, 9, 10, 11] rfl rfl (by decide) (by decide) (va_runV (As := [.int (xs (i + 1))]) (rest := []) ⟨hx, hb, hml, hown, htsL⟩ (w_D_cut l D cb ci cz h0 qt qr qd ql qn M a hDk (xs (i + 1)) H.size) (cwV 1 htsL gL_law_X1_cut rfl rfl rfl (by decide +kernel) ⟨Nat.le_of_ble_eq_true rfl, Nat.le_of_ble_eq_true rfl⟩) (j_preV (ci := 1) (q0 := 0) [0, 1, 2, 3, 4, 5] [0, 1, 2] hK hP hD rfl rfl rfl rfl rfl rfl) rfl rfl hl.1 rfl (lv_room (Nat.le_of_ble_eq_true rfl)) dL_law_185 ⟨Nat.le_of_ble_eq_true rfl, Nat.le_of_ble_eq_true rfl⟩) (fun r185 a2 H locs hw1 hP hD hS => ?_)
          have hP : va_P D vwCl ((jMw g0 mt mb mz mn my ci cz a1) ++ (jDw h0 qt qr qd ql qn cb ci a2)) H := hP
          have hD : va_D A ((jMw g0 mt mb mz mn my ci cz a1) ++ (jDw h0 qt qr qd ql qn cb ci a2)) := hD
          refine lv_aload_n hx hb dL_law_188 rfl (lv_at hl 2 rfl) ?_
          refine lv_aload_n hx hb dL_law_189 rfl (lv_at hl 0 rfl) ?_
          refine lv_iload_n hx hb dL_law_190 rfl (lv_at hl 3 rfl) ?_
          refine lv_iconst (v := (nI 1)) hx hb dL_law_191 (by decide +kernel) ?_
          refine lv_iadd hx hb dL_law_192 ?_
          refine jt_i (y := (nI (i + 1))) (nI_add _ _) ?_
          refine va_sld hx hb hX hbl hbA hS (vp_in_nI (show i + 1 < L by omega) (by omega)) dL_law_193 ?_
          refine jt_i (y := (xs (i + 1))) (by rw [nI_clamp (by omega)]) ?_
          refine j_calli (wr := (jDw h0 qt qr qd ql qn cb ci a2)) hP hD hS hA [0, 1, 2, 3, 4, 5] [6, 7, 8, 9, 10, 11] rfl rfl (by decide) (by decide) (va_runV (As := [.int (xs (i + 1))]) (rest := [.int r185]) ⟨hx, hb, hml, hown, hts⟩ (w_M_cut l D cb ci cz g0 mt mb mz mn my M a1 hMk (xs (i + 1)) H.size) (cwV 1 hts hqL_X2_cut rfl rfl rfl (by decide +kernel) ⟨Nat.le_of_ble_eq_true rfl, Nat.le_of_ble_eq_true rfl⟩) (j_preV (ci := 2) (q0 := 0) [0, 1, 2, 3, 4, 5] [0, 1, 2] hK hP hD rfl rfl rfl rfl rfl rfl) rfl rfl hl.1 rfl (lv_room (Nat.le_of_ble_eq_true rfl)) dL_law_194 ⟨Nat.le_of_ble_eq_true rfl, Nat.le_of_ble_eq_true rfl⟩) (fun r194 a3 H locs hw2 hP hD hS => ?_)
          have hP : va_P D vwCl ((jDw h0 qt qr qd ql qn cb ci a2) ++ (jMw g0 mt mb mz mn my ci cz a3)) H := hP
          have hD : va_D A ((jDw h0 qt qr qd ql qn cb ci a2) ++ (jMw g0 mt mb mz mn my ci cz a3)) := hD
          refine lv_icmp_eq (tgt := 305) hx hb dL_law_197 (by decide) (fun c_9 => ?_) (fun c_9 => ?_)
          · refine lv_iinc (v := (nI (i + 4))) (lv' := [(3, .int (nI (i + 4))), (0, .ref b), (1, .ref h0), (2, .ref g0)]) hx hb dL_law_305 hl (k := 3) rfl (nI_add i 4) (by decide) rfl (fun ls hl => ?_)
            refine lv_goto (tgt := 18) hx hb dL_law_308 (by decide) ?_
            exact ih (i + 4) (jop_cu M (xs (i + 1))).2 a2 a3 (by omega) (by omega) hw1.2 hw2.2 _ _ hP hD hS ls (lv_sub hl [1, 2, 3, 0] rfl)
          · exact absurd (hw1.1.trans hw2.1.symm) c_9
        · refine lv_tableIn (tgt := 202) hx hb dL_law_32 (by rw [h8]; decide +kernel) (by rw [h8]; decide +kernel) (off := 170) (by rw [h8]; decide +kernel) (by decide) ?_
          refine lv_aload_n hx hb dL_law_202 rfl (lv_at hl 1 rfl) ?_
          refine j_calli (wr := (jMw g0 mt mb mz mn my ci cz a1)) hP hD hS hA [0, 1, 2, 3, 4, 5] [6, 7, 8, 9, 10, 11] rfl rfl (by decide) (by decide) (va_runV (As := []) (rest := []) ⟨hx, hb, hml, hown, htsL⟩ (w_D_start l D cb ci cz h0 qt qr qd ql qn M a hDk  H.size) (cwV 0 htsL gL_law_X1_start rfl rfl rfl (by decide +kernel) ⟨Nat.le_of_ble_eq_true rfl, Nat.le_of_ble_eq_true rfl⟩) (j_preV (ci := 1) (q0 := 0) [0, 1, 2, 3, 4, 5] [0, 1, 2] hK hP hD rfl rfl rfl rfl rfl rfl) rfl rfl hl.1 rfl (lv_room (Nat.le_of_ble_eq_true rfl)) dL_law_203 ⟨Nat.le_of_ble_eq_true rfl, Nat.le_of_ble_eq_true rfl⟩) (fun r203 a2 H locs hw1 hP hD hS => ?_)
          have hP : va_P D vwCl ((jMw g0 mt mb mz mn my ci cz a1) ++ (jDw h0 qt qr qd ql qn cb ci a2)) H := hP
          have hD : va_D A ((jMw g0 mt mb mz mn my ci cz a1) ++ (jDw h0 qt qr qd ql qn cb ci a2)) := hD
          refine lv_aload_n hx hb dL_law_206 rfl (lv_at hl 2 rfl) ?_
          refine j_calli (wr := (jDw h0 qt qr qd ql qn cb ci a2)) hP hD hS hA [0, 1, 2, 3, 4, 5] [6, 7, 8, 9, 10, 11] rfl rfl (by decide) (by decide) (va_runV (As := []) (rest := [.int r203]) ⟨hx, hb, hml, hown, hts⟩ (w_M_start l D cb ci cz g0 mt mb mz mn my M a1 hMk  H.size) (cwV 0 hts hqL_X2_start rfl rfl rfl (by decide +kernel) ⟨Nat.le_of_ble_eq_true rfl, Nat.le_of_ble_eq_true rfl⟩) (j_preV (ci := 2) (q0 := 0) [0, 1, 2, 3, 4, 5] [0, 1, 2] hK hP hD rfl rfl rfl rfl rfl rfl) rfl rfl hl.1 rfl (lv_room (Nat.le_of_ble_eq_true rfl)) dL_law_207 ⟨Nat.le_of_ble_eq_true rfl, Nat.le_of_ble_eq_true rfl⟩) (fun r207 a3 H locs hw2 hP hD hS => ?_)
          have hP : va_P D vwCl ((jDw h0 qt qr qd ql qn cb ci a2) ++ (jMw g0 mt mb mz mn my ci cz a3)) H := hP
          have hD : va_D A ((jDw h0 qt qr qd ql qn cb ci a2) ++ (jMw g0 mt mb mz mn my ci cz a3)) := hD
          refine lv_icmp_eq (tgt := 305) hx hb dL_law_210 (by decide) (fun c_9 => ?_) (fun c_9 => ?_)
          · refine lv_iinc (v := (nI (i + 4))) (lv' := [(3, .int (nI (i + 4))), (0, .ref b), (1, .ref h0), (2, .ref g0)]) hx hb dL_law_305 hl (k := 3) rfl (nI_add i 4) (by decide) rfl (fun ls hl => ?_)
            refine lv_goto (tgt := 18) hx hb dL_law_308 (by decide) ?_
            exact ih (i + 4) (jop_st M).2 a2 a3 (by omega) (by omega) hw1.2 hw2.2 _ _ hP hD hS ls (lv_sub hl [1, 2, 3, 0] rfl)
          · exact absurd (hw1.1.trans hw2.1.symm) c_9
        · refine lv_tableIn (tgt := 215) hx hb dL_law_32 (by rw [h8]; decide +kernel) (by rw [h8]; decide +kernel) (off := 183) (by rw [h8]; decide +kernel) (by decide) ?_
          refine lv_aload_n hx hb dL_law_215 rfl (lv_at hl 1 rfl) ?_
          refine lv_aload_n hx hb dL_law_216 rfl (lv_at hl 0 rfl) ?_
          refine lv_iload_n hx hb dL_law_217 rfl (lv_at hl 3 rfl) ?_
          refine lv_iconst (v := (nI 1)) hx hb dL_law_218 (by decide +kernel) ?_
          refine lv_iadd hx hb dL_law_219 ?_
          refine jt_i (y := (nI (i + 1))) (nI_add _ _) ?_
          refine va_sld hx hb hX hbl hbA hS (vp_in_nI (show i + 1 < L by omega) (by omega)) dL_law_220 ?_
          refine jt_i (y := (xs (i + 1))) (by rw [nI_clamp (by omega)]) ?_
          refine lv_aload_n hx hb dL_law_221 rfl (lv_at hl 0 rfl) ?_
          refine lv_iload_n hx hb dL_law_222 rfl (lv_at hl 3 rfl) ?_
          refine lv_iconst (v := (nI 2)) hx hb dL_law_223 (by decide +kernel) ?_
          refine lv_iadd hx hb dL_law_224 ?_
          refine jt_i (y := (nI (i + 2))) (nI_add _ _) ?_
          refine va_sld hx hb hX hbl hbA hS (vp_in_nI (show i + 2 < L by omega) (by omega)) dL_law_225 ?_
          refine jt_i (y := (xs (i + 2))) (by rw [nI_clamp (by omega)]) ?_
          refine j_calli (wr := (jMw g0 mt mb mz mn my ci cz a1)) hP hD hS hA [0, 1, 2, 3, 4, 5] [6, 7, 8, 9, 10, 11] rfl rfl (by decide) (by decide) (va_runV (As := [.int (xs (i + 1)), .int (xs (i + 2))]) (rest := []) ⟨hx, hb, hml, hown, htsL⟩ (w_D_record l D cb ci cz h0 qt qr qd ql qn M a hDk (xs (i + 1)) (xs (i + 2)) H.size) (cwV 2 htsL gL_law_X1_record rfl rfl rfl (by decide +kernel) ⟨Nat.le_of_ble_eq_true rfl, Nat.le_of_ble_eq_true rfl⟩) (j_preV (ci := 1) (q0 := 0) [0, 1, 2, 3, 4, 5] [0, 1, 2] hK hP hD rfl rfl rfl rfl rfl rfl) rfl rfl hl.1 rfl (lv_room (Nat.le_of_ble_eq_true rfl)) dL_law_226 ⟨Nat.le_of_ble_eq_true rfl, Nat.le_of_ble_eq_true rfl⟩) (fun r226 _ H locs hw1 hP hD hS => ?_)
          have hP : va_P D vwCl ((jMw g0 mt mb mz mn my ci cz a1) ++ (jDw h0 qt qr qd ql qn cb ci a)) H := hP
          have hD : va_D A ((jMw g0 mt mb mz mn my ci cz a1) ++ (jDw h0 qt qr qd ql qn cb ci a)) := hD
          refine lv_aload_n hx hb dL_law_229 rfl (lv_at hl 2 rfl) ?_
          refine lv_aload_n hx hb dL_law_230 rfl (lv_at hl 0 rfl) ?_
          refine lv_iload_n hx hb dL_law_231 rfl (lv_at hl 3 rfl) ?_
          refine lv_iconst (v := (nI 1)) hx hb dL_law_232 (by decide +kernel) ?_
          refine lv_iadd hx hb dL_law_233 ?_
          refine jt_i (y := (nI (i + 1))) (nI_add _ _) ?_
          refine va_sld hx hb hX hbl hbA hS (vp_in_nI (show i + 1 < L by omega) (by omega)) dL_law_234 ?_
          refine jt_i (y := (xs (i + 1))) (by rw [nI_clamp (by omega)]) ?_
          refine lv_aload_n hx hb dL_law_235 rfl (lv_at hl 0 rfl) ?_
          refine lv_iload_n hx hb dL_law_236 rfl (lv_at hl 3 rfl) ?_
          refine lv_iconst (v := (nI 2)) hx hb dL_law_237 (by decide +kernel) ?_
          refine lv_iadd hx hb dL_law_238 ?_
          refine jt_i (y := (nI (i + 2))) (nI_add _ _) ?_
          refine va_sld hx hb hX hbl hbA hS (vp_in_nI (show i + 2 < L by omega) (by omega)) dL_law_239 ?_
          refine jt_i (y := (xs (i + 2))) (by rw [nI_clamp (by omega)]) ?_
          refine j_calli (wr := (jDw h0 qt qr qd ql qn cb ci a)) hP hD hS hA [0, 1, 2, 3, 4, 5] [6, 7, 8, 9, 10, 11] rfl rfl (by decide) (by decide) (va_runV (As := [.int (xs (i + 1)), .int (xs (i + 2))]) (rest := [.int r226]) ⟨hx, hb, hml, hown, hts⟩ (w_M_record l D cb ci cz g0 mt mb mz mn my M a1 hMk (xs (i + 1)) (xs (i + 2)) H.size) (cwV 2 hts hqL_X2_record rfl rfl rfl (by decide +kernel) ⟨Nat.le_of_ble_eq_true rfl, Nat.le_of_ble_eq_true rfl⟩) (j_preV (ci := 2) (q0 := 0) [0, 1, 2, 3, 4, 5] [0, 1, 2] hK hP hD rfl rfl rfl rfl rfl rfl) rfl rfl hl.1 rfl (lv_room (Nat.le_of_ble_eq_true rfl)) dL_law_240 ⟨Nat.le_of_ble_eq_true rfl, Nat.le_of_ble_eq_true rfl⟩) (fun r240 _ H locs hw2 hP hD hS => ?_)
          have hP : va_P D vwCl ((jDw h0 qt qr qd ql qn cb ci a) ++ (jMw g0 mt mb mz mn my ci cz a1)) H := hP
          have hD : va_D A ((jDw h0 qt qr qd ql qn cb ci a) ++ (jMw g0 mt mb mz mn my ci cz a1)) := hD
          refine lv_icmp_eq (tgt := 305) hx hb dL_law_243 (by decide) (fun c_9 => ?_) (fun c_9 => ?_)
          · refine lv_iinc (v := (nI (i + 4))) (lv' := [(3, .int (nI (i + 4))), (0, .ref b), (1, .ref h0), (2, .ref g0)]) hx hb dL_law_305 hl (k := 3) rfl (nI_add i 4) (by decide) rfl (fun ls hl => ?_)
            refine lv_goto (tgt := 18) hx hb dL_law_308 (by decide) ?_
            exact ih (i + 4) M a a1 (by omega) (by omega) hDk hMk _ _ hP hD hS ls (lv_sub hl [1, 2, 3, 0] rfl)
          · exact absurd (jop_rc_u hDk hw1 hw2) c_9
        · refine lv_tableIn (tgt := 248) hx hb dL_law_32 (by rw [h8]; decide +kernel) (by rw [h8]; decide +kernel) (off := 216) (by rw [h8]; decide +kernel) (by decide) ?_
          refine lv_aload_n hx hb dL_law_248 rfl (lv_at hl 1 rfl) ?_
          refine lv_aload_n hx hb dL_law_249 rfl (lv_at hl 0 rfl) ?_
          refine lv_iload_n hx hb dL_law_250 rfl (lv_at hl 3 rfl) ?_
          refine lv_iconst (v := (nI 1)) hx hb dL_law_251 (by decide +kernel) ?_
          refine lv_iadd hx hb dL_law_252 ?_
          refine jt_i (y := (nI (i + 1))) (nI_add _ _) ?_
          refine va_sld hx hb hX hbl hbA hS (vp_in_nI (show i + 1 < L by omega) (by omega)) dL_law_253 ?_
          refine jt_i (y := (xs (i + 1))) (by rw [nI_clamp (by omega)]) ?_
          refine lv_aload_n hx hb dL_law_254 rfl (lv_at hl 0 rfl) ?_
          refine lv_iload_n hx hb dL_law_255 rfl (lv_at hl 3 rfl) ?_
          refine lv_iconst (v := (nI 2)) hx hb dL_law_256 (by decide +kernel) ?_
          refine lv_iadd hx hb dL_law_257 ?_
          refine jt_i (y := (nI (i + 2))) (nI_add _ _) ?_
          refine va_sld hx hb hX hbl hbA hS (vp_in_nI (show i + 2 < L by omega) (by omega)) dL_law_258 ?_
          refine jt_i (y := (xs (i + 2))) (by rw [nI_clamp (by omega)]) ?_
          refine j_calll (wr := (jMw g0 mt mb mz mn my ci cz a1)) hP hD hS hA [0, 1, 2, 3, 4, 5] [6, 7, 8, 9, 10, 11] rfl rfl (by decide) (by decide) (va_runV (As := [.int (xs (i + 1)), .int (xs (i + 2))]) (rest := []) ⟨hx, hb, hml, hown, htsL⟩ (w_D_bytes l D cb ci cz h0 qt qr qd ql qn M a hDk (xs (i + 1)) (xs (i + 2)) H.size) (cwV 2 htsL gL_law_X1_bytes rfl rfl rfl (by decide +kernel) ⟨Nat.le_of_ble_eq_true rfl, Nat.le_of_ble_eq_true rfl⟩) (j_preV (ci := 1) (q0 := 0) [0, 1, 2, 3, 4, 5] [0, 1, 2] hK hP hD rfl rfl rfl rfl rfl rfl) rfl rfl hl.1 rfl (lv_room (Nat.le_of_ble_eq_true rfl)) dL_law_259 ⟨Nat.le_of_ble_eq_true rfl, Nat.le_of_ble_eq_true rfl⟩) (fun r259 _ H locs hw1 hP hD hS => ?_)
          have hP : va_P D vwCl ((jMw g0 mt mb mz mn my ci cz a1) ++ (jDw h0 qt qr qd ql qn cb ci a)) H := hP
          have hD : va_D A ((jMw g0 mt mb mz mn my ci cz a1) ++ (jDw h0 qt qr qd ql qn cb ci a)) := hD
          refine lv_aload_n hx hb dL_law_262 rfl (lv_at hl 2 rfl) ?_
          refine lv_aload_n hx hb dL_law_263 rfl (lv_at hl 0 rfl) ?_
          refine lv_iload_n hx hb dL_law_264 rfl (lv_at hl 3 rfl) ?_
          refine lv_iconst (v := (nI 1)) hx hb dL_law_265 (by decide +kernel) ?_
          refine lv_iadd hx hb dL_law_266 ?_
          refine jt_i (y := (nI (i + 1))) (nI_add _ _) ?_
          refine va_sld hx hb hX hbl hbA hS (vp_in_nI (show i + 1 < L by omega) (by omega)) dL_law_267 ?_
          refine jt_i (y := (xs (i + 1))) (by rw [nI_clamp (by omega)]) ?_
          refine lv_aload_n hx hb dL_law_268 rfl (lv_at hl 0 rfl) ?_
          refine lv_iload_n hx hb dL_law_269 rfl (lv_at hl 3 rfl) ?_
          refine lv_iconst (v := (nI 2)) hx hb dL_law_270 (by decide +kernel) ?_
          refine lv_iadd hx hb dL_law_271 ?_
          refine jt_i (y := (nI (i + 2))) (nI_add _ _) ?_
          refine va_sld hx hb hX hbl hbA hS (vp_in_nI (show i + 2 < L by omega) (by omega)) dL_law_272 ?_
          refine jt_i (y := (xs (i + 2))) (by rw [nI_clamp (by omega)]) ?_
          refine j_calll (wr := (jDw h0 qt qr qd ql qn cb ci a)) hP hD hS hA [0, 1, 2, 3, 4, 5] [6, 7, 8, 9, 10, 11] rfl rfl (by decide) (by decide) (va_runV (As := [.int (xs (i + 1)), .int (xs (i + 2))]) (rest := [.long r259]) ⟨hx, hb, hml, hown, hts⟩ (w_M_bytes l D cb ci cz g0 mt mb mz mn my M a1 hMk (xs (i + 1)) (xs (i + 2)) H.size) (cwV 2 hts hqL_X2_bytes rfl rfl rfl (by decide +kernel) ⟨Nat.le_of_ble_eq_true rfl, Nat.le_of_ble_eq_true rfl⟩) (j_preV (ci := 2) (q0 := 0) [0, 1, 2, 3, 4, 5] [0, 1, 2] hK hP hD rfl rfl rfl rfl rfl rfl) rfl rfl hl.1 rfl (lv_room (Nat.le_of_ble_eq_true rfl)) dL_law_273 ⟨Nat.le_of_ble_eq_true rfl, Nat.le_of_ble_eq_true rfl⟩) (fun r273 _ H locs hw2 hP hD hS => ?_)
          have hP : va_P D vwCl ((jDw h0 qt qr qd ql qn cb ci a) ++ (jMw g0 mt mb mz mn my ci cz a1)) H := hP
          have hD : va_D A ((jDw h0 qt qr qd ql qn cb ci a) ++ (jMw g0 mt mb mz mn my ci cz a1)) := hD
          refine W.lcmp hx hb dL_law_276 ?_
          refine lv_if_eq (tgt := 305) hx hb dL_law_277 (by decide) (fun c_9 => ?_) (fun c_9 => ?_)
          · refine lv_iinc (v := (nI (i + 4))) (lv' := [(3, .int (nI (i + 4))), (0, .ref b), (1, .ref h0), (2, .ref g0)]) hx hb dL_law_305 hl (k := 3) rfl (nI_add i 4) (by decide) rfl (fun ls hl => ?_)
            refine lv_goto (tgt := 18) hx hb dL_law_308 (by decide) ?_
            exact ih (i + 4) M a a1 (by omega) (by omega) hDk hMk _ _ hP hD hS ls (lv_sub hl [1, 2, 3, 0] rfl)
          · exact absurd (j_lc (jop_by_u hDk hw1 hw2)) c_9
        · refine lv_tableIn (tgt := 282) hx hb dL_law_32 (by rw [h8]; decide +kernel) (by rw [h8]; decide +kernel) (off := 250) (by rw [h8]; decide +kernel) (by decide) ?_
          refine lv_aload_n hx hb dL_law_282 rfl (lv_at hl 1 rfl) ?_
          refine lv_aload_n hx hb dL_law_283 rfl (lv_at hl 0 rfl) ?_
          refine lv_iload_n hx hb dL_law_284 rfl (lv_at hl 3 rfl) ?_
          refine lv_iconst (v := (nI 1)) hx hb dL_law_285 (by decide +kernel) ?_
          refine lv_iadd hx hb dL_law_286 ?_
          refine jt_i (y := (nI (i + 1))) (nI_add _ _) ?_
          refine va_sld hx hb hX hbl hbA hS (vp_in_nI (show i + 1 < L by omega) (by omega)) dL_law_287 ?_
          refine jt_i (y := (xs (i + 1))) (by rw [nI_clamp (by omega)]) ?_
          refine j_calli (wr := (jMw g0 mt mb mz mn my ci cz a1)) hP hD hS hA [0, 1, 2, 3, 4, 5] [6, 7, 8, 9, 10, 11] rfl rfl (by decide) (by decide) (va_runV (As := [.int (xs (i + 1))]) (rest := []) ⟨hx, hb, hml, hown, htsL⟩ (w_D_count l D cb ci cz h0 qt qr qd ql qn M a hDk (xs (i + 1)) H.size) (cwV 1 htsL gL_law_X1_count rfl rfl rfl (by decide +kernel) ⟨Nat.le_of_ble_eq_true rfl, Nat.le_of_ble_eq_true rfl⟩) (j_preV (ci := 1) (q0 := 0) [0, 1, 2, 3, 4, 5] [0, 1, 2] hK hP hD rfl rfl rfl rfl rfl rfl) rfl rfl hl.1 rfl (lv_room (Nat.le_of_ble_eq_true rfl)) dL_law_288 ⟨Nat.le_of_ble_eq_true rfl, Nat.le_of_ble_eq_true rfl⟩) (fun r288 _ H locs hw1 hP hD hS => ?_)
          have hP : va_P D vwCl ((jMw g0 mt mb mz mn my ci cz a1) ++ (jDw h0 qt qr qd ql qn cb ci a)) H := hP
          have hD : va_D A ((jMw g0 mt mb mz mn my ci cz a1) ++ (jDw h0 qt qr qd ql qn cb ci a)) := hD
          refine lv_aload_n hx hb dL_law_291 rfl (lv_at hl 2 rfl) ?_
          refine lv_aload_n hx hb dL_law_292 rfl (lv_at hl 0 rfl) ?_
          refine lv_iload_n hx hb dL_law_293 rfl (lv_at hl 3 rfl) ?_
          refine lv_iconst (v := (nI 1)) hx hb dL_law_294 (by decide +kernel) ?_
          refine lv_iadd hx hb dL_law_295 ?_
          refine jt_i (y := (nI (i + 1))) (nI_add _ _) ?_
          refine va_sld hx hb hX hbl hbA hS (vp_in_nI (show i + 1 < L by omega) (by omega)) dL_law_296 ?_
          refine jt_i (y := (xs (i + 1))) (by rw [nI_clamp (by omega)]) ?_
          refine j_calli (wr := (jDw h0 qt qr qd ql qn cb ci a)) hP hD hS hA [0, 1, 2, 3, 4, 5] [6, 7, 8, 9, 10, 11] rfl rfl (by decide) (by decide) (va_runV (As := [.int (xs (i + 1))]) (rest := [.int r288]) ⟨hx, hb, hml, hown, hts⟩ (w_M_count l D cb ci cz g0 mt mb mz mn my M a1 hMk (xs (i + 1)) H.size) (cwV 1 hts hqL_X2_count rfl rfl rfl (by decide +kernel) ⟨Nat.le_of_ble_eq_true rfl, Nat.le_of_ble_eq_true rfl⟩) (j_preV (ci := 2) (q0 := 0) [0, 1, 2, 3, 4, 5] [0, 1, 2] hK hP hD rfl rfl rfl rfl rfl rfl) rfl rfl hl.1 rfl (lv_room (Nat.le_of_ble_eq_true rfl)) dL_law_297 ⟨Nat.le_of_ble_eq_true rfl, Nat.le_of_ble_eq_true rfl⟩) (fun r297 _ H locs hw2 hP hD hS => ?_)
          have hP : va_P D vwCl ((jDw h0 qt qr qd ql qn cb ci a) ++ (jMw g0 mt mb mz mn my ci cz a1)) H := hP
          have hD : va_D A ((jDw h0 qt qr qd ql qn cb ci a) ++ (jMw g0 mt mb mz mn my ci cz a1)) := hD
          refine lv_icmp_eq (tgt := 305) hx hb dL_law_300 (by decide) (fun c_9 => ?_) (fun c_9 => ?_)
          · refine lv_iinc (v := (nI (i + 4))) (lv' := [(3, .int (nI (i + 4))), (0, .ref b), (1, .ref h0), (2, .ref g0)]) hx hb dL_law_305 hl (k := 3) rfl (nI_add i 4) (by decide) rfl (fun ls hl => ?_)
            refine lv_goto (tgt := 18) hx hb dL_law_308 (by decide) ?_
            exact ih (i + 4) M a a1 (by omega) (by omega) hDk hMk _ _ hP hD hS ls (lv_sub hl [1, 2, 3, 0] rfl)
          · exact absurd (hw1.trans hw2.symm) c_9
  exact LOOP (L + 1) 0 jM0 ((fun _ => 0), (fun _ => 0), (fun _ => 0), (fun _ => 0), 0, 0, 0, 0, 0, 0, 1, 0) ((fun _ => 0), (fun _ => 0), (fun _ => 0), (fun _ => 0), (fun _ => 0), 0, 0, 0, 0, 0, -1) (by omega) (Nat.zero_le L) jM0_D jM0_M _ _ hP hD hS ls (lv_sub hl [3, 2, 1, 0] rfl)
