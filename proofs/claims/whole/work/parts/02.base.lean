/-! THE STATE IN NUMBERS: sums, sectors, the entries that are kept; what the class's ring and the reference's rows hold of them -/
def js (f : Nat → Nat) : Nat → Nat
  | 0 => 0
  | n + 1 => js f n + f n
theorem js_step (f : Nat → Nat) (n : Nat) : js f (n + 1) = js f n + f n := rfl
theorem js_congr {f g : Nat → Nat} (n : Nat) (h : ∀ j, j < n → f j = g j) : js f n = js g n := by
  induction n with
  | zero => rfl
  | succ n ih => rw [js_step, js_step, ih (fun j hj => h j (by omega)), h n (by omega)]
theorem js_add (f : Nat → Nat) (a b : Nat) : js f (b + a) = js f a + js (fun j => f (j + a)) b := by
  induction b with
  | zero => simp [js]
  | succ b ih =>
    rw [show b + 1 + a = (b + a) + 1 by omega, js_step, ih, js_step]
    omega
theorem js_mono (f : Nat → Nat) {a b : Nat} (h : a ≤ b) : js f a ≤ js f b := by
  obtain ⟨d, rfl⟩ : ∃ d, b = d + a := ⟨b - a, by omega⟩
  rw [js_add]
  omega
theorem js_ge {f : Nat → Nat} (hf : ∀ j, 1 ≤ f j) (n : Nat) : n ≤ js f n := by
  induction n with
  | zero => exact Nat.zero_le _
  | succ n ih =>
    have := hf n
    rw [js_step]
    omega
/-- the sectors of a record of n bytes -/
def jsc (n : Nat) : Nat := if n ≤ 12 then 1 else (n + 11) / 12
theorem jsc_pos (n : Nat) : 1 ≤ jsc n := by unfold jsc; split <;> omega
theorem jsc_cap (n : Nat) : n ≤ 12 * jsc n := by unfold jsc; split <;> omega
theorem jsc_le {n : Nat} (h : n ≤ 100) : jsc n ≤ 9 := by unfold jsc; split <;> omega
/-- the sectors of entry j -/
def jse (r : Nat → Bool) (z : Nat → Nat) (j : Nat) : Nat := if r j = true then jsc (z j) else 1
theorem jse_pos (r : Nat → Bool) (z : Nat → Nat) (j : Nat) : 1 ≤ jse r z j := by
  unfold jse
  split
  · exact jsc_pos _
  · omega
theorem jse_t {r : Nat → Bool} {z : Nat → Nat} {j : Nat} (h : r j = true) : jse r z j = jsc (z j) := if_pos h
theorem jse_f {r : Nat → Bool} {z : Nat → Nat} {j : Nat} (h : r j = false) : jse r z j = 1 := by simp [jse, h]
/-- 1 for a record, 0 for a drop -/
def jcn (r : Nat → Bool) (j : Nat) : Nat := if r j = true then 1 else 0
theorem jcn_t {r : Nat → Bool} {j : Nat} (h : r j = true) : jcn r j = 1 := if_pos h
theorem jcn_f {r : Nat → Bool} {j : Nat} (h : r j = false) : jcn r j = 0 := by simp [jcn, h]
theorem jcn_le (r : Nat → Bool) (j : Nat) : jcn r j ≤ 1 := by unfold jcn; split <;> omega
theorem jct_le (r : Nat → Bool) (n : Nat) : js (jcn r) n ≤ n := by
  induction n with
  | zero => exact Nat.le_refl _
  | succ n ih =>
    have := jcn_le r n
    rw [js_step]
    omega
theorem jct_inj {r : Nat → Bool} {a b : Nat} (ha : r a = true) (hb : r b = true) (h : js (jcn r) a = js (jcn r) b) : a = b := by
  have h1 := jcn_t ha
  have h2 := jcn_t hb
  rcases Nat.lt_trichotomy a b with q | q | q
  · have h3 := js_mono (jcn r) (show a + 1 ≤ b from q)
    rw [js_step] at h3
    omega
  · exact q
  · have h3 := js_mono (jcn r) (show b + 1 ≤ a from q)
    rw [js_step] at h3
    omega
def jbi (b : Bool) : Int32 := if b = true then 1 else 0
theorem jbi_t : jbi true = 1 := rfl
theorem jbi_f : jbi false = 0 := rfl
theorem jbi_01 (b : Bool) : jbi b = 0 ∨ jbi b = 1 := by cases b <;> simp [jbi]
theorem jbi_0 {b : Bool} : jbi b = 0 ↔ b = false := by cases b <;> simp [jbi]
theorem jbi_n0 {b : Bool} : ¬ jbi b = 0 ↔ b = true := by cases b <;> simp [jbi]
/-- what the ring holds: from sector old on, us sectors, pr records; dk the disk, L the lengths, N the numbers; k entries: r which are records, z their bytes, u their numbers, y their bytes -/
def jR (old us pr : Nat) (dk L N : Nat → Int32) (k : Nat) (r : Nat → Bool) (z : Nat → Nat) (u : Nat → Int32) (y : Nat → Nat → Int32) : Prop :=
  old < 40 ∧ us = js (jse r z) k ∧ us ≤ 40 ∧ pr = js (jcn r) k ∧ (∀ j, j < k → z j ≤ 100) ∧
  (∀ j, j < k → L ((old + js (jse r z) j) % 40) = if r j = true then nI (z j) else -1) ∧
  (∀ j, j < k → r j = true → N ((old + js (jse r z) j) % 40) = u j) ∧
  (∀ j i, j < k → r j = true → i < z j → dk ((12 * ((old + js (jse r z) j) % 40) + i) % 480) &&& 255 = y j i)
theorem jR_in {old us pr : Nat} {dk L N : Nat → Int32} {k : Nat} {r : Nat → Bool} {z : Nat → Nat} {u : Nat → Int32} {y : Nat → Nat → Int32} (h : jR old us pr dk L N k r z u y) {j : Nat} (hj : j < k) : js (jse r z) j + jse r z j ≤ us := by
  rw [h.2.1, ← js_step]
  exact js_mono _ hj
theorem jR_k {old us pr : Nat} {dk L N : Nat → Int32} {k : Nat} {r : Nat → Bool} {z : Nat → Nat} {u : Nat → Int32} {y : Nat → Nat → Int32} (h : jR old us pr dk L N k r z u y) : k ≤ us := by
  rw [h.2.1]
  exact js_ge (jse_pos r z) k
theorem jR_pr {old us pr : Nat} {dk L N : Nat → Int32} {k : Nat} {r : Nat → Bool} {z : Nat → Nat} {u : Nat → Int32} {y : Nat → Nat → Int32} (h : jR old us pr dk L N k r z u y) : pr ≤ 40 := by
  have h1 := jR_k h
  have h2 := jct_le r k
  have h3 := h.2.2.1
  have h4 := h.2.2.2.1
  omega
theorem jR_add {old us pr : Nat} {dk L N : Nat → Int32} {k : Nat} {r : Nat → Bool} {z : Nat → Nat} {u : Nat → Int32} {y : Nat → Nat → Int32} (h : jR old us pr dk L N k r z u y) {len s : Nat} {num : Int32} {dk' tp t : Nat → Int32} (hlen : len ≤ 100) (hfit : us + jsc len ≤ 40) (hs : s = (old + us) % 40)
    (hd1 : ∀ i, i < len → dk' ((12 * s + i) % 480) = tp i) (hd2 : ∀ q, q < 480 → (∀ i, i < len → q ≠ (12 * s + i) % 480) → dk' q = dk q) (ht : ∀ i, i < len → tp i &&& 255 = t i) :
    jR old (us + jsc len) (pr + 1) dk' (upd L s (nI len)) (upd N s num) (k + 1) (va_up r k true) (va_up z k len) (va_up u k num) (va_up y k t) := by
  have hin := fun j (hj : j < k) => jR_in h hj
  obtain ⟨h1, h2, h3, h4, h5, h6, h7, h8⟩ := h
  have es : ∀ j, j ≤ k → js (jse (va_up r k true) (va_up z k len)) j = js (jse r z) j := fun j hj => js_congr j (fun i hi => by
    unfold jse
    rw [va_up_ne r true (show i ≠ k by omega), va_up_ne z len (show i ≠ k by omega)])
  have ec : ∀ j, j ≤ k → js (jcn (va_up r k true)) j = js (jcn r) j := fun j hj => js_congr j (fun i hi => by
    unfold jcn
    rw [va_up_ne r true (show i ≠ k by omega)])
  have ek : jse (va_up r k true) (va_up z k len) k = jsc len := by
    rw [jse_t (va_up_self r k true), va_up_self]
  have hp := jse_pos r z
  have hc := jsc_cap len
  refine ⟨h1, ?_, hfit, ?_, ?_, ?_, ?_, ?_⟩
  · rw [js_step, es k (Nat.le_refl k), ek, ← h2]
  · rw [js_step, ec k (Nat.le_refl k), jcn_t (va_up_self r k true), h4]
  · intro j hj
    by_cases e : j = k
    · rw [e, va_up_self]
      exact hlen
    · rw [va_up_ne z len e]
      exact h5 j (by omega)
  · intro j hj
    by_cases e : j = k
    · rw [e, es k (Nat.le_refl k), ← h2, ← hs, pk_us, va_up_self, va_up_self, if_pos rfl]
    · have hj' : j < k := by omega
      have a1 := hin j hj'
      have a2 := hp j
      have a3 := jsc_pos len
      rw [es j (by omega), pk_un (by omega), va_up_ne r true e, va_up_ne z len e]
      exact h6 j hj'
  · intro j hj hr
    by_cases e : j = k
    · rw [e, es k (Nat.le_refl k), ← h2, ← hs, pk_us, va_up_self]
    · have hj' : j < k := by omega
      have a1 := hin j hj'
      have a2 := hp j
      have a3 := jsc_pos len
      rw [va_up_ne r true e] at hr
      rw [es j (by omega), pk_un (by omega), va_up_ne u num e]
      exact h7 j hj' hr
  · intro j i hj hr hi
    by_cases e : j = k
    · rw [e, va_up_self] at hi
      rw [e, es k (Nat.le_refl k), ← h2, ← hs, va_up_self, hd1 i hi]
      exact ht i hi
    · have hj' : j < k := by omega
      have a1 := hin j hj'
      rw [va_up_ne r true e] at hr
      rw [va_up_ne z len e] at hi
      have a2 := jsc_cap (z j)
      rw [jse_t hr] at a1
      rw [es j (by omega), va_up_ne y t e, hd2 _ (Nat.mod_lt _ (by decide)) (fun i' hi' => by omega)]
      exact h8 j i hj' hr hi
theorem jR_drp {old us pr : Nat} {dk L N : Nat → Int32} {k : Nat} {r : Nat → Bool} {z : Nat → Nat} {u : Nat → Int32} {y : Nat → Nat → Int32} (h : jR old us pr dk L N k r z u y) {s : Nat} (hfit : us + 1 ≤ 40) (hs : s = (old + us) % 40) :
    jR old (us + 1) pr dk (upd L s (-1)) N (k + 1) (va_up r k false) (va_up z k 0) u y := by
  have hin := fun j (hj : j < k) => jR_in h hj
  obtain ⟨h1, h2, h3, h4, h5, h6, h7, h8⟩ := h
  have es : ∀ j, j ≤ k → js (jse (va_up r k false) (va_up z k 0)) j = js (jse r z) j := fun j hj => js_congr j (fun i hi => by
    unfold jse
    rw [va_up_ne r false (show i ≠ k by omega), va_up_ne z 0 (show i ≠ k by omega)])
  have ec : ∀ j, j ≤ k → js (jcn (va_up r k false)) j = js (jcn r) j := fun j hj => js_congr j (fun i hi => by
    unfold jcn
    rw [va_up_ne r false (show i ≠ k by omega)])
  have ek : jse (va_up r k false) (va_up z k 0) k = 1 := jse_f (va_up_self r k false)
  have hp := jse_pos r z
  refine ⟨h1, ?_, hfit, ?_, ?_, ?_, ?_, ?_⟩
  · rw [js_step, es k (Nat.le_refl k), ek, ← h2]
  · rw [js_step, ec k (Nat.le_refl k), jcn_f (va_up_self r k false), h4]
    rfl
  · intro j hj
    by_cases e : j = k
    · rw [e, va_up_self]
      omega
    · rw [va_up_ne z 0 e]
      exact h5 j (by omega)
  · intro j hj
    by_cases e : j = k
    · rw [e, es k (Nat.le_refl k), ← h2, ← hs, pk_us, va_up_self]
      simp
    · have hj' : j < k := by omega
      have a1 := hin j hj'
      have a2 := hp j
      rw [es j (by omega), pk_un (by omega), va_up_ne r false e, va_up_ne z 0 e]
      exact h6 j hj'
  · intro j hj hr
    by_cases e : j = k
    · rw [e, va_up_self] at hr
      exact absurd hr (by decide)
    · rw [va_up_ne r false e] at hr
      rw [es j (by omega)]
      exact h7 j (by omega) hr
  · intro j i hj hr hi
    by_cases e : j = k
    · rw [e, va_up_self] at hr
      exact absurd hr (by decide)
    · rw [va_up_ne r false e] at hr
      rw [va_up_ne z 0 e] at hi
      rw [es j (by omega)]
      exact h8 j i (by omega) hr hi
theorem jR_cut {old us pr : Nat} {dk L N : Nat → Int32} {k : Nat} {r : Nat → Bool} {z : Nat → Nat} {u : Nat → Int32} {y : Nat → Nat → Int32} (h : jR old us pr dk L N k r z u y) {f : Nat} (hf : f ≤ k) :
    jR ((old + js (jse r z) f) % 40) (us - js (jse r z) f) (pr - js (jcn r) f) dk L N (k - f) (fun j => r (j + f)) (fun j => z (j + f)) (fun j => u (j + f)) (fun j => y (j + f)) := by
  obtain ⟨h1, h2, h3, h4, h5, h6, h7, h8⟩ := h
  have e : ∀ j, js (jse (fun j => r (j + f)) (fun j => z (j + f))) j = js (jse r z) (j + f) - js (jse r z) f := fun j => by
    rw [js_add (jse r z) f j]
    show js (fun i => jse r z (i + f)) j = _
    omega
  have ec : ∀ j, js (jcn (fun j => r (j + f))) j = js (jcn r) (j + f) - js (jcn r) f := fun j => by
    rw [js_add (jcn r) f j]
    show js (fun i => jcn r (i + f)) j = _
    omega
  have m : ∀ j, js (jse r z) f ≤ js (jse r z) (j + f) := fun j => js_mono _ (by omega)
  have hkf : k - f + f = k := by omega
  have ep : ∀ j, ((old + js (jse r z) f) % 40 + (js (jse r z) (j + f) - js (jse r z) f)) % 40 = (old + js (jse r z) (j + f)) % 40 := fun j => by
    have := m j
    omega
  refine ⟨Nat.mod_lt _ (by decide), ?_, ?_, ?_, ?_, ?_, ?_, ?_⟩
  · rw [e, hkf, h2]
  · omega
  · rw [ec, hkf, h4]
  · intro j hj
    exact h5 (j + f) (by omega)
  · intro j hj
    rw [e, ep]
    exact h6 (j + f) (by omega)
  · intro j hj hr
    rw [e, ep]
    exact h7 (j + f) (by omega) hr
  · intro j i hj hr hi
    rw [e, ep]
    exact h8 (j + f) i (by omega) hr hi
/-- what the reference's rows hold: fB which are records, fZ the sizes, fN the numbers, fY the bytes, 100 an entry -/
def jE (fB fZ fN fY : Nat → Int32) (k : Nat) (r : Nat → Bool) (z : Nat → Nat) (u : Nat → Int32) (y : Nat → Nat → Int32) : Prop :=
  (∀ j, j < k → fB j = jbi (r j)) ∧ (∀ j, j < k → fZ j = nI (z j)) ∧ (∀ j, j < k → r j = true → fN j = u j) ∧ ∀ j i, j < k → i < z j → fY (100 * j + i) = y j i
/-- the smallest place below n where P holds, or d -/
def jfs (P : Nat → Bool) (d : Nat) : Nat → Nat
  | 0 => d
  | n + 1 => jfs P (if P n = true then n else d) n
theorem jfs_none {P : Nat → Bool} {d : Nat} (n : Nat) (h : ∀ g, g < n → P g = false) : jfs P d n = d := by
  induction n with
  | zero => rfl
  | succ n ih =>
    show jfs P (if P n = true then n else d) n = d
    rw [h n (by omega)]
    exact ih (fun g hg => h g (by omega))
theorem jfs_some {P : Nat → Bool} {f : Nat} (hf : P f = true) (h : ∀ g, g < f → P g = false) (n : Nat) (hn : f < n) (d : Nat) : jfs P d n = f := by
  induction n generalizing d with
  | zero => omega
  | succ n ih =>
    show jfs P (if P n = true then n else d) n = f
    by_cases e : n = f
    · rw [e, if_pos hf]
      exact jfs_none f h
    · exact ih (by omega) _
theorem jfs_le {P : Nat → Bool} (n : Nat) {d b : Nat} (hd : d ≤ b) (hn : n ≤ b + 1) : jfs P d n ≤ b := by
  induction n generalizing d with
  | zero => exact hd
  | succ n ih =>
    show jfs P (if P n = true then n else d) n ≤ b
    refine ih ?_ (by omega)
    split <;> omega
/-- entry g is a record, and at least many are ahead of it -/
def jPd (r : Nat → Bool) (many : Nat) (g : Nat) : Bool := r g && decide (many ≤ js (jcn r) g)
theorem jPd_t {r : Nat → Bool} {many g : Nat} (h : r g = true) (h2 : many ≤ js (jcn r) g) : jPd r many g = true := by simp [jPd, h, h2]
theorem jPd_r {r : Nat → Bool} {many g : Nat} (h : r g = false) : jPd r many g = false := by simp [jPd, h]
theorem jPd_m {r : Nat → Bool} {many g : Nat} (h : js (jcn r) g < many) : jPd r many g = false := by
  simp only [jPd, Bool.and_eq_false_iff, decide_eq_false_iff_not]
  right
  omega
/-- eight bytes, the first one highest -/
def je8 (g : Nat → Int32) : Nat → Int64
  | 0 => 0
  | b + 1 => (je8 g b <<< ((nI 8).toInt64 &&& 63)) ||| (g b).toInt64
theorem je8_congr {f g : Nat → Int32} (n : Nat) (h : ∀ j, j < n → f j = g j) : je8 f n = je8 g n := by
  induction n with
  | zero => rfl
  | succ n ih =>
    show (je8 f n <<< _) ||| (f n).toInt64 = (je8 g n <<< _) ||| (g n).toInt64
    rw [ih (fun j hj => h j (by omega)), h n (by omega)]
theorem je8_0 (n : Nat) : je8 (fun _ => 0) n = 0 := by
  induction n with
  | zero => rfl
  | succ n ih =>
    show (je8 (fun _ => 0) n <<< ((nI 8).toInt64 &&& 63)) ||| (0 : Int32).toInt64 = 0
    rw [ih]
    decide +kernel
/-- byte k of v, 0 the lowest, as the reference has it -/
def jby (v : Int64) (k : Nat) : Int32 := (v >>> ((nI (8 * k)).toInt64 &&& 63)).toInt32 &&& 255
/-! SHORT ROWS OVER THE KIT: a method's start, its ends, its calls, arrays by a place in Nat -/
abbrev j_pre (D : va_G) (tys : List (ClassId × FieldType)) (wc : va_W) (sz : Nat) (U : State) : Prop := U.heap.size = sz ∧ va_P D vwCl wc U.heap ∧ va_K D vwCl tys U ∧ va_D (fun _ => True) wc
abbrev j_post {S : Type} (D : va_G) (tys : List (ClassId × FieldType)) (wf : S → va_W) (A : Nat → Prop) (u : S) (t : State) : Prop := va_P D vwCl (wf u) t.heap ∧ va_K D vwCl tys t ∧ va_D A (wf u)
section JK
variable {p : Program} {l : Launch} {e : Env} {R : Room} {s : State} {m : MethodId} {args : Array Value} {below : List Frame} {meth : Method} {c : Code} {H : Heap} {locs : List Loc} {cells slots : Nat} {Q : State → Prop}
variable {cc : ByteArray} {pc : Nat} {ls : Array Slot} {rest : List Value} {D : va_G} {A : Nat → Prop} {tys : List (ClassId × FieldType)} {ws : va_W} {H0 : Heap}
theorem jt_i {x y : Int32} (h : x = y) (k : W p l e R s m args below meth c H locs cells slots Q (F0 m pc ls (.int y :: rest))) : W p l e R s m args below meth c H locs cells slots Q (F0 m pc ls (.int x :: rest)) := by
  subst h
  exact k
theorem jt_l {x y : Int64} (h : x = y) (k : W p l e R s m args below meth c H locs cells slots Q (F0 m pc ls (.long y :: rest))) : W p l e R s m args below meth c H locs cells slots Q (F0 m pc ls (.long x :: rest)) := by
  subst h
  exact k
theorem j_in {y : MethodName} {ws0 ws0' : List Cond} {rm : Room} {Qc : (Nat → Prop) → Array Value → State → Outcome → State → Prop} {mc ms maxL : Nat} {ret : Option FieldType} {av : List Value} {wc : va_W} {sz : Nat}
    (hy : plainName y.cls = true) (hw : ws0 = Cond.code y cc maxL ret :: ws0') (hlen : (lg_sl av).length ≤ maxL)
    (body : ∀ (p : Program) (e : Env) (s : State) (m : MethodId) (av' : Array Value) (below : List Frame) (meth : Method) (c : Code) (A : Nat → Prop) (ls : Array Slot) (H : Heap) (locs : List Loc), p.tables.exec = Jvm.exec → c.code = cc → meth.sig.returnType = ret → c.maxLocals = maxL → (∀ w ∈ ws0, w.before av' s = true) → s.vm.findClass y.cls = some m.cls → meth.locks = false → meth.name = y.name →
      (∀ q, s.heap.size ≤ q → A q) → va_P D vwCl wc H → va_K D vwCl tys s → va_D A wc → va_S A s.heap H locs → lv_has ls maxL (lv_args 0 av) → W p l e rm s m av' below meth c H locs 0 0 (MQ below (Qc A) av' s mc ms A) (F0 m 0 ls [])) :
    Met l y ws0 rm (va_Pc av (j_pre D tys wc sz)) (Qc (va_A wc sz)) mc ms (va_A wc sz) := by
  refine Met.ofW hy hw ?_
  intro p e s m args below meth c s₁ B hml hv
  obtain ⟨rfl, hsz, hP, hK, hD0⟩ := hv
  have hl := lv_entry av (n := maxL) hlen
  rw [lg_entry_eq]
  exact body p e s m _ below meth c (va_A wc sz) _ s.heap [] B.exec B.bytes B.returns hml (atoms_spec (ws := ws0) B.pre) (findClass_of_methodNamed B.named) B.notSynchronized (name_of_methodNamed B.named B.method).1 (fun q h => Or.inr (by omega)) hP hK hD0.self va_S.rf hl
theorem j_inF {y : MethodName} {ws0 ws0' : List Cond} {rm : Room} {Qc : (Nat → Prop) → Array Value → State → Outcome → State → Prop} {mc ms maxL : Nat} {ret : Option FieldType} {av : List Value} {wc : va_W} {sz : Nat}
    (hy : plainFor y = true) (hw : ws0 = Cond.code y cc maxL ret :: ws0') (hlen : (lg_sl av).length ≤ maxL)
    (body : ∀ (p : Program) (e : Env) (s : State) (m : MethodId) (av' : Array Value) (below : List Frame) (meth : Method) (c : Code) (A : Nat → Prop) (ls : Array Slot) (H : Heap) (locs : List Loc), p.tables.exec = Jvm.exec → c.code = cc → meth.sig.returnType = ret → c.maxLocals = maxL → (∀ w ∈ ws0, w.before av' s = true) → s.vm.findClass y.cls = some m.cls → meth.locks = false → meth.name = y.name →
      (∀ q, s.heap.size ≤ q → A q) → va_P D vwCl wc H → va_K D vwCl tys s → va_D A wc → va_S A s.heap H locs → lv_has ls maxL (lv_args 0 av) → W p l e rm s m av' below meth c H locs 0 0 (MQ below (Qc A) av' s mc ms A) (F0 m 0 ls [])) :
    Met l y ws0 rm (va_Pc av (j_pre D tys wc sz)) (Qc (va_A wc sz)) mc ms (va_A wc sz) := by
  refine va_MetF hy hw ?_
  intro p e s m args below meth c s₁ B hml hv
  obtain ⟨rfl, hsz, hP, hK, hD0⟩ := hv
  have hl := lv_entry av (n := maxL) hlen
  rw [lg_entry_eq]
  exact body p e s m _ below meth c (va_A wc sz) _ s.heap [] B.exec B.bytes B.returns hml (atoms_spec (ws := ws0) B.pre) (findClass_of_methodNamed B.named) B.notSynchronized (name_of_methodNamed B.named B.method).1 (fun q h => Or.inr (by omega)) hP hK hD0.self va_S.rf hl
theorem j_iret {S : Type} {post : Int32 → S → Prop} {wf : S → va_W} {v : Int32} (u : S) (hx : p.tables.exec = Jvm.exec) (hb : c.code = cc) (hr : meth.sig.returnType = some .int) (hlocks : meth.locks = false) (hK : va_K D vwCl tys s) (hP : va_P D vwCl (wf u) H) (hD : va_D A (wf u)) (hS : va_S A s.heap H locs) (hpost : post v u) (hdg : decode cc pc = .ok (.ireturn, 1)) :
    W p l e R s m args below meth c H locs cells slots (MQ below (va_Qi post (j_post D tys wf A) A) args s cells slots A) (F0 m pc ls [.int v]) :=
  W.iret hx hb hr (fun t ht hW => ⟨⟨v, u, rfl, hpost, by rw [ht]; exact hP, va_K.moved hW.alike hK, hD⟩, hS.F ht⟩) hS.2.2 hdg hlocks
theorem j_zret {S : Type} {post : Int32 → S → Prop} {wf : S → va_W} {v : Int32} (u : S) (hx : p.tables.exec = Jvm.exec) (hb : c.code = cc) (hr : meth.sig.returnType = some .boolean) (hlocks : meth.locks = false) (hK : va_K D vwCl tys s) (hP : va_P D vwCl (wf u) H) (hD : va_D A (wf u)) (hS : va_S A s.heap H locs) (hv : v = 0 ∨ v = 1) (hpost : post v u) (hdg : decode cc pc = .ok (.ireturn, 1)) :
    W p l e R s m args below meth c H locs cells slots (MQ below (va_Qi post (j_post D tys wf A) A) args s cells slots A) (F0 m pc ls [.int v]) :=
  W.zret (ty := .boolean) hx hb hr (by rcases hv with rfl | rfl <;> rfl) (fun t ht hW => ⟨⟨v, u, rfl, hpost, by rw [ht]; exact hP, va_K.moved hW.alike hK, hD⟩, hS.F ht⟩) hS.2.2 hdg hlocks
theorem j_lret {S : Type} {post : Int64 → S → Prop} {wf : S → va_W} {v : Int64} (u : S) (hx : p.tables.exec = Jvm.exec) (hb : c.code = cc) (hr : meth.sig.returnType = some .long) (hlocks : meth.locks = false) (hK : va_K D vwCl tys s) (hP : va_P D vwCl (wf u) H) (hD : va_D A (wf u)) (hS : va_S A s.heap H locs) (hpost : post v u) (hdg : decode cc pc = .ok (.lreturn, 1)) :
    W p l e R s m args below meth c H locs cells slots (MQ below (va_Ql post (j_post D tys wf A) A) args s cells slots A) (F0 m pc ls [.long v]) :=
  W.lret hx hb hr (fun t ht hW => ⟨⟨v, u, rfl, hpost, by rw [ht]; exact hP, va_K.moved hW.alike hK, hD⟩, hS.F ht⟩) hS.2.2 hdg hlocks
theorem j_vret {S : Type} {post : S → Prop} {wf : S → va_W} (u : S) (hx : p.tables.exec = Jvm.exec) (hb : c.code = cc) (hr : meth.sig.returnType = none) (hlocks : meth.locks = false) (hK : va_K D vwCl tys s) (hP : va_P D vwCl (wf u) H) (hD : va_D A (wf u)) (hS : va_S A s.heap H locs) (hpost : post u) (hdg : decode cc pc = .ok (.return_, 1)) :
    W p l e R s m args below meth c H locs cells slots (MQ below (va_Qv post (j_post D tys wf A) A) args s cells slots A) (F0 m pc ls []) :=
  W.vret hx hb hr (fun t ht hW => ⟨⟨u, rfl, hpost, by rw [ht]; exact hP, va_K.moved hW.alike hK, hD⟩, hS.F ht⟩) hS.2.2 hdg hlocks
theorem j_preS {wc : va_W} {tysC : List (ClassId × FieldType)} {As : List Value} (isC isT : List Nat) (hK : va_K D vwCl tys s) (hP : va_P D vwCl ws H) (hD : va_D A ws) (hC : isC.map (fun i => ws[i]?) = wc.map some) (hF : isC.filterMap (fun i => ws[i]?) = wc) (hn : va_nd isC = true) (hT : isT.filterMap (fun i => tys[i]?) = tysC) :
    PreS s H (va_Pc As (j_pre D tysC wc H.size)) As := by
  have hPc : va_P D vwCl wc H := hP.sub isC hF
  have hDc : va_D A wc := hD.sub isC hn hC
  have hKc : va_K D vwCl tysC s := hK.sub isT hT
  refine ⟨fun a U g mk q => ?_, fun U hU hW => ⟨rfl, by rw [hU], by rw [hU]; exact hPc, va_K.moved hW.alike hKc, hDc.weaken (fun _ _ _ _ => trivial)⟩⟩
  obtain ⟨q0, q1, qP, qK, qD⟩ := q
  exact ⟨q0, q1, qP, va_K.moved (u := U) (U := U.calling g mk a) (Vm.Alike.refl U.vm) qK, qD⟩
theorem j_preV {wc : va_W} {tysC : List (ClassId × FieldType)} {b ci q0 : Nat} {fs : List Value} {C : String} {T : u_T} {N : Nat} {As : List Value} (isC isT : List Nat) (hK : va_K D vwCl tys s) (hP : va_P D vwCl ws H) (hD : va_D A ws) (hC : isC.map (fun i => ws[i]?) = wc.map some) (hF : isC.filterMap (fun i => ws[i]?) = wc) (hn : va_nd isC = true) (hT : isT.filterMap (fun i => tys[i]?) = tysC) (hc : vwCl[ci]? = some (C, T, N)) (he : wc[q0]? = some (b, .inr (ci, fs))) :
    PreV s H C b (va_Pc (.ref b :: As) (j_pre D tysC wc H.size)) As := by
  have h := j_preS (As := .ref b :: As) isC isT hK hP hD hC hF hn hT
  exact ⟨h.1, va_recv (hK.sub isT hT) (hP.sub isC hF) hc he, h.2⟩
variable {A0 : Nat → Prop} {st0 : List Value} {a : Array Value} {mc ms : Nat} {tys1 : List (ClassId × FieldType)} {wc wr : va_W}
theorem j_calli {S : Type} {post : Int32 → S → Prop} {wf : S → va_W} (hP : va_P D vwCl ws H) (hD : va_D A0 ws) (hS : va_S A0 H0 H locs) (hA : ∀ q, H0.size ≤ q → A0 q) (isC isR : List Nat) (hC : isC.map (fun i => ws[i]?) = wc.map some) (hR : isR.map (fun i => ws[i]?) = wr.map some) (hn : va_nd isR = true) (hdis : ∀ i ∈ isR, i ∉ isC)
    (hr : va_Run p l e R s m args below meth c H locs cells slots mc ms (F0 m pc ls st0) rest (va_Qi post (j_post D tys1 wf (va_A wc H.size)) (va_A wc H.size) a) (va_A wc H.size))
    (kk : ∀ (r : Int32) (u : S) (H1 : Heap) (locs1 : List Loc), post r u → va_P D vwCl (wr ++ wf u) H1 → va_D A0 (wr ++ wf u) → va_S A0 H0 H1 locs1 → W p l e R s m args below meth c H1 locs1 (cells + mc) (slots + ms) Q (F0 m (pc + 3) ls (.int r :: rest))) : W p l e R s m args below meth c H locs cells slots Q (F0 m pc ls st0) := by
  have hFc := va_free (wc := wc) hD hS hA isC hC
  refine va_calli hr hS (fun q _ h => hFc q h) hFc (fun r u t H1 locs1 ht hvm hw hB hz1 hk1 hS1 => ?_)
  obtain ⟨hP1, hK1, hD1⟩ := hB
  rw [ht] at hP1
  obtain ⟨hP2, hD2⟩ := va_join (wr := wr) (w1 := wf u) hP hD isC isR hC hR hn hdis hk1 hFc hP1 hD1
  exact kk r u H1 locs1 hw hP2 hD2 hS1
theorem j_calll {S : Type} {post : Int64 → S → Prop} {wf : S → va_W} (hP : va_P D vwCl ws H) (hD : va_D A0 ws) (hS : va_S A0 H0 H locs) (hA : ∀ q, H0.size ≤ q → A0 q) (isC isR : List Nat) (hC : isC.map (fun i => ws[i]?) = wc.map some) (hR : isR.map (fun i => ws[i]?) = wr.map some) (hn : va_nd isR = true) (hdis : ∀ i ∈ isR, i ∉ isC)
    (hr : va_Run p l e R s m args below meth c H locs cells slots mc ms (F0 m pc ls st0) rest (va_Ql post (j_post D tys1 wf (va_A wc H.size)) (va_A wc H.size) a) (va_A wc H.size))
    (kk : ∀ (r : Int64) (u : S) (H1 : Heap) (locs1 : List Loc), post r u → va_P D vwCl (wr ++ wf u) H1 → va_D A0 (wr ++ wf u) → va_S A0 H0 H1 locs1 → W p l e R s m args below meth c H1 locs1 (cells + mc) (slots + ms) Q (F0 m (pc + 3) ls (.long r :: rest))) : W p l e R s m args below meth c H locs cells slots Q (F0 m pc ls st0) := by
  have hFc := va_free (wc := wc) hD hS hA isC hC
  refine va_calll hr hS (fun q _ h => hFc q h) hFc (fun r u t H1 locs1 ht hvm hw hB hz1 hk1 hS1 => ?_)
  obtain ⟨hP1, hK1, hD1⟩ := hB
  rw [ht] at hP1
  obtain ⟨hP2, hD2⟩ := va_join (wr := wr) (w1 := wf u) hP hD isC isR hC hR hn hdis hk1 hFc hP1 hD1
  exact kk r u H1 locs1 hw hP2 hD2 hS1
theorem j_callv {S : Type} {post : S → Prop} {wf : S → va_W} (hP : va_P D vwCl ws H) (hD : va_D A0 ws) (hS : va_S A0 H0 H locs) (hA : ∀ q, H0.size ≤ q → A0 q) (isC isR : List Nat) (hC : isC.map (fun i => ws[i]?) = wc.map some) (hR : isR.map (fun i => ws[i]?) = wr.map some) (hn : va_nd isR = true) (hdis : ∀ i ∈ isR, i ∉ isC)
    (hr : va_Run p l e R s m args below meth c H locs cells slots mc ms (F0 m pc ls st0) rest (va_Qv post (j_post D tys1 wf (va_A wc H.size)) (va_A wc H.size) a) (va_A wc H.size))
    (kk : ∀ (u : S) (H1 : Heap) (locs1 : List Loc), post u → va_P D vwCl (wr ++ wf u) H1 → va_D A0 (wr ++ wf u) → va_S A0 H0 H1 locs1 → W p l e R s m args below meth c H1 locs1 (cells + mc) (slots + ms) Q (F0 m (pc + 3) ls rest)) : W p l e R s m args below meth c H locs cells slots Q (F0 m pc ls st0) := by
  have hFc := va_free (wc := wc) hD hS hA isC hC
  refine va_callv hr hS (fun q _ h => hFc q h) hFc (fun u t H1 locs1 ht hvm hw hB hz1 hk1 hS1 => ?_)
  obtain ⟨hP1, hK1, hD1⟩ := hB
  rw [ht] at hP1
  obtain ⟨hP2, hD2⟩ := va_join (wr := wr) (w1 := wf u) hP hD isC isR hC hR hn hdis hk1 hFc hP1 hD1
  exact kk u H1 locs1 hw hP2 hD2 hS1
theorem j_iald (hx : p.tables.exec = Jvm.exec) (hb : c.code = cc) (hK : va_K D vwCl tys s) (hP : va_P D vwCl ws H) (q0 t0 : Nat) {a : Nat} {cA : ClassId} {n : Nat} {f : Nat → Int32} (ha : ws[q0]? = some (a, .inl (cA, n, .inl f))) (ht : tys[t0]? = some (cA, .int)) {i : Nat} (hi : i < n) (hn : n < 2 ^ 31) {v : Int32} (hv : f i = v) (hdg : decode cc pc = .ok (.iaload, 1))
    (kk : W p l e R s m args below meth c H locs cells slots Q (F0 m (pc + 1) ls (.int v :: rest))) : W p l e R s m args below meth c H locs cells slots Q (F0 m pc ls (.int (nI i) :: .ref a :: rest)) := by
  subst hv
  refine va_iald hx hb hK hP q0 t0 ha ht (vp_in_nI hi hn) hdg ?_
  rw [nI_clamp (Nat.lt_trans hi hn)]
  exact kk
theorem j_bald (hx : p.tables.exec = Jvm.exec) (hb : c.code = cc) (hK : va_K D vwCl tys s) (hP : va_P D vwCl ws H) (q0 t0 : Nat) {a : Nat} {cA : ClassId} {n : Nat} {f : Nat → Int32} (ha : ws[q0]? = some (a, .inl (cA, n, .inl f))) (ht : tys[t0]? = some (cA, .byte)) {i : Nat} (hi : i < n) (hn : n < 2 ^ 31) {v : Int32} (hv : f i = v) (hdg : decode cc pc = .ok (.baload, 1))
    (kk : W p l e R s m args below meth c H locs cells slots Q (F0 m (pc + 1) ls (.int v :: rest))) : W p l e R s m args below meth c H locs cells slots Q (F0 m pc ls (.int (nI i) :: .ref a :: rest)) := by
  subst hv
  refine va_bald hx hb hK hP q0 t0 ha ht (vp_in_nI hi hn) hdg ?_
  rw [nI_clamp (Nat.lt_trans hi hn)]
  exact kk
theorem j_zald (hx : p.tables.exec = Jvm.exec) (hb : c.code = cc) (hK : va_K D vwCl tys s) (hP : va_P D vwCl ws H) (q0 t0 : Nat) {a : Nat} {cA : ClassId} {n : Nat} {f : Nat → Int32} (ha : ws[q0]? = some (a, .inl (cA, n, .inl f))) (ht : tys[t0]? = some (cA, .boolean)) {i : Nat} (hi : i < n) (hn : n < 2 ^ 31) {v : Int32} (hv : f i = v) (hdg : decode cc pc = .ok (.baload, 1))
    (kk : W p l e R s m args below meth c H locs cells slots Q (F0 m (pc + 1) ls (.int v :: rest))) : W p l e R s m args below meth c H locs cells slots Q (F0 m pc ls (.int (nI i) :: .ref a :: rest)) := by
  subst hv
  refine va_zald hx hb hK hP q0 t0 ha ht (vp_in_nI hi hn) hdg ?_
  rw [nI_clamp (Nat.lt_trans hi hn)]
  exact kk
theorem j_iast (hx : p.tables.exec = Jvm.exec) (hb : c.code = cc) (hK : va_K D vwCl tys s) (hP : va_P D vwCl ws H) (hD : va_D A ws) (hS : va_S A H0 H locs) (q0 t0 : Nat) {a : Nat} {cA : ClassId} {n : Nat} {f : Nat → Int32} (ha : ws[q0]? = some (a, .inl (cA, n, .inl f))) (ht : tys[t0]? = some (cA, .int)) {i : Nat} {x : Int32} (hi : i < n) (hn : n < 2 ^ 31) (hdg : decode cc pc = .ok (.iastore, 1))
    (kk : ∀ (H1 : Heap) (locs1 : List Loc), va_P D vwCl (ws.set q0 (a, .inl (cA, n, .inl (upd f i x)))) H1 → va_D A (ws.set q0 (a, .inl (cA, n, .inl (upd f i x)))) → va_S A H0 H1 locs1 → W p l e R s m args below meth c H1 locs1 cells slots Q (F0 m (pc + 1) ls rest)) : W p l e R s m args below meth c H locs cells slots Q (F0 m pc ls (.int x :: .int (nI i) :: .ref a :: rest)) := by
  refine va_iast hx hb hK hP hD hS q0 t0 ha ht (vp_in_nI hi hn) hdg ?_
  rw [nI_clamp (Nat.lt_trans hi hn)]
  exact kk
theorem j_bast (hx : p.tables.exec = Jvm.exec) (hb : c.code = cc) (hK : va_K D vwCl tys s) (hP : va_P D vwCl ws H) (hD : va_D A ws) (hS : va_S A H0 H locs) (q0 t0 : Nat) {a : Nat} {cA : ClassId} {n : Nat} {f : Nat → Int32} (ha : ws[q0]? = some (a, .inl (cA, n, .inl f))) (ht : tys[t0]? = some (cA, .byte)) {i : Nat} {x y : Int32} (hi : i < n) (hn : n < 2 ^ 31) (hv : x.toInt8.toInt32 = y) (hdg : decode cc pc = .ok (.bastore, 1))
    (kk : ∀ (H1 : Heap) (locs1 : List Loc), va_P D vwCl (ws.set q0 (a, .inl (cA, n, .inl (upd f i y)))) H1 → va_D A (ws.set q0 (a, .inl (cA, n, .inl (upd f i y)))) → va_S A H0 H1 locs1 → W p l e R s m args below meth c H1 locs1 cells slots Q (F0 m (pc + 1) ls rest)) : W p l e R s m args below meth c H locs cells slots Q (F0 m pc ls (.int x :: .int (nI i) :: .ref a :: rest)) := by
  subst hv
  refine va_bast hx hb hK hP hD hS q0 t0 ha ht (vp_in_nI hi hn) hdg ?_
  rw [nI_clamp (Nat.lt_trans hi hn), vp_nar_byte]
  exact kk
theorem j_zast (hx : p.tables.exec = Jvm.exec) (hb : c.code = cc) (hK : va_K D vwCl tys s) (hP : va_P D vwCl ws H) (hD : va_D A ws) (hS : va_S A H0 H locs) (q0 t0 : Nat) {a : Nat} {cA : ClassId} {n : Nat} {f : Nat → Int32} (ha : ws[q0]? = some (a, .inl (cA, n, .inl f))) (ht : tys[t0]? = some (cA, .boolean)) {i : Nat} {x : Int32} (hi : i < n) (hn : n < 2 ^ 31) (hv : vp_nar .boolean x = x) (hdg : decode cc pc = .ok (.bastore, 1))
    (kk : ∀ (H1 : Heap) (locs1 : List Loc), va_P D vwCl (ws.set q0 (a, .inl (cA, n, .inl (upd f i x)))) H1 → va_D A (ws.set q0 (a, .inl (cA, n, .inl (upd f i x)))) → va_S A H0 H1 locs1 → W p l e R s m args below meth c H1 locs1 cells slots Q (F0 m (pc + 1) ls rest)) : W p l e R s m args below meth c H locs cells slots Q (F0 m pc ls (.int x :: .int (nI i) :: .ref a :: rest)) := by
  refine va_zast hx hb hK hP hD hS q0 t0 ha ht (vp_in_nI hi hn) hdg ?_
  rw [nI_clamp (Nat.lt_trans hi hn), hv]
  exact kk
end JK
theorem jz_nar (b : Bool) : vp_nar .boolean (jbi b) = jbi b := by cases b <;> decide +kernel
/-! bits: a byte of a long, by >>> and by >> -/
def jx_bt (x : Int32) (i : Nat) : Bool := x.toBitVec.getLsbD i
theorem jx_ext {x y : Int32} (h : ∀ i, i < 32 → jx_bt x i = jx_bt y i) : x = y := Int32.toBitVec_inj.mp (BitVec.eq_of_getLsbD_eq (fun i hi => h i hi))
theorem jx_and (x y : Int32) (i : Nat) : jx_bt (x &&& y) i = (jx_bt x i && jx_bt y i) := by unfold jx_bt; rw [Int32.toBitVec_and, BitVec.getLsbD_and]
theorem jx_255 : ∀ i, i < 32 → jx_bt 255 i = decide (i < 8) := by decide +kernel
theorem jx_b (x : Int32) : x.toInt8.toInt32 &&& 255 = x &&& 255 := by
  apply Int32.toBitVec_inj.mp
  rw [Int32.toBitVec_and, Int32.toBitVec_and, Int8.toBitVec_toInt32, Int32.toBitVec_toInt8]
  apply BitVec.eq_of_getLsbD_eq
  intro i hi
  rw [BitVec.getLsbD_and, BitVec.getLsbD_and]
  have hm : ∀ i < 32, 8 ≤ i → (255 : Int32).toBitVec.getLsbD i = false := by decide
  rcases Nat.lt_or_ge i 8 with z | z
  · rw [BitVec.getLsbD_signExtend, BitVec.getLsbD_signExtend, if_pos z, if_pos hi]
    simp only [z, hi, decide_true, Bool.true_and]
  · rw [hm i hi z]; simp
theorem jx_c : ∀ k, k < 8 → ((nI (8 * k)).toInt64 &&& 63).toBitVec.smod 64 = BitVec.ofNat 64 (8 * k) := by decide +kernel
theorem jx_u : ∀ k, k < 8 → ((nI (8 * k)).toInt64.toUInt64 &&& Int64.toUInt64 63) = UInt64.ofNat (8 * k) := by decide +kernel
theorem jby_class (v : Int64) (k : Nat) (hk : k < 8) : (v.toUInt64 >>> ((nI (8 * k)).toInt64.toUInt64 &&& Int64.toUInt64 63)).toInt64.toInt32.toInt8.toInt32 &&& 255 = jby v k := by
  have e1 : (v.toUInt64 >>> UInt64.ofNat (8 * k)).toInt64.toBitVec = v.toBitVec >>> (8 * k) := by
    apply BitVec.eq_of_toNat_eq
    show (v.toUInt64 >>> UInt64.ofNat (8 * k)).toNat = _
    have h1 : (UInt64.ofNat (8 * k)).toNat = 8 * k := by
      show (BitVec.ofNat 64 (8 * k)).toNat = 8 * k
      rw [BitVec.toNat_ofNat, Nat.mod_eq_of_lt (by omega)]
    rw [UInt64.toNat_shiftRight, h1, Nat.mod_eq_of_lt (show 8 * k < 64 by omega), BitVec.toNat_ushiftRight]
    rfl
  have e2 : (v >>> ((nI (8 * k)).toInt64 &&& 63)).toBitVec = v.toBitVec.sshiftRight (8 * k) := by
    rw [Int64.toBitVec_shiftRight]
    show v.toBitVec.sshiftRight (((nI (8 * k)).toInt64 &&& 63).toBitVec.smod 64).toNat = _
    rw [jx_c k hk, BitVec.toNat_ofNat, Nat.mod_eq_of_lt (by omega)]
  rw [jx_b, jx_u k hk]
  unfold jby
  apply jx_ext
  intro i hi
  rw [jx_and, jx_and, jx_255 i hi]
  rcases Nat.lt_or_ge i 8 with z | z
  · have e3 : jx_bt (v.toUInt64 >>> UInt64.ofNat (8 * k)).toInt64.toInt32 i = jx_bt (v >>> ((nI (8 * k)).toInt64 &&& 63)).toInt32 i := by
      unfold jx_bt
      rw [Int64.toBitVec_toInt32, Int64.toBitVec_toInt32, e1, e2, BitVec.getLsbD_signExtend, BitVec.getLsbD_signExtend, BitVec.getLsbD_ushiftRight, BitVec.getLsbD_sshiftRight]
      simp [hi, show i < 64 by omega, show 8 * k + i < 64 by omega]
    rw [e3]
  · rw [decide_eq_false (by omega), Bool.and_false, Bool.and_false]
theorem jx_pos {a b : Nat} (ha : a < 2 ^ 31) (hb : b < 2 ^ 31) : ¬ (nI a ^^^ nI b) < 0 := by
  have e : nI a ^^^ nI b = nI (a ^^^ b) := by
    apply Int32.toBitVec_inj.1
    show BitVec.ofNat 32 a ^^^ BitVec.ofNat 32 b = BitVec.ofNat 32 (a ^^^ b)
    apply BitVec.eq_of_getLsbD_eq
    intro i hi
    simp [hi]
  rw [e]
  exact nI_pos (Nat.xor_lt_two_pow ha hb)
/-! arrays' classes: one a type -/
theorem j_arr {args : Array Value} {s : State} {ty : FieldType} (h : (Cond.arrayClass ty).before args s = true) : ∃ cA : ClassId, ArrOfT s cA ty ∧ s.vm.findClass ("[" ++ ty.toString) = some cA := by
  obtain ⟨cA, kA, comp, h1, h2, h3⟩ := Cond.arrayClass_spec h
  exact ⟨cA, fun n z => ⟨fun k h => (by cases h), kA, h2, comp, h3⟩, h1⟩
theorem j_newa {p : Program} {l : Launch} {e : Env} {R : Room} {s : State} {m : MethodId} {args : Array Value} {below : List Frame} {meth : Method} {c : Code} {H : Heap} {locs : List Loc} {cells slots : Nat} {Q : State → Prop} {cc : ByteArray} {pc : Nat} {ls : Array Slot} {rest : List Value} {D : va_G} {A : Nat → Prop} {tys : List (ClassId × FieldType)} {ws : va_W} {H0 : Heap}
    (hx : p.tables.exec = Jvm.exec) (hb : c.code = cc) {atype : ArrayType} (harr : (Cond.arrayClass (newarray.typeOf atype)).before args s = true) {ty : FieldType} (hty : newarray.typeOf atype = ty) (hK : va_K D vwCl tys s) (hP : va_P D vwCl ws H) (hD : va_D A ws) (hS : va_S A H0 H locs) (hA : ∀ q, H0.size ≤ q → A q)
    {c0 : ClassId} (hq : ∀ cA, va_RA s cA ty → cA = c0) {n : Int32} {N' : Nat} (ha : ∀ cA : ClassId, vp_cell cA (N', .inl (fun _ => 0)) = arrV cA N' (fun _ => defaultValue ty)) (hn : ¬ n < 0) (hN : n.toNatClampNeg = N') (hbytes : N' * componentBytes ty ≤ 536870912) (hcells : cells + 1 ≤ R.cells) (hslots : slots + N' ≤ R.slots) (hdg : decode cc pc = .ok (.newarray atype, 2))
    (kk : ∀ (q : Nat) (H1 : Heap), va_P D vwCl (ws ++ [(q, .inl (c0, N', .inl (fun _ => 0)))]) H1 → va_D A (ws ++ [(q, .inl (c0, N', .inl (fun _ => 0)))]) → va_S A H0 H1 locs →
      W p l e R s m args below meth c H1 locs (cells + 1) (slots + N') Q (F0 m (pc + 2) ls (.ref q :: rest))) : W p l e R s m args below meth c H locs cells slots Q (F0 m pc ls (.int n :: rest)) := by
  refine va_newa hx hb harr hty hK hP hD hS hA (a0 := (N', .inl (fun _ => 0))) ha hn hN hbytes hcells hslots hdg (fun q cA H1 hK1 hP1 hD1 hS1 => ?_)
  have e := hq cA (hK1.2 tys.length (cA, ty) (by simp)).2
  subst e
  exact kk q H1 hP1 hD1 hS1
/-- the arrays that the classes make: bytes, ints, booleans -/
abbrev jT (cb ci cz : ClassId) : List (ClassId × FieldType) := [(cb, .byte), (ci, .int), (cz, .boolean)]
theorem j_qb {D : va_G} {cb ci cz : ClassId} {s : State} (hK : va_K D vwCl (jT cb ci cz) s) (cA : ClassId) (h : va_RA s cA .byte) : cA = cb := Option.some.inj ((va_nm_byte h).symm.trans (va_nm_byte (hK.2 0 _ rfl).2))
theorem j_qi {D : va_G} {cb ci cz : ClassId} {s : State} (hK : va_K D vwCl (jT cb ci cz) s) (cA : ClassId) (h : va_RA s cA .int) : cA = ci := Option.some.inj ((va_nm_int h).symm.trans (va_nm_int (hK.2 1 _ rfl).2))
theorem j_qz {D : va_G} {cb ci cz : ClassId} {s : State} (hK : va_K D vwCl (jT cb ci cz) s) (cA : ClassId) (h : va_RA s cA .boolean) : cA = cz := Option.some.inj ((va_nm_boolean h).symm.trans (va_nm_boolean (hK.2 2 _ rfl).2))
/-! numbers in a range, one below 0 -/
theorem j_rng {c : Int32} {a b : Nat} (ha : a < 2 ^ 31) (hb : b < 2 ^ 31) (h1 : ¬ c < nI a) (h2 : ¬ nI b < c) : ∃ cc : Nat, a ≤ cc ∧ cc ≤ b ∧ c = nI cc := by
  have h0 : ¬ c < 0 := fun q => h1 (Int32.lt_of_lt_of_le q (nI_pos' ha))
  obtain ⟨j, hj, rfl⟩ := nI_of h0
  rw [nI_ltI (by omega) (by omega)] at h1 h2
  exact ⟨j, by omega, by omega, rfl⟩
theorem j_m1lt {i : Nat} (hi : i < 2 ^ 31) : nI i + (-1) < 0 ↔ i = 0 := by
  cases i with
  | zero => exact ⟨fun _ => rfl, fun _ => by decide +kernel⟩
  | succ i =>
    rw [pk_m1]
    exact ⟨fun h => absurd h (nI_pos (by omega)), fun h => absurd h (by omega)⟩
theorem j_m1sub (n : Nat) : nI n - nI 1 = nI n + (-1) := Int32.sub_eq_add_neg _ _
theorem j_l4 {i L : Nat} (hi : i < 2 ^ 30) (hL : L < 2 ^ 30) : nI i ≤ nI L - nI 4 ↔ i + 4 ≤ L := by
  rw [Int32.le_iff_toInt_le, pk_sub_toInt hL (by omega), nI_toInt (by omega)]
  omega
theorem j_ne1 (z : Nat) (h : z ≤ 100) : ¬ nI z = -1 := by
  intro q
  have h1 : (nI z).toInt = (-1 : Int32).toInt := by rw [q]
  rw [nI_toInt (by omega)] at h1
  have h2 : (-1 : Int32).toInt = -1 := by decide +kernel
  omega
theorem j_lb {x : Int32} {b : Bool} {w : Nat} (hw : w ≤ 100) (h : x = if b = true then nI w else -1) : x = -1 ↔ b = false := by
  cases b with
  | false => exact ⟨fun _ => rfl, fun _ => h⟩
  | true => exact ⟨fun q => absurd ((show x = nI w from h).symm.trans q) (j_ne1 w hw), fun q => absurd q (by decide)⟩
theorem j_lbt {x : Int32} {b : Bool} {w : Nat} (hw : w ≤ 100) (h : x = if b = true then nI w else -1) (hx : ¬ x = -1) : b = true := by
  cases b with
  | false => exact absurd h hx
  | true => rfl
/-- a record at place j, as its ring tells it -/
theorem jR_L {old us pr : Nat} {dk L N : Nat → Int32} {k : Nat} {r : Nat → Bool} {z : Nat → Nat} {u : Nat → Int32} {y : Nat → Nat → Int32} (h : jR old us pr dk L N k r z u y) {j : Nat} (hj : j < k) : L ((old + js (jse r z) j) % 40) = if r j = true then nI (z j) else -1 := h.2.2.2.2.2.1 j hj
theorem jR_z {old us pr : Nat} {dk L N : Nat → Int32} {k : Nat} {r : Nat → Bool} {z : Nat → Nat} {u : Nat → Int32} {y : Nat → Nat → Int32} (h : jR old us pr dk L N k r z u y) {j : Nat} (hj : j < k) : z j ≤ 100 := h.2.2.2.2.1 j hj
theorem j_dec {a b : Nat} (h : b < a) : nI (a - b) + (-1) = nI (a - (b + 1)) := by
  obtain ⟨d, rfl⟩ : ∃ d, a = b + d + 1 := ⟨a - b - 1, by omega⟩
  rw [show b + d + 1 - b = d + 1 by omega, show b + d + 1 - (b + 1) = d by omega]
  exact pk_m1 d
theorem j_ar1 {tp d : Nat → Int32} {s i : Nat} (h : ∀ i0, i0 < i → d ((12 * s + i0) % 480) = (tp i0).toInt8.toInt32) (hi : i < 100) : ∀ i0, i0 < i + 1 → upd d ((12 * s + i) % 480) (tp i).toInt8.toInt32 ((12 * s + i0) % 480) = (tp i0).toInt8.toInt32 := by
  intro i0 h0
  by_cases e : i0 = i
  · rw [e, pk_us]
  · rw [pk_un (by omega)]
    exact h i0 (by omega)
theorem j_ar2 {dk d : Nat → Int32} {s i : Nat} {x : Int32} (h : ∀ q, q < 480 → (∀ i0, i0 < i → q ≠ (12 * s + i0) % 480) → d q = dk q) : ∀ q, q < 480 → (∀ i0, i0 < i + 1 → q ≠ (12 * s + i0) % 480) → upd d ((12 * s + i) % 480) x q = dk q := fun q hq hn => by
  rw [pk_un (hn i (by omega))]
  exact h q hq (fun i0 h0 => hn i0 (by omega))
/-- the byte that the class puts on its tape -/
def jcb (v : Int64) (k : Nat) : Int32 := (v.toUInt64 >>> ((nI (8 * k)).toInt64.toUInt64 &&& Int64.toUInt64 63)).toInt64.toInt32.toInt8.toInt32
theorem j_pt1 {F tq : Nat → Int32} {n q : Nat} {x : Int32} (h : ∀ j, j < n + q → tq j &&& 255 = F j) (hx : x &&& 255 = F (n + q)) : ∀ j, j < n + (q + 1) → upd tq (n + q) x j &&& 255 = F j := by
  intro j hj
  by_cases e : j = n + q
  · rw [e, pk_us]
    exact hx
  · rw [pk_un e]
    exact h j (by omega)
/-! A STATE OF THE JOURNAL: the tape (n bytes t), the entries (k of them), the next number, the whole entries, power, a cut that waits; and what each call makes of it -/
abbrev jM : Type := (Nat × (Nat → Int32)) × (Nat × (Nat → Bool) × (Nat → Nat) × (Nat → Int32) × (Nat → Nat → Int32)) × (Int32 × Int32 × Bool × Bool)
/-- the class's cells: tape, disk, lengths, numbers; taped, oldest, used, present; nextNumber, wholeEntries, power, cutNext -/
abbrev jDt : Type := (Nat → Int32) × (Nat → Int32) × (Nat → Int32) × (Nat → Int32) × Nat × Nat × Nat × Nat × Int32 × Int32 × Int32 × Int32
/-- the reference's cells: tape, isRecord, sizes, numbers, bytes; taped, kept; next, whole, off, cutting -/
abbrev jMt : Type := (Nat → Int32) × (Nat → Int32) × (Nat → Int32) × (Nat → Int32) × (Nat → Int32) × Nat × Nat × Int32 × Int32 × Int32 × Int32
def jDk (M : jM) (a : jDt) : Prop := match M, a with
  | ((n, t), (k, r, z, u, y), (nx, wh, pw, ct)), (tp, dk, L, N, td, old, us, pr, nx', wh', pw', ct') => td = n ∧ n ≤ 100 ∧ (∀ j, j < n → tp j &&& 255 = t j) ∧ jR old us pr dk L N k r z u y ∧ nx' = nx ∧ wh' = wh ∧ pw' = jbi pw ∧ ct' = jbi ct
def jMk (M : jM) (a : jMt) : Prop := match M, a with
  | ((n, t), (k, r, z, u, y), (nx, wh, pw, ct)), (tp, fB, fZ, fN, fY, td, kp, nx', wh', off, cut) => td = n ∧ n ≤ 100 ∧ (∀ j, j < n → tp j = t j) ∧ kp = k ∧ js (jse r z) k ≤ 40 ∧ (∀ j, j < k → z j ≤ 100) ∧ jE fB fZ fN fY k r z u y ∧ nx' = nx ∧ wh' = wh ∧ off = jbi (!pw) ∧ (cut = -1 ↔ ct = false)
def jop_pt (M : jM) (v : Int64) (c : Int32) : Int32 × jM := match M with
  | ((n, t), E, F) => if c < 1 ∨ 8 < c ∨ 100 < n + c.toNatClampNeg then (0, ((n, t), E, F)) else (1, ((n + c.toNatClampNeg, fun j => if n ≤ j ∧ j < n + c.toNatClampNeg then jby v (c.toNatClampNeg - 1 - (j - n)) else t j), E, F))
def jop_wr (M : jM) : Int32 × jM := match M with
  | ((n, t), (k, r, z, u, y), (nx, wh, pw, ct)) => if pw = false ∨ 40 < js (jse r z) k + jsc n then (-1, ((n, t), (k, r, z, u, y), (nx, wh, pw, ct))) else if ct = true then (-2, ((0, t), (k, r, z, u, y), (nx, wh, false, false))) else (nx, ((0, t), (k + 1, va_up r k true, va_up z k n, va_up u k nx, va_up y k t), (nx + 1, wh + 1, pw, ct)))
/-- the first entry that is kept behind a drop of many -/
def jdrF (k : Nat) (r : Nat → Bool) (many : Nat) : Nat := jfs (jPd (va_up r k false) many) k (k + 1)
theorem jdrF_le (k : Nat) (r : Nat → Bool) (many : Nat) : jdrF k r many ≤ k := jfs_le (k + 1) (Nat.le_refl k) (Nat.le_refl _)
def jdrE (k : Nat) (r : Nat → Bool) (z : Nat → Nat) (u : Nat → Int32) (y : Nat → Nat → Int32) (f : Nat) : Nat × (Nat → Bool) × (Nat → Nat) × (Nat → Int32) × (Nat → Nat → Int32) := (k + 1 - f, fun j => va_up r k false (j + f), fun j => va_up z k 0 (j + f), fun j => u (j + f), fun j => y (j + f))
def jop_dr (M : jM) (c : Int32) : Int32 × jM := match M with
  | ((n, t), (k, r, z, u, y), (nx, wh, pw, ct)) => if pw = false ∨ c < 0 ∨ nI (js (jcn r) k) < c ∨ 40 < js (jse r z) k + 1 then (-1, ((n, t), (k, r, z, u, y), (nx, wh, pw, ct))) else if ct = true then (-2, ((n, t), (k, r, z, u, y), (nx, wh, false, false))) else (nI (js (jcn r) k - c.toNatClampNeg), ((n, t), jdrE k r z u y (jdrF k r c.toNatClampNeg), (nx, wh + 1, pw, ct)))
def jop_cu (M : jM) (c : Int32) : Int32 × jM := match M with
  | (T, E, (nx, wh, pw, ct)) => if c < -1 ∨ 8 < c then (0, (T, E, (nx, wh, pw, ct))) else (1, (T, E, (nx, wh, pw, decide (c ≠ -1))))
def jop_st (M : jM) : Int32 × jM := match M with
  | (T, (k, r, z, u, y), (nx, wh, pw, ct)) => if pw = true then (-1, (T, (k, r, z, u, y), (nx, wh, pw, ct))) else (nI (js (jcn r) k), (T, (k, r, z, u, y), (nx, wh, true, ct)))
/-- j is the i-th record that is there -/
def jfd (k : Nat) (r : Nat → Bool) (pw : Bool) (i : Int32) (j : Nat) : Prop := pw = true ∧ j < k ∧ r j = true ∧ i = nI (js (jcn r) j)
theorem jfd_uni {k : Nat} {r : Nat → Bool} {pw : Bool} {i : Int32} {a b : Nat} (hk : k ≤ 40) (h : jfd k r pw i a) (h2 : jfd k r pw i b) : a = b := by
  obtain ⟨-, ha, ra, ea⟩ := h
  obtain ⟨-, hb, rb, eb⟩ := h2
  have c1 := jct_le r a
  have c2 := jct_le r b
  rw [ea, nI_eq (by omega) (by omega)] at eb
  exact jct_inj ra rb eb
def jop_rc (M : jM) (i w a : Int32) : Prop := match M with
  | (_, (k, r, z, u, _), (_, _, pw, _)) => (∃ j, jfd k r pw i j ∧ a = if w = 0 then nI (z j) else if w = 1 then u j else -1) ∨ ((∀ j, ¬ jfd k r pw i j) ∧ a = -1)
def jop_by (M : jM) (i c : Int32) (a : Int64) : Prop := match M with
  | (_, (k, r, z, _, y), (_, _, pw, _)) => (∃ j, jfd k r pw i j ∧ a = if c < 0 then -1 else je8 (fun b => if c.toNatClampNeg + b < z j then y j (c.toNatClampNeg + b) else 0) 8) ∨ ((∀ j, ¬ jfd k r pw i j) ∧ a = -1)
theorem jop_rc_uni {n : Nat} {t : Nat → Int32} {k : Nat} {r : Nat → Bool} {z : Nat → Nat} {u : Nat → Int32} {y : Nat → Nat → Int32} {nx wh : Int32} {pw ct : Bool} {i w a b : Int32} (hk : k ≤ 40) (h : jop_rc ((n, t), (k, r, z, u, y), (nx, wh, pw, ct)) i w a) (h2 : jop_rc ((n, t), (k, r, z, u, y), (nx, wh, pw, ct)) i w b) : a = b := by
  rcases h with ⟨j, hj, ea⟩ | ⟨hn, ea⟩
  · rcases h2 with ⟨j2, hj2, eb⟩ | ⟨hn2, eb⟩
    · rw [ea, eb, jfd_uni hk hj hj2]
    · exact absurd hj (hn2 j)
  · rcases h2 with ⟨j2, hj2, eb⟩ | ⟨hn2, eb⟩
    · exact absurd hj2 (hn j2)
    · rw [ea, eb]
theorem jop_by_uni {n : Nat} {t : Nat → Int32} {k : Nat} {r : Nat → Bool} {z : Nat → Nat} {u : Nat → Int32} {y : Nat → Nat → Int32} {nx wh : Int32} {pw ct : Bool} {i c : Int32} {a b : Int64} (hk : k ≤ 40) (h : jop_by ((n, t), (k, r, z, u, y), (nx, wh, pw, ct)) i c a) (h2 : jop_by ((n, t), (k, r, z, u, y), (nx, wh, pw, ct)) i c b) : a = b := by
  rcases h with ⟨j, hj, ea⟩ | ⟨hn, ea⟩
  · rcases h2 with ⟨j2, hj2, eb⟩ | ⟨hn2, eb⟩
    · rw [ea, eb, jfd_uni hk hj hj2]
    · exact absurd hj (hn2 j)
  · rcases h2 with ⟨j2, hj2, eb⟩ | ⟨hn2, eb⟩
    · exact absurd hj2 (hn j2)
    · rw [ea, eb]
def jop_ct (M : jM) (w : Int32) : Int32 := match M with
  | ((n, _), (k, r, z, _, _), (_, wh, pw, _)) => if w = 0 then nI n else if w = 1 then (if pw = true then nI (js (jcn r) k) else 0) else if w = 2 then (if pw = true then nI (js (jse r z) k) else 0) else if w = 3 then wh else if w = 4 then jbi pw else -1
theorem jpt_ref {n : Nat} {t : Nat → Int32} {E : Nat × (Nat → Bool) × (Nat → Nat) × (Nat → Int32) × (Nat → Nat → Int32)} {F : Int32 × Int32 × Bool × Bool} {v : Int64} {c : Int32} (h : c < 1 ∨ 8 < c ∨ 100 < n + c.toNatClampNeg) : jop_pt ((n, t), E, F) v c = (0, ((n, t), E, F)) := if_pos h
theorem jpt_ok {n : Nat} {t : Nat → Int32} {E : Nat × (Nat → Bool) × (Nat → Nat) × (Nat → Int32) × (Nat → Nat → Int32)} {F : Int32 × Int32 × Bool × Bool} {v : Int64} {cc : Nat} (h1 : 1 ≤ cc) (h8 : cc ≤ 8) (h : n + cc ≤ 100) : jop_pt ((n, t), E, F) v (nI cc) = (1, ((n + cc, fun j => if n ≤ j ∧ j < n + cc then jby v (cc - 1 - (j - n)) else t j), E, F)) := by
  have e : ¬ (nI cc < 1 ∨ 8 < nI cc ∨ 100 < n + (nI cc).toNatClampNeg) := by
    rw [show (1 : Int32) = nI 1 from rfl, show (8 : Int32) = nI 8 from rfl, nI_ltI (by omega) (by omega), nI_ltI (by omega) (by omega), nI_clamp (by omega)]
    omega
  have e2 : jop_pt ((n, t), E, F) v (nI cc) = (1, ((n + (nI cc).toNatClampNeg, fun j => if n ≤ j ∧ j < n + (nI cc).toNatClampNeg then jby v ((nI cc).toNatClampNeg - 1 - (j - n)) else t j), E, F)) := if_neg e
  rw [nI_clamp (show cc < 2 ^ 31 by omega)] at e2
  exact e2
section JOP
variable {n : Nat} {t : Nat → Int32} {k : Nat} {r : Nat → Bool} {z : Nat → Nat} {u : Nat → Int32} {y : Nat → Nat → Int32} {nx wh : Int32} {pw ct : Bool}
theorem jwr_ref (h : pw = false ∨ 40 < js (jse r z) k + jsc n) : jop_wr ((n, t), (k, r, z, u, y), (nx, wh, pw, ct)) = (-1, ((n, t), (k, r, z, u, y), (nx, wh, pw, ct))) := if_pos h
theorem jwr_cut (h : js (jse r z) k + jsc n ≤ 40) : jop_wr ((n, t), (k, r, z, u, y), (nx, wh, true, true)) = (-2, ((0, t), (k, r, z, u, y), (nx, wh, false, false))) := by
  show (if true = false ∨ 40 < js (jse r z) k + jsc n then _ else _) = _
  rw [if_neg (by simp; omega)]
  rfl
theorem jwr_ok (h : js (jse r z) k + jsc n ≤ 40) : jop_wr ((n, t), (k, r, z, u, y), (nx, wh, true, false)) = (nx, ((0, t), (k + 1, va_up r k true, va_up z k n, va_up u k nx, va_up y k t), (nx + 1, wh + 1, true, false))) := by
  show (if true = false ∨ 40 < js (jse r z) k + jsc n then _ else _) = _
  rw [if_neg (by simp; omega)]
  rfl
theorem jdr_ref {c : Int32} (h : pw = false ∨ c < 0 ∨ nI (js (jcn r) k) < c ∨ 40 < js (jse r z) k + 1) : jop_dr ((n, t), (k, r, z, u, y), (nx, wh, pw, ct)) c = (-1, ((n, t), (k, r, z, u, y), (nx, wh, pw, ct))) := if_pos h
theorem jdr_cut {c : Int32} (h0 : ¬ c < 0) (h1 : ¬ nI (js (jcn r) k) < c) (h : js (jse r z) k + 1 ≤ 40) : jop_dr ((n, t), (k, r, z, u, y), (nx, wh, true, true)) c = (-2, ((n, t), (k, r, z, u, y), (nx, wh, false, false))) := by
  show (if true = false ∨ c < 0 ∨ nI (js (jcn r) k) < c ∨ 40 < js (jse r z) k + 1 then _ else _) = _
  rw [if_neg (by intro q; rcases q with q | q | q | q; exact absurd q (by decide); exact h0 q; exact h1 q; omega)]
  rfl
theorem jdr_ok {c : Int32} {cc : Nat} (hc : c = nI cc) (h31 : cc < 2 ^ 31) (h0 : ¬ c < 0) (h1 : ¬ nI (js (jcn r) k) < c) (h : js (jse r z) k + 1 ≤ 40) : jop_dr ((n, t), (k, r, z, u, y), (nx, wh, true, false)) c = (nI (js (jcn r) k - cc), ((n, t), jdrE k r z u y (jdrF k r cc), (nx, wh + 1, true, false))) := by
  show (if true = false ∨ c < 0 ∨ nI (js (jcn r) k) < c ∨ 40 < js (jse r z) k + 1 then _ else _) = _
  rw [if_neg (by intro q; rcases q with q | q | q | q; exact absurd q (by decide); exact h0 q; exact h1 q; omega)]
  rw [hc, nI_clamp h31]
  rfl
end JOP
/-! the cells of both sides, as lists; rows about the entries -/
abbrev jDw (h0 qt qr qd ql qn : Nat) (cb ci : ClassId) (a : jDt) : va_W := match a with
  | (tp, dk, L, N, td, old, us, pr, nx, wh, pw, ct) => [(h0, .inr (1, [.ref qt, .int (nI td), .ref qr, .int nx, .int wh, .int pw, .int ct])), (qt, .inl (cb, 100, .inl tp)), (qr, .inr (0, [.ref qd, .ref ql, .ref qn, .int (nI old), .int (nI us), .int (nI pr)])), (qd, .inl (cb, 480, .inl dk)), (ql, .inl (ci, 40, .inl L)), (qn, .inl (ci, 40, .inl N))]
abbrev jMw (g0 mt mb mz mn my : Nat) (ci cz : ClassId) (a : jMt) : va_W := match a with
  | (tp, fB, fZ, fN, fY, td, kp, nx, wh, off, cut) => [(g0, .inr (2, [.ref mt, .int (nI td), .int (nI kp), .ref mb, .ref mz, .ref mn, .ref my, .int nx, .int wh, .int off, .int cut])), (mt, .inl (ci, 100, .inl tp)), (mb, .inl (cz, 41, .inl fB)), (mz, .inl (ci, 41, .inl fZ)), (mn, .inl (ci, 41, .inl fN)), (my, .inl (ci, 4100, .inl fY))]
section JLM
variable {n : Nat} {t : Nat → Int32} {k : Nat} {r : Nat → Bool} {z : Nat → Nat} {u : Nat → Int32} {y : Nat → Nat → Int32} {nx wh : Int32} {pw ct : Bool}
theorem jDk_i {tp dk L N : Nat → Int32} {td old us pr : Nat} {nx' wh' pw' ct' : Int32} (h1 : td = n) (h2 : n ≤ 100) (h3 : ∀ j, j < n → tp j &&& 255 = t j) (h4 : jR old us pr dk L N k r z u y) (h5 : nx' = nx) (h6 : wh' = wh) (h7 : pw' = jbi pw) (h8 : ct' = jbi ct) : jDk ((n, t), (k, r, z, u, y), (nx, wh, pw, ct)) (tp, dk, L, N, td, old, us, pr, nx', wh', pw', ct') := And.intro h1 (And.intro h2 (And.intro h3 (And.intro h4 (And.intro h5 (And.intro h6 (And.intro h7 h8))))))
theorem jMk_i {tp fB fZ fN fY : Nat → Int32} {td kp : Nat} {nx' wh' off cut : Int32} (h1 : td = n) (h2 : n ≤ 100) (h3 : ∀ j, j < n → tp j = t j) (h4 : kp = k) (h5 : js (jse r z) k ≤ 40) (h6 : ∀ j, j < k → z j ≤ 100) (h7 : jE fB fZ fN fY k r z u y) (h8 : nx' = nx) (h9 : wh' = wh) (h10 : off = jbi (!pw)) (h11 : cut = -1 ↔ ct = false) : jMk ((n, t), (k, r, z, u, y), (nx, wh, pw, ct)) (tp, fB, fZ, fN, fY, td, kp, nx', wh', off, cut) := And.intro h1 (And.intro h2 (And.intro h3 (And.intro h4 (And.intro h5 (And.intro h6 (And.intro h7 (And.intro h8 (And.intro h9 (And.intro h10 h11)))))))))
end JLM
theorem jbn_t {b : Bool} (h : ¬ jbi (!b) = 0) : b = false := by
  cases b with
  | false => rfl
  | true => exact absurd rfl h
theorem jbn_f {b : Bool} (h : jbi (!b) = 0) : b = true := by
  cases b with
  | false => exact absurd h (by decide)
  | true => rfl
theorem jfs_t {P : Nat → Bool} {n d : Nat} (h : P n = true) : jfs P d (n + 1) = jfs P n n := by
  show jfs P (if P n = true then n else d) n = _
  rw [if_pos h]
theorem jfs_f {P : Nat → Bool} {n d : Nat} (h : P n = false) : jfs P d (n + 1) = jfs P d n := by
  show jfs P (if P n = true then n else d) n = _
  rw [if_neg (by rw [h]; decide)]
theorem j_pt2 {F tq : Nat → Int32} {n q : Nat} {x : Int32} (h : ∀ j, j < n + q → tq j = F j) (hx : x = F (n + q)) : ∀ j, j < n + (q + 1) → upd tq (n + q) x j = F j := by
  intro j hj
  by_cases e : j = n + q
  · rw [e, pk_us]
    exact hx
  · rw [pk_un e]
    exact h j (by omega)
theorem j_us {f : Nat → Int32} {a b : Nat} {x : Int32} (h : f a = x) : upd f b x a = x := by
  by_cases e : a = b
  · rw [e, pk_us]
  · rw [pk_un e]
    exact h
theorem j_wr1 {d tp : Nat → Int32} {k i : Nat} (h : ∀ i0, i0 < i → d (100 * k + i0) = tp i0) : ∀ i0, i0 < i + 1 → upd d (100 * k + i) (tp i) (100 * k + i0) = tp i0 := by
  intro i0 h0
  by_cases e : i0 = i
  · rw [e, pk_us]
  · rw [pk_un (by omega)]
    exact h i0 (by omega)
theorem j_wr2 {d fY : Nat → Int32} {k i : Nat} {x : Int32} (h : ∀ q, q < 100 * k → d q = fY q) : ∀ q, q < 100 * k → upd d (100 * k + i) x q = fY q := by
  intro q hq
  rw [pk_un (by omega)]
  exact h q hq
theorem j_mv1 {d fY : Nat → Int32} {a b i : Nat} (hd : ∀ q, d q = if 100 * b ≤ q ∧ q < 100 * b + i then fY (100 * a + (q - 100 * b)) else fY q) : ∀ q, upd d (100 * b + i) (fY (100 * a + i)) q = if 100 * b ≤ q ∧ q < 100 * b + (i + 1) then fY (100 * a + (q - 100 * b)) else fY q := by
  intro q
  by_cases e : q = 100 * b + i
  · rw [e, pk_us, if_pos (by omega), show 100 * b + i - 100 * b = i by omega]
  · rw [pk_un e, hd]
    by_cases e2 : 100 * b ≤ q ∧ q < 100 * b + i
    · rw [if_pos e2, if_pos (by omega)]
    · rw [if_neg e2, if_neg (by omega)]
section JEL
variable {fB fZ fN fY : Nat → Int32} {k : Nat} {r : Nat → Bool} {z : Nat → Nat} {u : Nat → Int32} {y : Nat → Nat → Int32}
theorem jE_0 : jE fB fZ fN fY 0 r z u y := ⟨fun _ h => absurd h (Nat.not_lt_zero _), fun _ h => absurd h (Nat.not_lt_zero _), fun _ h => absurd h (Nat.not_lt_zero _), fun _ _ h => absurd h (Nat.not_lt_zero _)⟩
theorem jE_add {n : Nat} {t d : Nat → Int32} {nx : Int32} (hE : jE fB fZ fN fY k r z u y) (hz : ∀ j, j < k → z j ≤ 100) (h1 : ∀ i, i < n → d (100 * k + i) = t i) (h2 : ∀ q, q < 100 * k → d q = fY q) :
    jE (upd fB k (nI 1)) (upd fZ k (nI n)) (upd fN k nx) d (k + 1) (va_up r k true) (va_up z k n) (va_up u k nx) (va_up y k t) := by
  obtain ⟨e1, e2, e3, e4⟩ := hE
  refine ⟨fun j hj => ?_, fun j hj => ?_, fun j hj hr => ?_, fun j i hj hi => ?_⟩
  · by_cases e : j = k
    · rw [e, pk_us, va_up_self]
      rfl
    · rw [pk_un e, va_up_ne r true e]
      exact e1 j (by omega)
  · by_cases e : j = k
    · rw [e, pk_us, va_up_self]
    · rw [pk_un e, va_up_ne z n e]
      exact e2 j (by omega)
  · by_cases e : j = k
    · rw [e, pk_us, va_up_self]
    · rw [va_up_ne r true e] at hr
      rw [pk_un e, va_up_ne u nx e]
      exact e3 j (by omega) hr
  · by_cases e : j = k
    · rw [e, va_up_self] at hi
      rw [e, va_up_self]
      exact h1 i hi
    · rw [va_up_ne z n e] at hi
      have h5 := hz j (by omega)
      rw [va_up_ne y t e, h2 _ (by omega)]
      exact e4 j i (by omega) hi
theorem jE_drp (hE : jE fB fZ fN fY k r z u y) : jE (upd fB k (nI 0)) (upd fZ k (nI 0)) fN fY (k + 1) (va_up r k false) (va_up z k 0) u y := by
  obtain ⟨e1, e2, e3, e4⟩ := hE
  refine ⟨fun j hj => ?_, fun j hj => ?_, fun j hj hr => ?_, fun j i hj hi => ?_⟩
  · by_cases e : j = k
    · rw [e, pk_us, va_up_self]
      rfl
    · rw [pk_un e, va_up_ne r false e]
      exact e1 j (by omega)
  · by_cases e : j = k
    · rw [e, pk_us, va_up_self]
    · rw [pk_un e, va_up_ne z 0 e]
      exact e2 j (by omega)
  · by_cases e : j = k
    · rw [e, va_up_self] at hr
      exact absurd hr (by decide)
    · rw [va_up_ne r false e] at hr
      exact e3 j (by omega) hr
  · by_cases e : j = k
    · rw [e, va_up_self] at hi
      exact absurd hi (Nat.not_lt_zero _)
    · rw [va_up_ne z 0 e] at hi
      exact e4 j i (by omega) hi
theorem jse_drp (r : Nat → Bool) (z : Nat → Nat) (k : Nat) : js (jse (va_up r k false) (va_up z k 0)) (k + 1) = js (jse r z) k + 1 := by
  rw [js_step, jse_f (va_up_self r k false), js_congr k (fun i hi => by
    show jse (va_up r k false) (va_up z k 0) i = jse r z i
    unfold jse
    rw [va_up_ne r false (show i ≠ k by omega), va_up_ne z 0 (show i ≠ k by omega)])]
theorem jcn_drp {r : Nat → Bool} {k : Nat} : js (jcn (va_up r k false)) (k + 1) = js (jcn r) k := by
  rw [js_step, jcn_f (va_up_self r k false), Nat.add_zero]
  exact js_congr k (fun i hi => by
    unfold jcn
    rw [va_up_ne r false (show i ≠ k by omega)])
theorem jz_drp (hz : ∀ j, j < k → z j ≤ 100) : ∀ j, j < k + 1 → va_up z k 0 j ≤ 100 := by
  intro j hj
  by_cases e : j = k
  · rw [e, va_up_self]
    omega
  · rw [va_up_ne z 0 e]
    exact hz j (by omega)
theorem jus_drp {f : Nat} (h : js (jse r z) k + 1 ≤ 40) (hf : f ≤ k) : js (jse (fun j => va_up r k false (j + f)) (fun j => va_up z k 0 (j + f))) (k + 1 - f) ≤ 40 := by
  have h1 := js_add (jse (va_up r k false) (va_up z k 0)) f (k + 1 - f)
  rw [show k + 1 - f + f = k + 1 by omega, jse_drp] at h1
  have h2 : js (jse (fun j => va_up r k false (j + f)) (fun j => va_up z k 0 (j + f))) (k + 1 - f) = js (fun j => jse (va_up r k false) (va_up z k 0) (j + f)) (k + 1 - f) := rfl
  omega
theorem jus_add {n : Nat} (h : js (jse r z) k + jsc n ≤ 40) : js (jse (va_up r k true) (va_up z k n)) (k + 1) ≤ 40 := by
  rw [js_step, jse_t (va_up_self r k true), va_up_self, js_congr k (fun i hi => by
    show jse (va_up r k true) (va_up z k n) i = jse r z i
    unfold jse
    rw [va_up_ne r true (show i ≠ k by omega), va_up_ne z n (show i ≠ k by omega)])]
  exact h
theorem jz_add {n : Nat} (hz : ∀ j, j < k → z j ≤ 100) (hn : n ≤ 100) : ∀ j, j < k + 1 → va_up z k n j ≤ 100 := by
  intro j hj
  by_cases e : j = k
  · rw [e, va_up_self]
    exact hn
  · rw [va_up_ne z n e]
    exact hz j (by omega)
theorem jE_mv {r1 : Nat → Bool} {z1 : Nat → Nat} {f j : Nat} {d : Nat → Int32} (hfj : f ≤ j) (hz1 : ∀ i, i < k + 1 → z1 i ≤ 100) (hc : jE fB fZ fN fY (j - f) (fun i => r1 (i + f)) (fun i => z1 (i + f)) (fun i => u (i + f)) (fun i => y (i + f)))
    (hoj : fB j = jbi (r1 j) ∧ fZ j = nI (z1 j) ∧ (r1 j = true → fN j = u j) ∧ ∀ b, b < z1 j → fY (100 * j + b) = y j b)
    (hd : ∀ q, d q = if 100 * (j - f) ≤ q ∧ q < 100 * (j - f) + z1 j then fY (100 * j + (q - 100 * (j - f))) else fY q) (hjk : j < k + 1) :
    jE (upd fB (j - f) (jbi (r1 j))) (upd fZ (j - f) (nI (z1 j))) (upd fN (j - f) (fN j)) d (j + 1 - f) (fun i => r1 (i + f)) (fun i => z1 (i + f)) (fun i => u (i + f)) (fun i => y (i + f)) := by
  obtain ⟨e1, e2, e3, e4⟩ := hc
  refine ⟨fun i hi => ?_, fun i hi => ?_, fun i hi hr => ?_, fun i b hi hb => ?_⟩
  · show upd fB (j - f) (jbi (r1 j)) i = jbi (r1 (i + f))
    by_cases q : i = j - f
    · rw [q, pk_us, show j - f + f = j by omega]
    · rw [pk_un q]
      exact e1 i (by omega)
  · show upd fZ (j - f) (nI (z1 j)) i = nI (z1 (i + f))
    by_cases q : i = j - f
    · rw [q, pk_us, show j - f + f = j by omega]
    · rw [pk_un q]
      exact e2 i (by omega)
  · show upd fN (j - f) (fN j) i = u (i + f)
    have hr : r1 (i + f) = true := hr
    by_cases q : i = j - f
    · rw [show i + f = j by omega] at hr ⊢
      rw [q, pk_us]
      exact hoj.2.2.1 hr
    · rw [pk_un q]
      exact e3 i (by omega) hr
  · show d (100 * i + b) = y (i + f) b
    have hb : b < z1 (i + f) := hb
    by_cases q : i = j - f
    · rw [show i + f = j by omega] at hb ⊢
      rw [hd, if_pos (by omega), show 100 * j + (100 * i + b - 100 * (j - f)) = 100 * j + b by omega]
      exact hoj.2.2.2 b hb
    · have h5 := hz1 (i + f) (by omega)
      rw [hd, if_neg (by omega)]
      exact e4 i b (by omega) hb
theorem jE_mv2 {r1 : Nat → Bool} {z1 : Nat → Nat} {f j : Nat} {d : Nat → Int32} {x1 x2 x3 : Int32} (hfj : f ≤ j) (hz1 : ∀ i, i < k + 1 → z1 i ≤ 100)
    (ho : ∀ i, j ≤ i → i < k + 1 → fB i = jbi (r1 i) ∧ fZ i = nI (z1 i) ∧ (r1 i = true → fN i = u i) ∧ ∀ b, b < z1 i → fY (100 * i + b) = y i b)
    (hd : ∀ q, d q = if 100 * (j - f) ≤ q ∧ q < 100 * (j - f) + z1 j then fY (100 * j + (q - 100 * (j - f))) else fY q) (hjk : j < k + 1) :
    ∀ i, j + 1 ≤ i → i < k + 1 → upd fB (j - f) x1 i = jbi (r1 i) ∧ upd fZ (j - f) x2 i = nI (z1 i) ∧ (r1 i = true → upd fN (j - f) x3 i = u i) ∧ ∀ b, b < z1 i → d (100 * i + b) = y i b := by
  intro i h1 h2
  obtain ⟨e1, e2, e3, e4⟩ := ho i (by omega) h2
  have h3 := hz1 j hjk
  rw [pk_un (show i ≠ j - f by omega), pk_un (show i ≠ j - f by omega), pk_un (show i ≠ j - f by omega)]
  refine ⟨e1, e2, e3, fun b hb => ?_⟩
  rw [hd, if_neg (by omega)]
  exact e4 b hb
end JEL
theorem j_sub0 {x y : Int32} (h : x - y = 0) : x = y := by
  have e : x - y + y = x := Int32.sub_add_cancel x y
  rw [h, Int32.zero_add] at e
  exact e.symm
theorem j_ss (x : Int32) (a : Nat) : x - nI a - nI 1 = x - nI (a + 1) := by rw [Int32.sub_sub, nI_add]
