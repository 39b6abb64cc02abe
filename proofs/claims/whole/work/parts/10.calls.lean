set_option maxHeartbeats 4000000 in
set_option maxRecDepth 100000 in
theorem w_D_put (l : Launch) (D : va_G) (cb ci cz : ClassId) (h0 qt qr qd ql qn : Nat) (M : jM) (a : jDt) (h : jDk M a) (v : Int64) (cv : Int32) (sz : Nat) : Met l yX1_put wsX1_put rm_D_put (va_Pc [.ref h0, .long v, .int cv] (j_pre D (jT cb ci cz) (jDw h0 qt qr qd ql qn cb ci a) sz)) (va_Qi (fun (x : Int32) (b : jDt) => x = (jop_pt M v cv).1 ∧ jDk (jop_pt M v cv).2 b) (j_post D (jT cb ci cz) (jDw h0 qt qr qd ql qn cb ci) (va_A (jDw h0 qt qr qd ql qn cb ci a) sz)) (va_A (jDw h0 qt qr qd ql qn cb ci a) sz)) 0 0 (va_A (jDw h0 qt qr qd ql qn cb ci a) sz) := by
  obtain ⟨⟨n, t⟩, ⟨k, r, z, u, y⟩, ⟨nx, wh, pw, ct⟩⟩ := M
  obtain ⟨tp, dk, L, N, td, old, us, pr, nx1, wh1, pw1, ct1⟩ := a
  obtain ⟨h1, h2, h3, h4, h5, h6, h7, h8⟩ := h
  subst h1; subst h5; subst h6; subst h7; subst h8
  exact c_D_put l D cb ci cz h0 qt tp qr qd ql qn dk L N old us pr _ t k r z u y _ _ pw ct v cv h2 h3 h4 sz
set_option maxHeartbeats 4000000 in
set_option maxRecDepth 100000 in
theorem w_M_put (l : Launch) (D : va_G) (cb ci cz : ClassId) (g0 mt mb mz mn my : Nat) (M : jM) (a : jMt) (h : jMk M a) (v : Int64) (cv : Int32) (sz : Nat) : Met l yX2_put wsX2_put rm_M_put (va_Pc [.ref g0, .long v, .int cv] (j_pre D (jT cb ci cz) (jMw g0 mt mb mz mn my ci cz a) sz)) (va_Qi (fun (x : Int32) (b : jMt) => x = (jop_pt M v cv).1 ∧ jMk (jop_pt M v cv).2 b) (j_post D (jT cb ci cz) (jMw g0 mt mb mz mn my ci cz) (va_A (jMw g0 mt mb mz mn my ci cz a) sz)) (va_A (jMw g0 mt mb mz mn my ci cz a) sz)) 0 0 (va_A (jMw g0 mt mb mz mn my ci cz a) sz) := by
  obtain ⟨⟨n, t⟩, ⟨k, r, z, u, y⟩, ⟨nx, wh, pw, ct⟩⟩ := M
  obtain ⟨tp, fB, fZ, fN, fY, td, kp, nx1, wh1, off, cu⟩ := a
  obtain ⟨h1, h2, h3, h4, h5, h6, h7, h8, h9, h10, h11⟩ := h
  subst h1; subst h4; subst h8; subst h9; subst h10
  exact c_M_put l D cb ci cz g0 mt mb mz mn my tp fB fZ fN fY _ t _ r z u y _ _ pw ct cu v cv h2 h3 h5 h6 h7 h11 sz
set_option maxHeartbeats 4000000 in
set_option maxRecDepth 100000 in
theorem w_D_write (l : Launch) (D : va_G) (cb ci cz : ClassId) (h0 qt qr qd ql qn : Nat) (M : jM) (a : jDt) (h : jDk M a) (sz : Nat) : Met l yX1_write wsX1_write rm_D_write (va_Pc [.ref h0] (j_pre D (jT cb ci cz) (jDw h0 qt qr qd ql qn cb ci a) sz)) (va_Qi (fun (x : Int32) (b : jDt) => x = (jop_wr M).1 ∧ jDk (jop_wr M).2 b) (j_post D (jT cb ci cz) (jDw h0 qt qr qd ql qn cb ci) (va_A (jDw h0 qt qr qd ql qn cb ci a) sz)) (va_A (jDw h0 qt qr qd ql qn cb ci a) sz)) 0 0 (va_A (jDw h0 qt qr qd ql qn cb ci a) sz) := by
  obtain ⟨⟨n, t⟩, ⟨k, r, z, u, y⟩, ⟨nx, wh, pw, ct⟩⟩ := M
  obtain ⟨tp, dk, L, N, td, old, us, pr, nx1, wh1, pw1, ct1⟩ := a
  obtain ⟨h1, h2, h3, h4, h5, h6, h7, h8⟩ := h
  subst h1; subst h5; subst h6; subst h7; subst h8
  exact c_D_write l D cb ci cz h0 qt tp qr qd ql qn dk L N old us pr _ t k r z u y _ _ pw ct  h2 h3 h4 sz
set_option maxHeartbeats 4000000 in
set_option maxRecDepth 100000 in
theorem w_M_write (l : Launch) (D : va_G) (cb ci cz : ClassId) (g0 mt mb mz mn my : Nat) (M : jM) (a : jMt) (h : jMk M a) (sz : Nat) : Met l yX2_write wsX2_write rm_M_write (va_Pc [.ref g0] (j_pre D (jT cb ci cz) (jMw g0 mt mb mz mn my ci cz a) sz)) (va_Qi (fun (x : Int32) (b : jMt) => x = (jop_wr M).1 ∧ jMk (jop_wr M).2 b) (j_post D (jT cb ci cz) (jMw g0 mt mb mz mn my ci cz) (va_A (jMw g0 mt mb mz mn my ci cz a) sz)) (va_A (jMw g0 mt mb mz mn my ci cz a) sz)) 0 0 (va_A (jMw g0 mt mb mz mn my ci cz a) sz) := by
  obtain ⟨⟨n, t⟩, ⟨k, r, z, u, y⟩, ⟨nx, wh, pw, ct⟩⟩ := M
  obtain ⟨tp, fB, fZ, fN, fY, td, kp, nx1, wh1, off, cu⟩ := a
  obtain ⟨h1, h2, h3, h4, h5, h6, h7, h8, h9, h10, h11⟩ := h
  subst h1; subst h4; subst h8; subst h9; subst h10
  exact c_M_write l D cb ci cz g0 mt mb mz mn my tp fB fZ fN fY _ t _ r z u y _ _ pw ct cu  h2 h3 h5 h6 h7 h11 sz
set_option maxHeartbeats 4000000 in
set_option maxRecDepth 100000 in
theorem w_D_drop (l : Launch) (D : va_G) (cb ci cz : ClassId) (h0 qt qr qd ql qn : Nat) (M : jM) (a : jDt) (h : jDk M a) (mv : Int32) (sz : Nat) : Met l yX1_drop wsX1_drop rm_D_drop (va_Pc [.ref h0, .int mv] (j_pre D (jT cb ci cz) (jDw h0 qt qr qd ql qn cb ci a) sz)) (va_Qi (fun (x : Int32) (b : jDt) => x = (jop_dr M mv).1 ∧ jDk (jop_dr M mv).2 b) (j_post D (jT cb ci cz) (jDw h0 qt qr qd ql qn cb ci) (va_A (jDw h0 qt qr qd ql qn cb ci a) sz)) (va_A (jDw h0 qt qr qd ql qn cb ci a) sz)) 0 0 (va_A (jDw h0 qt qr qd ql qn cb ci a) sz) := by
  obtain ⟨⟨n, t⟩, ⟨k, r, z, u, y⟩, ⟨nx, wh, pw, ct⟩⟩ := M
  obtain ⟨tp, dk, L, N, td, old, us, pr, nx1, wh1, pw1, ct1⟩ := a
  obtain ⟨h1, h2, h3, h4, h5, h6, h7, h8⟩ := h
  subst h1; subst h5; subst h6; subst h7; subst h8
  exact c_D_drop l D cb ci cz h0 qt tp qr qd ql qn dk L N old us pr _ t k r z u y _ _ pw ct mv h2 h3 h4 sz
set_option maxHeartbeats 4000000 in
set_option maxRecDepth 100000 in
theorem w_M_drop (l : Launch) (D : va_G) (cb ci cz : ClassId) (g0 mt mb mz mn my : Nat) (M : jM) (a : jMt) (h : jMk M a) (mv : Int32) (sz : Nat) : Met l yX2_drop wsX2_drop2 rm_M_drop (va_Pc [.ref g0, .int mv] (j_pre D (jT cb ci cz) (jMw g0 mt mb mz mn my ci cz a) sz)) (va_Qi (fun (x : Int32) (b : jMt) => x = (jop_dr M mv).1 ∧ jMk (jop_dr M mv).2 b) (j_post D (jT cb ci cz) (jMw g0 mt mb mz mn my ci cz) (va_A (jMw g0 mt mb mz mn my ci cz a) sz)) (va_A (jMw g0 mt mb mz mn my ci cz a) sz)) 0 0 (va_A (jMw g0 mt mb mz mn my ci cz a) sz) := by
  obtain ⟨⟨n, t⟩, ⟨k, r, z, u, y⟩, ⟨nx, wh, pw, ct⟩⟩ := M
  obtain ⟨tp, fB, fZ, fN, fY, td, kp, nx1, wh1, off, cu⟩ := a
  obtain ⟨h1, h2, h3, h4, h5, h6, h7, h8, h9, h10, h11⟩ := h
  subst h1; subst h4; subst h8; subst h9; subst h10
  exact c_M_drop l D cb ci cz g0 mt mb mz mn my tp fB fZ fN fY _ t _ r z u y _ _ pw ct cu mv h2 h3 h5 h6 h7 h11 sz
set_option maxHeartbeats 4000000 in
set_option maxRecDepth 100000 in
theorem w_D_cut (l : Launch) (D : va_G) (cb ci cz : ClassId) (h0 qt qr qd ql qn : Nat) (M : jM) (a : jDt) (h : jDk M a) (sv : Int32) (sz : Nat) : Met l yX1_cut wsX1_cut rm_D_cut (va_Pc [.ref h0, .int sv] (j_pre D (jT cb ci cz) (jDw h0 qt qr qd ql qn cb ci a) sz)) (va_Qi (fun (x : Int32) (b : jDt) => x = (jop_cu M sv).1 ∧ jDk (jop_cu M sv).2 b) (j_post D (jT cb ci cz) (jDw h0 qt qr qd ql qn cb ci) (va_A (jDw h0 qt qr qd ql qn cb ci a) sz)) (va_A (jDw h0 qt qr qd ql qn cb ci a) sz)) 0 0 (va_A (jDw h0 qt qr qd ql qn cb ci a) sz) := by
  obtain ⟨⟨n, t⟩, ⟨k, r, z, u, y⟩, ⟨nx, wh, pw, ct⟩⟩ := M
  obtain ⟨tp, dk, L, N, td, old, us, pr, nx1, wh1, pw1, ct1⟩ := a
  obtain ⟨h1, h2, h3, h4, h5, h6, h7, h8⟩ := h
  subst h1; subst h5; subst h6; subst h7; subst h8
  exact c_D_cut l D cb ci cz h0 qt tp qr qd ql qn dk L N old us pr _ t k r z u y _ _ pw ct sv h2 h3 h4 sz
set_option maxHeartbeats 4000000 in
set_option maxRecDepth 100000 in
theorem w_M_cut (l : Launch) (D : va_G) (cb ci cz : ClassId) (g0 mt mb mz mn my : Nat) (M : jM) (a : jMt) (h : jMk M a) (sv : Int32) (sz : Nat) : Met l yX2_cut wsX2_cut rm_M_cut (va_Pc [.ref g0, .int sv] (j_pre D (jT cb ci cz) (jMw g0 mt mb mz mn my ci cz a) sz)) (va_Qi (fun (x : Int32) (b : jMt) => x = (jop_cu M sv).1 ∧ jMk (jop_cu M sv).2 b) (j_post D (jT cb ci cz) (jMw g0 mt mb mz mn my ci cz) (va_A (jMw g0 mt mb mz mn my ci cz a) sz)) (va_A (jMw g0 mt mb mz mn my ci cz a) sz)) 0 0 (va_A (jMw g0 mt mb mz mn my ci cz a) sz) := by
  obtain ⟨⟨n, t⟩, ⟨k, r, z, u, y⟩, ⟨nx, wh, pw, ct⟩⟩ := M
  obtain ⟨tp, fB, fZ, fN, fY, td, kp, nx1, wh1, off, cu⟩ := a
  obtain ⟨h1, h2, h3, h4, h5, h6, h7, h8, h9, h10, h11⟩ := h
  subst h1; subst h4; subst h8; subst h9; subst h10
  exact c_M_cut l D cb ci cz g0 mt mb mz mn my tp fB fZ fN fY _ t _ r z u y _ _ pw ct cu sv h2 h3 h5 h6 h7 h11 sz
set_option maxHeartbeats 4000000 in
set_option maxRecDepth 100000 in
theorem w_D_start (l : Launch) (D : va_G) (cb ci cz : ClassId) (h0 qt qr qd ql qn : Nat) (M : jM) (a : jDt) (h : jDk M a) (sz : Nat) : Met l yX1_start wsX1_start rm_D_start (va_Pc [.ref h0] (j_pre D (jT cb ci cz) (jDw h0 qt qr qd ql qn cb ci a) sz)) (va_Qi (fun (x : Int32) (b : jDt) => x = (jop_st M).1 ∧ jDk (jop_st M).2 b) (j_post D (jT cb ci cz) (jDw h0 qt qr qd ql qn cb ci) (va_A (jDw h0 qt qr qd ql qn cb ci a) sz)) (va_A (jDw h0 qt qr qd ql qn cb ci a) sz)) 0 0 (va_A (jDw h0 qt qr qd ql qn cb ci a) sz) := by
  obtain ⟨⟨n, t⟩, ⟨k, r, z, u, y⟩, ⟨nx, wh, pw, ct⟩⟩ := M
  obtain ⟨tp, dk, L, N, td, old, us, pr, nx1, wh1, pw1, ct1⟩ := a
  obtain ⟨h1, h2, h3, h4, h5, h6, h7, h8⟩ := h
  subst h1; subst h5; subst h6; subst h7; subst h8
  exact c_D_start l D cb ci cz h0 qt tp qr qd ql qn dk L N old us pr _ t k r z u y _ _ pw ct  h2 h3 h4 sz
set_option maxHeartbeats 4000000 in
set_option maxRecDepth 100000 in
theorem w_M_start (l : Launch) (D : va_G) (cb ci cz : ClassId) (g0 mt mb mz mn my : Nat) (M : jM) (a : jMt) (h : jMk M a) (sz : Nat) : Met l yX2_start wsX2_start rm_M_start (va_Pc [.ref g0] (j_pre D (jT cb ci cz) (jMw g0 mt mb mz mn my ci cz a) sz)) (va_Qi (fun (x : Int32) (b : jMt) => x = (jop_st M).1 ∧ jMk (jop_st M).2 b) (j_post D (jT cb ci cz) (jMw g0 mt mb mz mn my ci cz) (va_A (jMw g0 mt mb mz mn my ci cz a) sz)) (va_A (jMw g0 mt mb mz mn my ci cz a) sz)) 0 0 (va_A (jMw g0 mt mb mz mn my ci cz a) sz) := by
  obtain ⟨⟨n, t⟩, ⟨k, r, z, u, y⟩, ⟨nx, wh, pw, ct⟩⟩ := M
  obtain ⟨tp, fB, fZ, fN, fY, td, kp, nx1, wh1, off, cu⟩ := a
  obtain ⟨h1, h2, h3, h4, h5, h6, h7, h8, h9, h10, h11⟩ := h
  subst h1; subst h4; subst h8; subst h9; subst h10
  exact c_M_start l D cb ci cz g0 mt mb mz mn my tp fB fZ fN fY _ t _ r z u y _ _ pw ct cu  h2 h3 h5 h6 h7 h11 sz
set_option maxHeartbeats 4000000 in
set_option maxRecDepth 100000 in
theorem w_D_record (l : Launch) (D : va_G) (cb ci cz : ClassId) (h0 qt qr qd ql qn : Nat) (M : jM) (a : jDt) (h : jDk M a) (i wv : Int32) (sz : Nat) : Met l yX1_record wsX1_record rm_D_record (va_Pc [.ref h0, .int i, .int wv] (j_pre D (jT cb ci cz) (jDw h0 qt qr qd ql qn cb ci a) sz)) (va_Qi (fun (x : Int32) (_ : Unit) => jop_rc M i wv x) (j_post D (jT cb ci cz) (fun _ => (jDw h0 qt qr qd ql qn cb ci a)) (va_A (jDw h0 qt qr qd ql qn cb ci a) sz)) (va_A (jDw h0 qt qr qd ql qn cb ci a) sz)) 0 0 (va_A (jDw h0 qt qr qd ql qn cb ci a) sz) := by
  obtain ⟨⟨n, t⟩, ⟨k, r, z, u, y⟩, ⟨nx, wh, pw, ct⟩⟩ := M
  obtain ⟨tp, dk, L, N, td, old, us, pr, nx1, wh1, pw1, ct1⟩ := a
  obtain ⟨h1, h2, h3, h4, h5, h6, h7, h8⟩ := h
  subst h1; subst h5; subst h6; subst h7; subst h8
  exact c_D_record l D cb ci cz h0 qt tp qr qd ql qn dk L N old us pr _ t k r z u y _ _ pw ct i wv h2 h3 h4 sz
set_option maxHeartbeats 4000000 in
set_option maxRecDepth 100000 in
theorem w_M_record (l : Launch) (D : va_G) (cb ci cz : ClassId) (g0 mt mb mz mn my : Nat) (M : jM) (a : jMt) (h : jMk M a) (i wv : Int32) (sz : Nat) : Met l yX2_record wsX2_record rm_M_record (va_Pc [.ref g0, .int i, .int wv] (j_pre D (jT cb ci cz) (jMw g0 mt mb mz mn my ci cz a) sz)) (va_Qi (fun (x : Int32) (_ : Unit) => jop_rc M i wv x) (j_post D (jT cb ci cz) (fun _ => (jMw g0 mt mb mz mn my ci cz a)) (va_A (jMw g0 mt mb mz mn my ci cz a) sz)) (va_A (jMw g0 mt mb mz mn my ci cz a) sz)) 0 0 (va_A (jMw g0 mt mb mz mn my ci cz a) sz) := by
  obtain ⟨⟨n, t⟩, ⟨k, r, z, u, y⟩, ⟨nx, wh, pw, ct⟩⟩ := M
  obtain ⟨tp, fB, fZ, fN, fY, td, kp, nx1, wh1, off, cu⟩ := a
  obtain ⟨h1, h2, h3, h4, h5, h6, h7, h8, h9, h10, h11⟩ := h
  subst h1; subst h4; subst h8; subst h9; subst h10
  exact c_M_record l D cb ci cz g0 mt mb mz mn my tp fB fZ fN fY _ t _ r z u y _ _ pw ct cu i wv h2 h3 h5 h6 h7 h11 sz
set_option maxHeartbeats 4000000 in
set_option maxRecDepth 100000 in
theorem w_D_bytes (l : Launch) (D : va_G) (cb ci cz : ClassId) (h0 qt qr qd ql qn : Nat) (M : jM) (a : jDt) (h : jDk M a) (i kv : Int32) (sz : Nat) : Met l yX1_bytes wsX1_bytes rm_D_bytes (va_Pc [.ref h0, .int i, .int kv] (j_pre D (jT cb ci cz) (jDw h0 qt qr qd ql qn cb ci a) sz)) (va_Ql (fun (x : Int64) (_ : Unit) => jop_by M i kv x) (j_post D (jT cb ci cz) (fun _ => (jDw h0 qt qr qd ql qn cb ci a)) (va_A (jDw h0 qt qr qd ql qn cb ci a) sz)) (va_A (jDw h0 qt qr qd ql qn cb ci a) sz)) 0 0 (va_A (jDw h0 qt qr qd ql qn cb ci a) sz) := by
  obtain ⟨⟨n, t⟩, ⟨k, r, z, u, y⟩, ⟨nx, wh, pw, ct⟩⟩ := M
  obtain ⟨tp, dk, L, N, td, old, us, pr, nx1, wh1, pw1, ct1⟩ := a
  obtain ⟨h1, h2, h3, h4, h5, h6, h7, h8⟩ := h
  subst h1; subst h5; subst h6; subst h7; subst h8
  exact c_D_bytes l D cb ci cz h0 qt tp qr qd ql qn dk L N old us pr _ t k r z u y _ _ pw ct i kv h2 h3 h4 sz
set_option maxHeartbeats 4000000 in
set_option maxRecDepth 100000 in
theorem w_M_bytes (l : Launch) (D : va_G) (cb ci cz : ClassId) (g0 mt mb mz mn my : Nat) (M : jM) (a : jMt) (h : jMk M a) (i kv : Int32) (sz : Nat) : Met l yX2_bytes wsX2_bytes rm_M_bytes (va_Pc [.ref g0, .int i, .int kv] (j_pre D (jT cb ci cz) (jMw g0 mt mb mz mn my ci cz a) sz)) (va_Ql (fun (x : Int64) (_ : Unit) => jop_by M i kv x) (j_post D (jT cb ci cz) (fun _ => (jMw g0 mt mb mz mn my ci cz a)) (va_A (jMw g0 mt mb mz mn my ci cz a) sz)) (va_A (jMw g0 mt mb mz mn my ci cz a) sz)) 0 0 (va_A (jMw g0 mt mb mz mn my ci cz a) sz) := by
  obtain ⟨⟨n, t⟩, ⟨k, r, z, u, y⟩, ⟨nx, wh, pw, ct⟩⟩ := M
  obtain ⟨tp, fB, fZ, fN, fY, td, kp, nx1, wh1, off, cu⟩ := a
  obtain ⟨h1, h2, h3, h4, h5, h6, h7, h8, h9, h10, h11⟩ := h
  subst h1; subst h4; subst h8; subst h9; subst h10
  exact c_M_bytes l D cb ci cz g0 mt mb mz mn my tp fB fZ fN fY _ t _ r z u y _ _ pw ct cu i kv h2 h3 h5 h6 h7 h11 sz
set_option maxHeartbeats 4000000 in
set_option maxRecDepth 100000 in
theorem w_D_count (l : Launch) (D : va_G) (cb ci cz : ClassId) (h0 qt qr qd ql qn : Nat) (M : jM) (a : jDt) (h : jDk M a) (wv : Int32) (sz : Nat) : Met l yX1_count wsX1_count rm_D_count (va_Pc [.ref h0, .int wv] (j_pre D (jT cb ci cz) (jDw h0 qt qr qd ql qn cb ci a) sz)) (va_Qi (fun (x : Int32) (_ : Unit) => x = jop_ct M wv) (j_post D (jT cb ci cz) (fun _ => (jDw h0 qt qr qd ql qn cb ci a)) (va_A (jDw h0 qt qr qd ql qn cb ci a) sz)) (va_A (jDw h0 qt qr qd ql qn cb ci a) sz)) 0 0 (va_A (jDw h0 qt qr qd ql qn cb ci a) sz) := by
  obtain ⟨⟨n, t⟩, ⟨k, r, z, u, y⟩, ⟨nx, wh, pw, ct⟩⟩ := M
  obtain ⟨tp, dk, L, N, td, old, us, pr, nx1, wh1, pw1, ct1⟩ := a
  obtain ⟨h1, h2, h3, h4, h5, h6, h7, h8⟩ := h
  subst h1; subst h5; subst h6; subst h7; subst h8
  exact c_D_count l D cb ci cz h0 qt tp qr qd ql qn dk L N old us pr _ t k r z u y _ _ pw ct wv h2 h3 h4 sz
set_option maxHeartbeats 4000000 in
set_option maxRecDepth 100000 in
theorem w_M_count (l : Launch) (D : va_G) (cb ci cz : ClassId) (g0 mt mb mz mn my : Nat) (M : jM) (a : jMt) (h : jMk M a) (wv : Int32) (sz : Nat) : Met l yX2_count wsX2_count rm_M_count (va_Pc [.ref g0, .int wv] (j_pre D (jT cb ci cz) (jMw g0 mt mb mz mn my ci cz a) sz)) (va_Qi (fun (x : Int32) (_ : Unit) => x = jop_ct M wv) (j_post D (jT cb ci cz) (fun _ => (jMw g0 mt mb mz mn my ci cz a)) (va_A (jMw g0 mt mb mz mn my ci cz a) sz)) (va_A (jMw g0 mt mb mz mn my ci cz a) sz)) 0 0 (va_A (jMw g0 mt mb mz mn my ci cz a) sz) := by
  obtain ⟨⟨n, t⟩, ⟨k, r, z, u, y⟩, ⟨nx, wh, pw, ct⟩⟩ := M
  obtain ⟨tp, fB, fZ, fN, fY, td, kp, nx1, wh1, off, cu⟩ := a
  obtain ⟨h1, h2, h3, h4, h5, h6, h7, h8, h9, h10, h11⟩ := h
  subst h1; subst h4; subst h8; subst h9; subst h10
  exact c_M_count l D cb ci cz g0 mt mb mz mn my tp fB fZ fN fY _ t _ r z u y _ _ pw ct cu wv h2 h3 h5 h6 h7 h11 sz
theorem jop_rc_u {M : jM} {a : jDt} {i w x y : Int32} (h : jDk M a) (h1 : jop_rc M i w x) (h2 : jop_rc M i w y) : x = y := by
  obtain ⟨⟨n, t⟩, ⟨k, r, z, u, v⟩, ⟨nx, wh, pw, ct⟩⟩ := M
  obtain ⟨tp, dk, L, N, td, old, us, pr, nx1, wh1, pw1, ct1⟩ := a
  have hR := h.2.2.2.1
  exact jop_rc_uni (Nat.le_trans (jR_k hR) hR.2.2.1) h1 h2
theorem jop_by_u {M : jM} {a : jDt} {i w : Int32} {x y : Int64} (h : jDk M a) (h1 : jop_by M i w x) (h2 : jop_by M i w y) : x = y := by
  obtain ⟨⟨n, t⟩, ⟨k, r, z, u, v⟩, ⟨nx, wh, pw, ct⟩⟩ := M
  obtain ⟨tp, dk, L, N, td, old, us, pr, nx1, wh1, pw1, ct1⟩ := a
  have hR := h.2.2.2.1
  exact jop_by_uni (Nat.le_trans (jR_k hR) hR.2.2.1) h1 h2
def jM0 : jM := ((0, fun _ => 0), (0, fun _ => false, fun _ => 0, fun _ => 0, fun _ _ => 0), (0, 0, true, false))
theorem jM0_D : jDk jM0 ((fun _ => 0), (fun _ => 0), (fun _ => 0), (fun _ => 0), 0, 0, 0, 0, 0, 0, 1, 0) := jDk_i rfl (Nat.zero_le _) (fun _ h => absurd h (Nat.not_lt_zero _)) ⟨by decide, rfl, by decide, rfl, fun _ h => absurd h (Nat.not_lt_zero _), fun _ h => absurd h (Nat.not_lt_zero _), fun _ h => absurd h (Nat.not_lt_zero _), fun _ _ h => absurd h (Nat.not_lt_zero _)⟩ rfl rfl rfl rfl
theorem jM0_M : jMk jM0 ((fun _ => 0), (fun _ => 0), (fun _ => 0), (fun _ => 0), (fun _ => 0), 0, 0, 0, 0, 0, -1) := jMk_i rfl (Nat.zero_le _) (fun _ h => absurd h (Nat.not_lt_zero _)) rfl (Nat.zero_le _) (fun _ h => absurd h (Nat.not_lt_zero _)) jE_0 rfl rfl rfl ⟨fun _ => rfl, fun _ => rfl⟩
