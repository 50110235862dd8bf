/-! Contracts over an object's whole world. -/
def o_put (j : oJ) (ch : Nat) : oJ := (j.1 + 1, j.2.1, j.2.2.1, m_up j.2.2.2.1 j.1 ch, j.2.2.2.2)
def o_clr (j : oJ) : oJ := (0, j.2)
theorem o_J_put {j : oJ} {ch : Nat} (h : o_J j) (hch : ch < 65536) (hl : j.1 < 60) : o_J (o_put j ch) := ⟨hl, m_up_lt h.2.1 hch, h.2.2⟩
theorem o_J_clr {j : oJ} (h : o_J j) : o_J (o_clr j) := ⟨Nat.zero_le _, h.2.1, h.2.2⟩
set_option maxHeartbeats 4000000 in
set_option maxRecDepth 100000 in
theorem o_set (l : Launch) (hfl : l.stackTraces = false) (D : va_G) (cY : Nat → ClassId) (eS : Nat → Nat) (eO : Nat) (aa sa bp : Nat → Nat) (hB : n_bp bp) (j : oJ) (c : oC) (hj : o_J j) (hc : o_C c) (k : Nat) (v : Nat) (hk : k < 8) (hv : v < 65536) : m_Me l yL_set wsL_set 4 88 0 0 D cY eS eO [.ref (aa 0), .int (nI k), .int (nI v)] (o_w cY aa sa bp j c) (fun (res : Int32) (_u : Unit) => (res = nI (c.1 k))) (fun (_u : Unit) => o_w cY aa sa bp j (o_rec c (m_up c.1 k v) c.2.1)) := by
  obtain ⟨len, sc, cur, tx, pt, pg, pf, pe, rf, rc⟩ := j
  obtain ⟨f, cnt, sf, sn, sk, z, g0, g1, g2, g3, t0, t1, t2, t3⟩ := c
  obtain ⟨⟨hf8, hf16⟩, ⟨hsf8, hsf16⟩, hsk, hz4, ⟨hg0, hg0b⟩, ⟨hg1, hg1b⟩, ⟨hg2, hg2b⟩, ⟨hg3, hg3b⟩⟩ := hc
  obtain ⟨hlen, htx, hrf8⟩ := hj
  exact m_liftE (m_ofI (c_L_set_ok l D cY (aa 0) (aa 1) (aa 2) (aa 3) (aa 4) (aa 5) (aa 6) (aa 7) sk (aa 12) cnt f (aa 15) z (aa 16) (aa 17) (aa 18) (aa 19) (aa 20) (aa 21) (aa 22) (aa 23) t0 t1 t2 t3 g0 g1 g2 g3 k v hf8 hf16 hg0 hg1 hg2 hg3 hz4 hk hv)) [0, 8, 9, 14, 15, 16, 17, 18, 19, 20, 21, 22, 23] rfl rfl (fun _ => rfl) (fun r u h => ⟨(), h, rfl⟩)
set_option maxHeartbeats 4000000 in
set_option maxRecDepth 100000 in
theorem o_invert (l : Launch) (hfl : l.stackTraces = false) (D : va_G) (cY : Nat → ClassId) (eS : Nat → Nat) (eO : Nat) (aa sa bp : Nat → Nat) (hB : n_bp bp) (j : oJ) (c : oC) (hj : o_J j) (hc : o_C c) (k : Nat) (hk : k < 8) (hz : ¬ c.1 k = 0) : m_Me l yL_invert wsL_invert 5 109 0 0 D cY eS eO [.ref (aa 0), .int (nI k)] (o_w cY aa sa bp j c) (fun (res : Int32) (_u : Unit) => (res = nI (np (c.1 k) 65534))) (fun (_u : Unit) => o_w cY aa sa bp j (o_rec c (m_up c.1 k (np (c.1 k) 65534)) c.2.1)) := by
  obtain ⟨len, sc, cur, tx, pt, pg, pf, pe, rf, rc⟩ := j
  obtain ⟨f, cnt, sf, sn, sk, z, g0, g1, g2, g3, t0, t1, t2, t3⟩ := c
  obtain ⟨⟨hf8, hf16⟩, ⟨hsf8, hsf16⟩, hsk, hz4, ⟨hg0, hg0b⟩, ⟨hg1, hg1b⟩, ⟨hg2, hg2b⟩, ⟨hg3, hg3b⟩⟩ := hc
  obtain ⟨hlen, htx, hrf8⟩ := hj
  exact m_liftE (m_ofI (c_L_invert_ok l D cY (aa 0) (aa 1) (aa 2) (aa 3) (aa 4) (aa 5) (aa 6) (aa 7) sk (aa 12) cnt f (aa 15) z (aa 16) (aa 17) (aa 18) (aa 19) (aa 20) (aa 21) (aa 22) (aa 23) t0 t1 t2 t3 g0 g1 g2 g3 (aa 8) bp k hf8 hf16 hg0 hg1 hg2 hg3 hz4 hB hk hz)) [0, 8, 9, 14, 15, 16, 17, 18, 19, 20, 21, 22, 23, 1, 2] rfl rfl (fun _ => rfl) (fun r u h => ⟨(), h, rfl⟩)
set_option maxHeartbeats 4000000 in
set_option maxRecDepth 100000 in
theorem o_invert_x (l : Launch) (hfl : l.stackTraces = false) (D : va_G) (cY : Nat → ClassId) (eS : Nat → Nat) (eO : Nat) (aa sa bp : Nat → Nat) (hB : n_bp bp) (j : oJ) (c : oC) (hj : o_J j) (hc : o_C c) (k : Nat) (hk : k < 8) (hz : c.1 k = 0) : m_Me l yL_invert wsL_invert 7 118 1 6 D cY eS eO [.ref (aa 0), .int (nI k)] (o_w cY aa sa bp j c) (fun (res : Int32) (_u : Unit) => (res = nI 900002)) (fun (_u : Unit) => o_w cY aa sa bp j c) := by
  obtain ⟨len, sc, cur, tx, pt, pg, pf, pe, rf, rc⟩ := j
  obtain ⟨f, cnt, sf, sn, sk, z, g0, g1, g2, g3, t0, t1, t2, t3⟩ := c
  obtain ⟨⟨hf8, hf16⟩, ⟨hsf8, hsf16⟩, hsk, hz4, ⟨hg0, hg0b⟩, ⟨hg1, hg1b⟩, ⟨hg2, hg2b⟩, ⟨hg3, hg3b⟩⟩ := hc
  obtain ⟨hlen, htx, hrf8⟩ := hj
  exact m_liftE (c_L_invert_x l hfl D cY eS eO (aa 0) (aa 1) (aa 2) (aa 3) (aa 4) (aa 5) (aa 6) (aa 7) sk (aa 12) cnt f k hf8 hf16 hk hz) [0, 8, 9] rfl rfl (fun _ => rfl) (fun r u h => ⟨(), h, rfl⟩)
set_option maxHeartbeats 4000000 in
set_option maxRecDepth 100000 in
theorem o_takeRoot (l : Launch) (hfl : l.stackTraces = false) (D : va_G) (cY : Nat → ClassId) (eS : Nat → Nat) (eO : Nat) (aa sa bp : Nat → Nat) (hB : n_bp bp) (j : oJ) (c : oC) (hj : o_J j) (hc : o_C c) (k : Nat) (hk : k < 8) : m_Me l yL_takeRoot wsL_takeRoot 5 108 0 0 D cY eS eO [.ref (aa 0), .int (nI k)] (o_w cY aa sa bp j c) (fun (res : Int32) (_u : Unit) => (res = nI (np (c.1 k) 32768))) (fun (_u : Unit) => o_w cY aa sa bp j (o_rec c (m_up c.1 k (np (c.1 k) 32768)) c.2.1)) := by
  obtain ⟨len, sc, cur, tx, pt, pg, pf, pe, rf, rc⟩ := j
  obtain ⟨f, cnt, sf, sn, sk, z, g0, g1, g2, g3, t0, t1, t2, t3⟩ := c
  obtain ⟨⟨hf8, hf16⟩, ⟨hsf8, hsf16⟩, hsk, hz4, ⟨hg0, hg0b⟩, ⟨hg1, hg1b⟩, ⟨hg2, hg2b⟩, ⟨hg3, hg3b⟩⟩ := hc
  obtain ⟨hlen, htx, hrf8⟩ := hj
  exact m_liftE (m_ofI (c_L_takeRoot_ok l D cY (aa 0) (aa 1) (aa 2) (aa 3) (aa 4) (aa 5) (aa 6) (aa 7) sk (aa 12) cnt f (aa 15) z (aa 16) (aa 17) (aa 18) (aa 19) (aa 20) (aa 21) (aa 22) (aa 23) t0 t1 t2 t3 g0 g1 g2 g3 (aa 8) bp k hf8 hf16 hg0 hg1 hg2 hg3 hz4 hB hk)) [0, 8, 9, 14, 15, 16, 17, 18, 19, 20, 21, 22, 23, 1, 2] rfl rfl (fun _ => rfl) (fun r u h => ⟨(), h, rfl⟩)
set_option maxHeartbeats 4000000 in
set_option maxRecDepth 100000 in
theorem o_multiply (l : Launch) (hfl : l.stackTraces = false) (D : va_G) (cY : Nat → ClassId) (eS : Nat → Nat) (eO : Nat) (aa sa bp : Nat → Nat) (hB : n_bp bp) (j : oJ) (c : oC) (hj : o_J j) (hc : o_C c) (k : Nat) (j9 : Nat) (hk : k < 8) (hj9 : j9 < 8) : m_Me l yL_multiply wsL_multiply 5 110 0 0 D cY eS eO [.ref (aa 0), .int (nI k), .int (nI j9)] (o_w cY aa sa bp j c) (fun (res : Int32) (_u : Unit) => (res = nI (nm (c.1 k) (c.1 j9)))) (fun (_u : Unit) => o_w cY aa sa bp j (o_rec c (m_up c.1 k (nm (c.1 k) (c.1 j9))) (c.2.1 + 1))) := by
  obtain ⟨len, sc, cur, tx, pt, pg, pf, pe, rf, rc⟩ := j
  obtain ⟨f, cnt, sf, sn, sk, z, g0, g1, g2, g3, t0, t1, t2, t3⟩ := c
  obtain ⟨⟨hf8, hf16⟩, ⟨hsf8, hsf16⟩, hsk, hz4, ⟨hg0, hg0b⟩, ⟨hg1, hg1b⟩, ⟨hg2, hg2b⟩, ⟨hg3, hg3b⟩⟩ := hc
  obtain ⟨hlen, htx, hrf8⟩ := hj
  exact m_liftE (m_ofI (c_L_multiply_ok l D cY (aa 0) (aa 1) (aa 2) (aa 3) (aa 4) (aa 5) (aa 6) (aa 7) sk (aa 12) cnt f (aa 15) z (aa 16) (aa 17) (aa 18) (aa 19) (aa 20) (aa 21) (aa 22) (aa 23) t0 t1 t2 t3 g0 g1 g2 g3 (aa 8) bp k j9 hf8 hf16 hg0 hg1 hg2 hg3 hz4 hB hk hj9)) [0, 8, 9, 14, 15, 16, 17, 18, 19, 20, 21, 22, 23, 1, 2] rfl rfl (fun _ => rfl) (fun r u h => ⟨(), h, rfl⟩)
set_option maxHeartbeats 4000000 in
set_option maxRecDepth 100000 in
theorem o_exchange (l : Launch) (hfl : l.stackTraces = false) (D : va_G) (cY : Nat → ClassId) (eS : Nat → Nat) (eO : Nat) (aa sa bp : Nat → Nat) (hB : n_bp bp) (j : oJ) (c : oC) (hj : o_J j) (hc : o_C c) (k : Nat) (j9 : Nat) (hk : k < 8) (hj9 : j9 < 8) : m_Me l yL_exchange wsL_exchange 4 89 0 0 D cY eS eO [.ref (aa 0), .int (nI k), .int (nI j9)] (o_w cY aa sa bp j c) (fun (res : Int32) (_u : Unit) => (res = nI (c.1 j9))) (fun (_u : Unit) => o_w cY aa sa bp j (o_rec c (m_up (m_up c.1 k (c.1 j9)) j9 (c.1 k)) c.2.1)) := by
  obtain ⟨len, sc, cur, tx, pt, pg, pf, pe, rf, rc⟩ := j
  obtain ⟨f, cnt, sf, sn, sk, z, g0, g1, g2, g3, t0, t1, t2, t3⟩ := c
  obtain ⟨⟨hf8, hf16⟩, ⟨hsf8, hsf16⟩, hsk, hz4, ⟨hg0, hg0b⟩, ⟨hg1, hg1b⟩, ⟨hg2, hg2b⟩, ⟨hg3, hg3b⟩⟩ := hc
  obtain ⟨hlen, htx, hrf8⟩ := hj
  exact m_liftE (m_ofI (c_L_exchange_ok l D cY (aa 0) (aa 1) (aa 2) (aa 3) (aa 4) (aa 5) (aa 6) (aa 7) sk (aa 12) cnt f (aa 15) z (aa 16) (aa 17) (aa 18) (aa 19) (aa 20) (aa 21) (aa 22) (aa 23) t0 t1 t2 t3 g0 g1 g2 g3 k j9 hf8 hf16 hg0 hg1 hg2 hg3 hz4 hk hj9)) [0, 8, 9, 14, 15, 16, 17, 18, 19, 20, 21, 22, 23] rfl rfl (fun _ => rfl) (fun r u h => ⟨(), h, rfl⟩)
set_option maxHeartbeats 4000000 in
set_option maxRecDepth 100000 in
theorem o_type (l : Launch) (hfl : l.stackTraces = false) (D : va_G) (cY : Nat → ClassId) (eS : Nat → Nat) (eO : Nat) (aa sa bp : Nat → Nat) (hB : n_bp bp) (j : oJ) (c : oC) (hj : o_J j) (hc : o_C c) (ch : Nat) (hch : ch < 65536) (hl : j.1 < 60) : m_Me l yL_type wsL_type 2 42 0 0 D cY eS eO [.ref (aa 0), .int (nI ch)] (o_w cY aa sa bp j c) (fun (res : Int32) (_u : Unit) => (res = nI (j.1 + 1))) (fun (_u : Unit) => o_w cY aa sa bp (o_put j ch) c) := by
  obtain ⟨len, sc, cur, tx, pt, pg, pf, pe, rf, rc⟩ := j
  obtain ⟨f, cnt, sf, sn, sk, z, g0, g1, g2, g3, t0, t1, t2, t3⟩ := c
  obtain ⟨⟨hf8, hf16⟩, ⟨hsf8, hsf16⟩, hsk, hz4, ⟨hg0, hg0b⟩, ⟨hg1, hg1b⟩, ⟨hg2, hg2b⟩, ⟨hg3, hg3b⟩⟩ := hc
  obtain ⟨hlen, htx, hrf8⟩ := hj
  exact m_liftE (m_ofI (c_L_type_ok l D cY (aa 0) (aa 1) (aa 2) (aa 3) (aa 4) (aa 5) (aa 6) (aa 7) sk (aa 10) (aa 11) len sc cur tx ch hlen htx hch hl)) [0, 5, 6] rfl rfl (fun _ => rfl) (fun r u h => ⟨(), h, rfl⟩)
set_option maxHeartbeats 4000000 in
set_option maxRecDepth 100000 in
theorem o_carry (l : Launch) (hfl : l.stackTraces = false) (D : va_G) (cY : Nat → ClassId) (eS : Nat → Nat) (eO : Nat) (aa sa bp : Nat → Nat) (hB : n_bp bp) (j : oJ) (c : oC) (hj : o_J j) (hc : o_C c) (ps : List p_St) (lx : p_St) (uf : Nat → Nat) (uc : Nat) (hv : p_prog j.2.2.2.1 j.1 15 0 = .inr ps) (hrun : p_run ps 0 c.1 c.2.1 = (-1, uf, uc)) (hlx : ps.getLast? = some lx) (hl8 : lx.1 < 8) (huf : m_z 8 uf) : m_Me l yL_carryOut wsL_carryOut 7 159 0 0 D cY eS eO [.ref (aa 0)] (o_w cY aa sa bp j c) (fun (res : Int32) (j2 : oJ) => (res = nI (uf lx.1)) ∧ (o_J j2)) (fun (j2 : oJ) => o_w cY aa sa bp j2 (o_rec c uf uc)) := by
  obtain ⟨len, sc, cur, tx, pt, pg, pf, pe, rf, rc⟩ := j
  obtain ⟨f, cnt, sf, sn, sk, z, g0, g1, g2, g3, t0, t1, t2, t3⟩ := c
  obtain ⟨⟨hf8, hf16⟩, ⟨hsf8, hsf16⟩, hsk, hz4, ⟨hg0, hg0b⟩, ⟨hg1, hg1b⟩, ⟨hg2, hg2b⟩, ⟨hg3, hg3b⟩⟩ := hc
  obtain ⟨hlen, htx, hrf8⟩ := hj
  exact m_liftP (m_ofI (c_L_carryOut_ok l D cY (aa 0) (aa 1) (aa 2) (aa 3) (aa 4) (aa 5) (aa 6) (aa 7) sk (aa 10) (aa 11) len sc cur tx sa pt pg pf pe (aa 12) cnt f (aa 13) rc rf (aa 8) bp ps (aa 15) z (aa 16) (aa 17) (aa 18) (aa 19) (aa 20) (aa 21) (aa 22) (aa 23) t0 t1 t2 t3 g0 g1 g2 g3 lx (-1) uf uc hlen htx hv hf8 hf16 hrf8 hB hg0 hg1 hg2 hg3 hz4 hrun rfl hlx hl8)) [0, 5, 6, 7, 8, 9, 10, 11, 1, 2, 14, 15, 16, 17, 18, 19, 20, 21, 22, 23] rfl rfl (fun _ => rfl) (fun _ => m_pool_fst) (fun r u h => ⟨(len, u.1, u.2.1, tx, u.2.2.1, u.2.2.2.1, u.2.2.2.2.1, u.2.2.2.2.2, uf, uc), ⟨h, hlen, htx, huf⟩, rfl⟩)
set_option maxHeartbeats 4000000 in
set_option maxRecDepth 100000 in
theorem o_carry_x (l : Launch) (hfl : l.stackTraces = false) (D : va_G) (cY : Nat → ClassId) (eS : Nat → Nat) (eO : Nat) (aa sa bp : Nat → Nat) (hB : n_bp bp) (j : oJ) (c : oC) (hj : o_J j) (hc : o_C c) (ps : List p_St) (tv : Int32) (uf : Nat → Nat) (uc : Nat) (hv : p_prog j.2.2.2.1 j.1 15 0 = .inr ps) (hrun : p_run ps 0 c.1 c.2.1 = (tv, uf, uc)) (htr : ¬ tv = -1) (huf : m_z 8 uf) : m_Me l yL_carryOut wsL_carryOut 7 159 1 6 D cY eS eO [.ref (aa 0)] (o_w cY aa sa bp j c) (fun (res : Int32) (j2 : oJ) => (res = nI 900001) ∧ (o_J j2)) (fun (j2 : oJ) => o_w cY aa sa bp j2 c) := by
  obtain ⟨len, sc, cur, tx, pt, pg, pf, pe, rf, rc⟩ := j
  obtain ⟨f, cnt, sf, sn, sk, z, g0, g1, g2, g3, t0, t1, t2, t3⟩ := c
  obtain ⟨⟨hf8, hf16⟩, ⟨hsf8, hsf16⟩, hsk, hz4, ⟨hg0, hg0b⟩, ⟨hg1, hg1b⟩, ⟨hg2, hg2b⟩, ⟨hg3, hg3b⟩⟩ := hc
  obtain ⟨hlen, htx, hrf8⟩ := hj
  exact m_liftP (c_L_carryOut_x l hfl D cY eS eO (aa 0) (aa 1) (aa 2) (aa 3) (aa 4) (aa 5) (aa 6) (aa 7) sk (aa 10) (aa 11) len sc cur tx sa pt pg pf pe (aa 12) cnt f (aa 13) rc rf (aa 8) bp ps tv uf uc hlen htx hv hf8 hf16 hrf8 hB hrun htr) [0, 5, 6, 7, 8, 9, 10, 11, 1, 2] rfl rfl (fun _ => rfl) (fun _ => m_pool_fst) (fun r u h => ⟨(len, u.1, u.2.1, tx, u.2.2.1, u.2.2.2.1, u.2.2.2.2.1, u.2.2.2.2.2, uf, uc), ⟨h, hlen, htx, huf⟩, rfl⟩)
set_option maxHeartbeats 4000000 in
set_option maxRecDepth 100000 in
theorem o_undo_ok (l : Launch) (hfl : l.stackTraces = false) (D : va_G) (cY : Nat → ClassId) (eS : Nat → Nat) (eO : Nat) (aa sa bp : Nat → Nat) (hB : n_bp bp) (j : oJ) (c : oC) (hj : o_J j) (hc : o_C c)  (hz : 0 < c.2.2.2.2.2.1) : m_Me l yL_undo wsL_undo 4 85 0 0 D cY eS eO [.ref (aa 0)] (o_w cY aa sa bp j c) (fun (res : Int32) (_u : Unit) => (res = nI (c.2.2.2.2.2.1 - 1))) (fun (_u : Unit) => o_w cY aa sa bp j (o_undo c)) := by
  obtain ⟨len, sc, cur, tx, pt, pg, pf, pe, rf, rc⟩ := j
  obtain ⟨f, cnt, sf, sn, sk, z, g0, g1, g2, g3, t0, t1, t2, t3⟩ := c
  obtain ⟨⟨hf8, hf16⟩, ⟨hsf8, hsf16⟩, hsk, hz4, ⟨hg0, hg0b⟩, ⟨hg1, hg1b⟩, ⟨hg2, hg2b⟩, ⟨hg3, hg3b⟩⟩ := hc
  obtain ⟨hlen, htx, hrf8⟩ := hj
  exact m_liftE (m_ofI (c_L_undo_ok l D cY (aa 0) (aa 1) (aa 2) (aa 3) (aa 4) (aa 5) (aa 6) (aa 7) sk (aa 12) cnt f (aa 15) z (aa 16) (aa 17) (aa 18) (aa 19) (aa 20) (aa 21) (aa 22) (aa 23) t0 t1 t2 t3 g0 g1 g2 g3 hf8 hf16 hg0 hg1 hg2 hg3 hz4 hz)) [0, 8, 9, 14, 15, 16, 17, 18, 19, 20, 21, 22, 23] rfl rfl (fun _ => rfl) (fun r u h => ⟨(), h, rfl⟩)
set_option maxHeartbeats 4000000 in
set_option maxRecDepth 100000 in
theorem o_undo_x (l : Launch) (hfl : l.stackTraces = false) (D : va_G) (cY : Nat → ClassId) (eS : Nat → Nat) (eO : Nat) (aa sa bp : Nat → Nat) (hB : n_bp bp) (j : oJ) (c : oC) (hj : o_J j) (hc : o_C c)  (hz : c.2.2.2.2.2.1 = 0) : m_Me l yL_undo wsL_undo 7 116 1 6 D cY eS eO [.ref (aa 0)] (o_w cY aa sa bp j c) (fun (res : Int32) (_u : Unit) => (res = nI 900001)) (fun (_u : Unit) => o_w cY aa sa bp j c) := by
  obtain ⟨len, sc, cur, tx, pt, pg, pf, pe, rf, rc⟩ := j
  obtain ⟨f, cnt, sf, sn, sk, z, g0, g1, g2, g3, t0, t1, t2, t3⟩ := c
  obtain ⟨⟨hf8, hf16⟩, ⟨hsf8, hsf16⟩, hsk, hz4, ⟨hg0, hg0b⟩, ⟨hg1, hg1b⟩, ⟨hg2, hg2b⟩, ⟨hg3, hg3b⟩⟩ := hc
  obtain ⟨hlen, htx, hrf8⟩ := hj
  exact m_liftE (c_L_undo_x l hfl D cY eS eO (aa 0) (aa 1) (aa 2) (aa 3) (aa 4) (aa 5) (aa 6) (aa 7) sk (aa 15) z (aa 16) (aa 17) (aa 18) (aa 19) (aa 20) (aa 21) (aa 22) (aa 23) t0 t1 t2 t3 g0 g1 g2 g3 hz) [0, 14, 15, 16, 17, 18, 19, 20, 21, 22, 23] rfl rfl (fun _ => rfl) (fun r u h => ⟨(), h, rfl⟩)
set_option maxHeartbeats 4000000 in
set_option maxRecDepth 100000 in
theorem o_restore (l : Launch) (hfl : l.stackTraces = false) (D : va_G) (cY : Nat → ClassId) (eS : Nat → Nat) (eO : Nat) (aa sa bp : Nat → Nat) (hB : n_bp bp) (j : oJ) (c : oC) (hj : o_J j) (hc : o_C c)  (hz : c.2.2.2.2.1 = 1) : m_Me l yL_restore wsL_restore 4 85 0 0 D cY eS eO [.ref (aa 0)] (o_w cY aa sa bp j c) (fun (res : Int32) (_u : Unit) => (res = nI (m_xr c.2.2.1 8))) (fun (_u : Unit) => o_w cY aa sa bp j (o_rec c c.2.2.1 c.2.2.2.1)) := by
  obtain ⟨len, sc, cur, tx, pt, pg, pf, pe, rf, rc⟩ := j
  obtain ⟨f, cnt, sf, sn, sk, z, g0, g1, g2, g3, t0, t1, t2, t3⟩ := c
  obtain ⟨⟨hf8, hf16⟩, ⟨hsf8, hsf16⟩, hsk, hz4, ⟨hg0, hg0b⟩, ⟨hg1, hg1b⟩, ⟨hg2, hg2b⟩, ⟨hg3, hg3b⟩⟩ := hc
  obtain ⟨hlen, htx, hrf8⟩ := hj
  exact m_liftE (m_ofI (c_L_restore_ok l D cY (aa 0) (aa 1) (aa 2) (aa 3) (aa 4) (aa 5) (aa 6) (aa 7) sk (aa 12) cnt f (aa 14) sn sf (aa 15) z (aa 16) (aa 17) (aa 18) (aa 19) (aa 20) (aa 21) (aa 22) (aa 23) t0 t1 t2 t3 g0 g1 g2 g3 hf8 hf16 hsf8 hg0 hg1 hg2 hg3 hz4 hz)) [0, 8, 9, 12, 13, 14, 15, 16, 17, 18, 19, 20, 21, 22, 23] rfl rfl (fun _ => rfl) (fun r u h => ⟨(), h, rfl⟩)
set_option maxHeartbeats 4000000 in
set_option maxRecDepth 100000 in
theorem o_restore_x (l : Launch) (hfl : l.stackTraces = false) (D : va_G) (cY : Nat → ClassId) (eS : Nat → Nat) (eO : Nat) (aa sa bp : Nat → Nat) (hB : n_bp bp) (j : oJ) (c : oC) (hj : o_J j) (hc : o_C c)  (hz : c.2.2.2.2.1 = 0) : m_Me l yL_restore wsL_restore 7 116 1 6 D cY eS eO [.ref (aa 0)] (o_w cY aa sa bp j c) (fun (res : Int32) (_u : Unit) => (res = nI 900001)) (fun (_u : Unit) => o_w cY aa sa bp j c) := by
  obtain ⟨len, sc, cur, tx, pt, pg, pf, pe, rf, rc⟩ := j
  obtain ⟨f, cnt, sf, sn, sk, z, g0, g1, g2, g3, t0, t1, t2, t3⟩ := c
  obtain ⟨⟨hf8, hf16⟩, ⟨hsf8, hsf16⟩, hsk, hz4, ⟨hg0, hg0b⟩, ⟨hg1, hg1b⟩, ⟨hg2, hg2b⟩, ⟨hg3, hg3b⟩⟩ := hc
  obtain ⟨hlen, htx, hrf8⟩ := hj
  exact m_liftE (c_L_restore_x l hfl D cY eS eO (aa 0) (aa 1) (aa 2) (aa 3) (aa 4) (aa 5) (aa 6) (aa 7) sk hz) [0] rfl rfl (fun _ => rfl) (fun r u h => ⟨(), h, rfl⟩)
set_option maxHeartbeats 4000000 in
set_option maxRecDepth 100000 in
theorem o_nimber (l : Launch) (hfl : l.stackTraces = false) (D : va_G) (cY : Nat → ClassId) (eS : Nat → Nat) (eO : Nat) (aa sa bp : Nat → Nat) (hB : n_bp bp) (j : oJ) (c : oC) (hj : o_J j) (hc : o_C c) (k : Nat) (hk : k < 8) : m_Me l yL_nimber wsL_nimber 2 42 0 0 D cY eS eO [.ref (aa 0), .int (nI k)] (o_w cY aa sa bp j c) (fun (res : Int32) (_u : Unit) => (res = nI (c.1 k))) (fun (_u : Unit) => o_w cY aa sa bp j c) := by
  obtain ⟨len, sc, cur, tx, pt, pg, pf, pe, rf, rc⟩ := j
  obtain ⟨f, cnt, sf, sn, sk, z, g0, g1, g2, g3, t0, t1, t2, t3⟩ := c
  obtain ⟨⟨hf8, hf16⟩, ⟨hsf8, hsf16⟩, hsk, hz4, ⟨hg0, hg0b⟩, ⟨hg1, hg1b⟩, ⟨hg2, hg2b⟩, ⟨hg3, hg3b⟩⟩ := hc
  obtain ⟨hlen, htx, hrf8⟩ := hj
  exact m_liftE (m_ofI (c_L_nimber_ok l D cY (aa 0) (aa 1) (aa 2) (aa 3) (aa 4) (aa 5) (aa 6) (aa 7) sk (aa 12) cnt f k hf8 hf16 hk)) [0, 8, 9] rfl rfl (fun _ => rfl) (fun r u h => ⟨(), h, rfl⟩)
set_option maxHeartbeats 4000000 in
set_option maxRecDepth 100000 in
theorem o_halves (l : Launch) (hfl : l.stackTraces = false) (D : va_G) (cY : Nat → ClassId) (eS : Nat → Nat) (eO : Nat) (aa sa bp : Nat → Nat) (hB : n_bp bp) (j : oJ) (c : oC) (hj : o_J j) (hc : o_C c) (x : Nat) (y : Nat) (hxx : x < 65536) (hyy : y < 65536) : m_Me l yL_halves wsL_halves 6 177 0 0 D cY eS eO [.ref (aa 0), .int (nI x), .int (nI y)] (o_w cY aa sa bp j c) (fun (res : Int32) (_u : Unit) => (res = nI (nm x y))) (fun (_u : Unit) => o_w cY aa sa bp j c) := by
  obtain ⟨len, sc, cur, tx, pt, pg, pf, pe, rf, rc⟩ := j
  obtain ⟨f, cnt, sf, sn, sk, z, g0, g1, g2, g3, t0, t1, t2, t3⟩ := c
  obtain ⟨⟨hf8, hf16⟩, ⟨hsf8, hsf16⟩, hsk, hz4, ⟨hg0, hg0b⟩, ⟨hg1, hg1b⟩, ⟨hg2, hg2b⟩, ⟨hg3, hg3b⟩⟩ := hc
  obtain ⟨hlen, htx, hrf8⟩ := hj
  exact m_liftE (c_L_halves_ok l hfl D cY eS eO (aa 0) (aa 1) (aa 2) (aa 3) (aa 4) (aa 5) (aa 6) (aa 7) sk x y hxx hyy) [0] rfl rfl (fun _ => rfl) (fun r u h => ⟨(), h, rfl⟩)
set_option maxHeartbeats 4000000 in
set_option maxRecDepth 100000 in
theorem o_bits (l : Launch) (hfl : l.stackTraces = false) (D : va_G) (cY : Nat → ClassId) (eS : Nat → Nat) (eO : Nat) (aa sa bp : Nat → Nat) (hB : n_bp bp) (j : oJ) (c : oC) (hj : o_J j) (hc : o_C c) (x : Nat) (y : Nat) (hxx : x < 65536) (hyy : y < 65536) : m_Me l yL_bits wsL_bits 2 47 0 0 D cY eS eO [.ref (aa 0), .int (nI x), .int (nI y)] (o_w cY aa sa bp j c) (fun (res : Int32) (_u : Unit) => (res = nI (nm x y))) (fun (_u : Unit) => o_w cY aa sa bp j c) := by
  obtain ⟨len, sc, cur, tx, pt, pg, pf, pe, rf, rc⟩ := j
  obtain ⟨f, cnt, sf, sn, sk, z, g0, g1, g2, g3, t0, t1, t2, t3⟩ := c
  obtain ⟨⟨hf8, hf16⟩, ⟨hsf8, hsf16⟩, hsk, hz4, ⟨hg0, hg0b⟩, ⟨hg1, hg1b⟩, ⟨hg2, hg2b⟩, ⟨hg3, hg3b⟩⟩ := hc
  obtain ⟨hlen, htx, hrf8⟩ := hj
  exact m_liftE (m_ofI (c_L_bits_ok l D cY (aa 0) (aa 1) (aa 2) (aa 3) (aa 4) (aa 5) (aa 6) (aa 7) sk (aa 8) bp x y hB hxx hyy)) [0, 1, 2] rfl rfl (fun _ => rfl) (fun r u h => ⟨(), h, rfl⟩)
set_option maxHeartbeats 4000000 in
set_option maxRecDepth 100000 in
theorem o_quotient (l : Launch) (hfl : l.stackTraces = false) (D : va_G) (cY : Nat → ClassId) (eS : Nat → Nat) (eO : Nat) (aa sa bp : Nat → Nat) (hB : n_bp bp) (j : oJ) (c : oC) (hj : o_J j) (hc : o_C c) (x : Nat) (y : Nat) (hxx : x < 65536) (hyy : y < 65536) : m_Me l yL_quotient wsL_quotient 3 72 0 0 D cY eS eO [.ref (aa 0), .int (nI x), .int (nI y)] (o_w cY aa sa bp j c) (fun (res : Int32) (_u : Unit) => (res = n_div x y)) (fun (_u : Unit) => o_w cY aa sa bp j c) := by
  obtain ⟨len, sc, cur, tx, pt, pg, pf, pe, rf, rc⟩ := j
  obtain ⟨f, cnt, sf, sn, sk, z, g0, g1, g2, g3, t0, t1, t2, t3⟩ := c
  obtain ⟨⟨hf8, hf16⟩, ⟨hsf8, hsf16⟩, hsk, hz4, ⟨hg0, hg0b⟩, ⟨hg1, hg1b⟩, ⟨hg2, hg2b⟩, ⟨hg3, hg3b⟩⟩ := hc
  obtain ⟨hlen, htx, hrf8⟩ := hj
  exact m_liftE (m_ofI (c_L_quotient_ok l D cY (aa 0) (aa 1) (aa 2) (aa 3) (aa 4) (aa 5) (aa 6) (aa 7) sk (aa 8) bp x y hB hxx hyy)) [0, 1, 2] rfl rfl (fun _ => rfl) (fun r u h => ⟨(), h, rfl⟩)
set_option maxHeartbeats 4000000 in
set_option maxRecDepth 100000 in
theorem o_power (l : Launch) (hfl : l.stackTraces = false) (D : va_G) (cY : Nat → ClassId) (eS : Nat → Nat) (eO : Nat) (aa sa bp : Nat → Nat) (hB : n_bp bp) (j : oJ) (c : oC) (hj : o_J j) (hc : o_C c) (x : Nat) (y : Nat) (hxx : x < 65536) (hyy : y ≤ 1000000000) : m_Me l yL_power wsL_power 3 72 0 0 D cY eS eO [.ref (aa 0), .int (nI x), .int (nI y)] (o_w cY aa sa bp j c) (fun (res : Int32) (_u : Unit) => (res = nI (np x y))) (fun (_u : Unit) => o_w cY aa sa bp j c) := by
  obtain ⟨len, sc, cur, tx, pt, pg, pf, pe, rf, rc⟩ := j
  obtain ⟨f, cnt, sf, sn, sk, z, g0, g1, g2, g3, t0, t1, t2, t3⟩ := c
  obtain ⟨⟨hf8, hf16⟩, ⟨hsf8, hsf16⟩, hsk, hz4, ⟨hg0, hg0b⟩, ⟨hg1, hg1b⟩, ⟨hg2, hg2b⟩, ⟨hg3, hg3b⟩⟩ := hc
  obtain ⟨hlen, htx, hrf8⟩ := hj
  exact m_liftE (m_ofI (c_L_power_ok l D cY (aa 0) (aa 1) (aa 2) (aa 3) (aa 4) (aa 5) (aa 6) (aa 7) sk (aa 8) bp x y hB hxx hyy)) [0, 1, 2] rfl rfl (fun _ => rfl) (fun r u h => ⟨(), h, rfl⟩)
set_option maxHeartbeats 4000000 in
set_option maxRecDepth 100000 in
theorem o_root (l : Launch) (hfl : l.stackTraces = false) (D : va_G) (cY : Nat → ClassId) (eS : Nat → Nat) (eO : Nat) (aa sa bp : Nat → Nat) (hB : n_bp bp) (j : oJ) (c : oC) (hj : o_J j) (hc : o_C c) (x : Nat) (hxx : x < 65536) : m_Me l yL_root wsL_root 3 67 0 0 D cY eS eO [.ref (aa 0), .int (nI x)] (o_w cY aa sa bp j c) (fun (res : Int32) (_u : Unit) => (res = nI (np x 32768))) (fun (_u : Unit) => o_w cY aa sa bp j c) := by
  obtain ⟨len, sc, cur, tx, pt, pg, pf, pe, rf, rc⟩ := j
  obtain ⟨f, cnt, sf, sn, sk, z, g0, g1, g2, g3, t0, t1, t2, t3⟩ := c
  obtain ⟨⟨hf8, hf16⟩, ⟨hsf8, hsf16⟩, hsk, hz4, ⟨hg0, hg0b⟩, ⟨hg1, hg1b⟩, ⟨hg2, hg2b⟩, ⟨hg3, hg3b⟩⟩ := hc
  obtain ⟨hlen, htx, hrf8⟩ := hj
  exact m_liftE (m_ofI (c_L_root_ok l D cY (aa 0) (aa 1) (aa 2) (aa 3) (aa 4) (aa 5) (aa 6) (aa 7) sk (aa 8) bp x hB hxx)) [0, 1, 2] rfl rfl (fun _ => rfl) (fun r u h => ⟨(), h, rfl⟩)
set_option maxHeartbeats 4000000 in
set_option maxRecDepth 100000 in
theorem o_field (l : Launch) (hfl : l.stackTraces = false) (D : va_G) (cY : Nat → ClassId) (eS : Nat → Nat) (eO : Nat) (aa sa bp : Nat → Nat) (hB : n_bp bp) (j : oJ) (c : oC) (hj : o_J j) (hc : o_C c) (x : Nat) (hxx : x < 65536) : m_Me l yL_field wsL_field 2 43 0 0 D cY eS eO [.ref (aa 0), .int (nI x)] (o_w cY aa sa bp j c) (fun (res : Int32) (_u : Unit) => (res = nI (n_fld x))) (fun (_u : Unit) => o_w cY aa sa bp j c) := by
  obtain ⟨len, sc, cur, tx, pt, pg, pf, pe, rf, rc⟩ := j
  obtain ⟨f, cnt, sf, sn, sk, z, g0, g1, g2, g3, t0, t1, t2, t3⟩ := c
  obtain ⟨⟨hf8, hf16⟩, ⟨hsf8, hsf16⟩, hsk, hz4, ⟨hg0, hg0b⟩, ⟨hg1, hg1b⟩, ⟨hg2, hg2b⟩, ⟨hg3, hg3b⟩⟩ := hc
  obtain ⟨hlen, htx, hrf8⟩ := hj
  exact m_liftE (m_ofI (c_L_field_ok l D cY (aa 0) (aa 1) (aa 2) (aa 3) (aa 4) (aa 5) (aa 6) (aa 7) sk x hxx)) [0] rfl rfl (fun _ => rfl) (fun r u h => ⟨(), h, rfl⟩)
set_option maxHeartbeats 4000000 in
set_option maxRecDepth 100000 in
theorem o_order (l : Launch) (hfl : l.stackTraces = false) (D : va_G) (cY : Nat → ClassId) (eS : Nat → Nat) (eO : Nat) (aa sa bp : Nat → Nat) (hB : n_bp bp) (j : oJ) (c : oC) (hj : o_J j) (hc : o_C c) (x : Nat) (hxx : x < 65536) : m_Me l yL_order wsL_order 4 97 0 0 D cY eS eO [.ref (aa 0), .int (nI x)] (o_w cY aa sa bp j c) (fun (res : Int32) (_u : Unit) => (res = n_ord x)) (fun (_u : Unit) => o_w cY aa sa bp j c) := by
  obtain ⟨len, sc, cur, tx, pt, pg, pf, pe, rf, rc⟩ := j
  obtain ⟨f, cnt, sf, sn, sk, z, g0, g1, g2, g3, t0, t1, t2, t3⟩ := c
  obtain ⟨⟨hf8, hf16⟩, ⟨hsf8, hsf16⟩, hsk, hz4, ⟨hg0, hg0b⟩, ⟨hg1, hg1b⟩, ⟨hg2, hg2b⟩, ⟨hg3, hg3b⟩⟩ := hc
  obtain ⟨hlen, htx, hrf8⟩ := hj
  exact m_liftE (c_L_order_ok l hfl D cY eS eO (aa 0) (aa 1) (aa 2) (aa 3) (aa 4) (aa 5) (aa 6) (aa 7) sk (aa 8) bp x hB hxx) [0, 1, 2] rfl rfl (fun _ => rfl) (fun r u h => ⟨(), h, rfl⟩)
set_option maxHeartbeats 4000000 in
set_option maxRecDepth 100000 in
theorem o_trace (l : Launch) (hfl : l.stackTraces = false) (D : va_G) (cY : Nat → ClassId) (eS : Nat → Nat) (eO : Nat) (aa sa bp : Nat → Nat) (hB : n_bp bp) (j : oJ) (c : oC) (hj : o_J j) (hc : o_C c) (x : Nat) (hxx : x < 65536) : m_Me l yL_trace wsL_trace 3 68 0 0 D cY eS eO [.ref (aa 0), .int (nI x)] (o_w cY aa sa bp j c) (fun (res : Int32) (_u : Unit) => (res = nI (n_tr x 16))) (fun (_u : Unit) => o_w cY aa sa bp j c) := by
  obtain ⟨len, sc, cur, tx, pt, pg, pf, pe, rf, rc⟩ := j
  obtain ⟨f, cnt, sf, sn, sk, z, g0, g1, g2, g3, t0, t1, t2, t3⟩ := c
  obtain ⟨⟨hf8, hf16⟩, ⟨hsf8, hsf16⟩, hsk, hz4, ⟨hg0, hg0b⟩, ⟨hg1, hg1b⟩, ⟨hg2, hg2b⟩, ⟨hg3, hg3b⟩⟩ := hc
  obtain ⟨hlen, htx, hrf8⟩ := hj
  exact m_liftE (m_ofI (c_L_trace_ok l D cY (aa 0) (aa 1) (aa 2) (aa 3) (aa 4) (aa 5) (aa 6) (aa 7) sk (aa 8) bp x hB hxx)) [0, 1, 2] rfl rfl (fun _ => rfl) (fun r u h => ⟨(), h, rfl⟩)
set_option maxHeartbeats 4000000 in
set_option maxRecDepth 100000 in
theorem o_solve (l : Launch) (hfl : l.stackTraces = false) (D : va_G) (cY : Nat → ClassId) (eS : Nat → Nat) (eO : Nat) (aa sa bp : Nat → Nat) (hB : n_bp bp) (j : oJ) (c : oC) (hj : o_J j) (hc : o_C c) (x : Nat) (hxx : x < 65536) : m_Me l yL_solve wsL_solve 3 68 0 0 D cY eS eO [.ref (aa 0), .int (nI x)] (o_w cY aa sa bp j c) (fun (res : Int32) (_u : Unit) => (res = n_sol x)) (fun (_u : Unit) => o_w cY aa sa bp j c) := by
  obtain ⟨len, sc, cur, tx, pt, pg, pf, pe, rf, rc⟩ := j
  obtain ⟨f, cnt, sf, sn, sk, z, g0, g1, g2, g3, t0, t1, t2, t3⟩ := c
  obtain ⟨⟨hf8, hf16⟩, ⟨hsf8, hsf16⟩, hsk, hz4, ⟨hg0, hg0b⟩, ⟨hg1, hg1b⟩, ⟨hg2, hg2b⟩, ⟨hg3, hg3b⟩⟩ := hc
  obtain ⟨hlen, htx, hrf8⟩ := hj
  exact m_liftE (m_ofI (c_L_solve_ok l D cY (aa 0) (aa 1) (aa 2) (aa 3) (aa 4) (aa 5) (aa 6) (aa 7) sk (aa 8) bp x hB hxx)) [0, 1, 2] rfl rfl (fun _ => rfl) (fun r u h => ⟨(), h, rfl⟩)
set_option maxHeartbeats 4000000 in
set_option maxRecDepth 100000 in
theorem o_clearProgram (l : Launch) (hfl : l.stackTraces = false) (D : va_G) (cY : Nat → ClassId) (eS : Nat → Nat) (eO : Nat) (aa sa bp : Nat → Nat) (hB : n_bp bp) (j : oJ) (c : oC) (hj : o_J j) (hc : o_C c)   : m_Me l yX6_clearProgram wsX6_clearProgram 1 21 0 0 D cY eS eO [.ref (aa 0)] (o_w cY aa sa bp j c) (fun (res : Int32) (_u : Unit) => (res = nI j.1)) (fun (_u : Unit) => o_w cY aa sa bp (o_clr j) c) := by
  obtain ⟨len, sc, cur, tx, pt, pg, pf, pe, rf, rc⟩ := j
  obtain ⟨f, cnt, sf, sn, sk, z, g0, g1, g2, g3, t0, t1, t2, t3⟩ := c
  obtain ⟨⟨hf8, hf16⟩, ⟨hsf8, hsf16⟩, hsk, hz4, ⟨hg0, hg0b⟩, ⟨hg1, hg1b⟩, ⟨hg2, hg2b⟩, ⟨hg3, hg3b⟩⟩ := hc
  obtain ⟨hlen, htx, hrf8⟩ := hj
  exact m_liftE (m_ofI (c_X6_clearProgram l D cY (aa 0) (aa 1) (aa 2) (aa 3) (aa 4) (aa 5) (aa 6) (aa 7) sk (aa 10) (aa 11) len sc cur tx hlen htx)) [0, 5, 6] rfl rfl (fun _ => rfl) (fun r u h => ⟨(), h, rfl⟩)
set_option maxHeartbeats 4000000 in
set_option maxRecDepth 100000 in
theorem o_takeSnapshot (l : Launch) (hfl : l.stackTraces = false) (D : va_G) (cY : Nat → ClassId) (eS : Nat → Nat) (eO : Nat) (aa sa bp : Nat → Nat) (hB : n_bp bp) (j : oJ) (c : oC) (hj : o_J j) (hc : o_C c)   : m_Me l yX6_takeSnapshot wsX6_takeSnapshot 2 43 0 0 D cY eS eO [.ref (aa 0)] (o_w cY aa sa bp j c) (fun (res : Int32) (_u : Unit) => (res = nI (m_xr c.1 8))) (fun (_u : Unit) => o_w cY aa sa bp j (o_snap c)) := by
  obtain ⟨len, sc, cur, tx, pt, pg, pf, pe, rf, rc⟩ := j
  obtain ⟨f, cnt, sf, sn, sk, z, g0, g1, g2, g3, t0, t1, t2, t3⟩ := c
  obtain ⟨⟨hf8, hf16⟩, ⟨hsf8, hsf16⟩, hsk, hz4, ⟨hg0, hg0b⟩, ⟨hg1, hg1b⟩, ⟨hg2, hg2b⟩, ⟨hg3, hg3b⟩⟩ := hc
  obtain ⟨hlen, htx, hrf8⟩ := hj
  exact m_liftE (m_ofI (c_X6_takeSnapshot l D cY (aa 0) (aa 1) (aa 2) (aa 3) (aa 4) (aa 5) (aa 6) (aa 7) sk (aa 12) cnt f (aa 14) sn sf hf8 hf16 hsf8)) [0, 8, 9, 12, 13] rfl rfl (fun _ => rfl) (fun r u h => ⟨(), h, rfl⟩)
set_option maxHeartbeats 4000000 in
set_option maxRecDepth 100000 in
theorem o_sumOfAll (l : Launch) (hfl : l.stackTraces = false) (D : va_G) (cY : Nat → ClassId) (eS : Nat → Nat) (eO : Nat) (aa sa bp : Nat → Nat) (hB : n_bp bp) (j : oJ) (c : oC) (hj : o_J j) (hc : o_C c)   : m_Me l yX6_sumOfAll wsX6_sumOfAll 1 22 0 0 D cY eS eO [.ref (aa 0)] (o_w cY aa sa bp j c) (fun (res : Int32) (_u : Unit) => (res = nI (m_xr c.1 8))) (fun (_u : Unit) => o_w cY aa sa bp j c) := by
  obtain ⟨len, sc, cur, tx, pt, pg, pf, pe, rf, rc⟩ := j
  obtain ⟨f, cnt, sf, sn, sk, z, g0, g1, g2, g3, t0, t1, t2, t3⟩ := c
  obtain ⟨⟨hf8, hf16⟩, ⟨hsf8, hsf16⟩, hsk, hz4, ⟨hg0, hg0b⟩, ⟨hg1, hg1b⟩, ⟨hg2, hg2b⟩, ⟨hg3, hg3b⟩⟩ := hc
  obtain ⟨hlen, htx, hrf8⟩ := hj
  exact m_liftE (m_ofI (c_X6_sumOfAll l D cY (aa 0) (aa 1) (aa 2) (aa 3) (aa 4) (aa 5) (aa 6) (aa 7) sk (aa 12) cnt f hf8 hf16)) [0, 8, 9] rfl rfl (fun _ => rfl) (fun r u h => ⟨(), h, rfl⟩)
set_option maxHeartbeats 4000000 in
set_option maxRecDepth 100000 in
theorem o_lessen (l : Launch) (hfl : l.stackTraces = false) (D : va_G) (cY : Nat → ClassId) (eS : Nat → Nat) (eO : Nat) (aa sa bp : Nat → Nat) (hB : n_bp bp) (j : oJ) (c : oC) (hj : o_J j) (hc : o_C c)   : m_Me l yX6_registerToLessen wsX6_registerToLessen 1 22 0 0 D cY eS eO [.ref (aa 0)] (o_w cY aa sa bp j c) (fun (res : Int32) (_u : Unit) => (res = m_les c.1 (m_xr c.1 8) 8 0)) (fun (_u : Unit) => o_w cY aa sa bp j c) := by
  obtain ⟨len, sc, cur, tx, pt, pg, pf, pe, rf, rc⟩ := j
  obtain ⟨f, cnt, sf, sn, sk, z, g0, g1, g2, g3, t0, t1, t2, t3⟩ := c
  obtain ⟨⟨hf8, hf16⟩, ⟨hsf8, hsf16⟩, hsk, hz4, ⟨hg0, hg0b⟩, ⟨hg1, hg1b⟩, ⟨hg2, hg2b⟩, ⟨hg3, hg3b⟩⟩ := hc
  obtain ⟨hlen, htx, hrf8⟩ := hj
  exact m_liftE (m_ofI (c_X6_registerToLessen l D cY (aa 0) (aa 1) (aa 2) (aa 3) (aa 4) (aa 5) (aa 6) (aa 7) sk (aa 12) cnt f hf8 hf16)) [0, 8, 9] rfl rfl (fun _ => rfl) (fun r u h => ⟨(), h, rfl⟩)
set_option maxHeartbeats 4000000 in
set_option maxRecDepth 100000 in
theorem o_products (l : Launch) (hfl : l.stackTraces = false) (D : va_G) (cY : Nat → ClassId) (eS : Nat → Nat) (eO : Nat) (aa sa bp : Nat → Nat) (hB : n_bp bp) (j : oJ) (c : oC) (hj : o_J j) (hc : o_C c)   : m_Me l yX6_products wsX6_products 1 20 0 0 D cY eS eO [.ref (aa 0)] (o_w cY aa sa bp j c) (fun (res : Int32) (_u : Unit) => (res = nI c.2.1)) (fun (_u : Unit) => o_w cY aa sa bp j c) := by
  obtain ⟨len, sc, cur, tx, pt, pg, pf, pe, rf, rc⟩ := j
  obtain ⟨f, cnt, sf, sn, sk, z, g0, g1, g2, g3, t0, t1, t2, t3⟩ := c
  obtain ⟨⟨hf8, hf16⟩, ⟨hsf8, hsf16⟩, hsk, hz4, ⟨hg0, hg0b⟩, ⟨hg1, hg1b⟩, ⟨hg2, hg2b⟩, ⟨hg3, hg3b⟩⟩ := hc
  obtain ⟨hlen, htx, hrf8⟩ := hj
  exact m_liftE (m_ofI (c_X6_products l D cY (aa 0) (aa 1) (aa 2) (aa 3) (aa 4) (aa 5) (aa 6) (aa 7) sk (aa 12) cnt f )) [0, 8, 9] rfl rfl (fun _ => rfl) (fun r u h => ⟨(), h, rfl⟩)
set_option maxHeartbeats 4000000 in
set_option maxRecDepth 100000 in
theorem o_recordedStates (l : Launch) (hfl : l.stackTraces = false) (D : va_G) (cY : Nat → ClassId) (eS : Nat → Nat) (eO : Nat) (aa sa bp : Nat → Nat) (hB : n_bp bp) (j : oJ) (c : oC) (hj : o_J j) (hc : o_C c)   : m_Me l yX6_recordedStates wsX6_recordedStates 1 20 0 0 D cY eS eO [.ref (aa 0)] (o_w cY aa sa bp j c) (fun (res : Int32) (_u : Unit) => (res = nI c.2.2.2.2.2.1)) (fun (_u : Unit) => o_w cY aa sa bp j c) := by
  obtain ⟨len, sc, cur, tx, pt, pg, pf, pe, rf, rc⟩ := j
  obtain ⟨f, cnt, sf, sn, sk, z, g0, g1, g2, g3, t0, t1, t2, t3⟩ := c
  obtain ⟨⟨hf8, hf16⟩, ⟨hsf8, hsf16⟩, hsk, hz4, ⟨hg0, hg0b⟩, ⟨hg1, hg1b⟩, ⟨hg2, hg2b⟩, ⟨hg3, hg3b⟩⟩ := hc
  obtain ⟨hlen, htx, hrf8⟩ := hj
  exact m_liftE (m_ofI (c_X6_recordedStates l D cY (aa 0) (aa 1) (aa 2) (aa 3) (aa 4) (aa 5) (aa 6) (aa 7) sk (aa 15) z (aa 16) (aa 17) (aa 18) (aa 19) (aa 20) (aa 21) (aa 22) (aa 23) t0 t1 t2 t3 g0 g1 g2 g3 )) [0, 14, 15, 16, 17, 18, 19, 20, 21, 22, 23] rfl rfl (fun _ => rfl) (fun r u h => ⟨(), h, rfl⟩)
