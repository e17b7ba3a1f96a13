/-! the reference's calls, in one form -/
set_option maxRecDepth 100000 in
set_option maxHeartbeats 4000000 in
theorem vv_points {X : jX} (hs : X.1.stackTraces = false) {d : Nat} (hd : 40 ≤ d) {o : Nat} {S0 S : StX} {w : List jC} (hI : LI o S0 S w) (p0 : Int32) {kc ks : Nat} : jMet X mX8_points d kc ks [.ref 19, .int p0] w (pJ (fun v w' => ∃ (k : Nat) (S2 : StX), AG (∃ k : Nat, 2 ≤ k ∧ k ≤ 7 ∧ p0 = nI k) (True) (Dpoints S p0) S k v S2 ∧ LIx o S0 S2 (nI k) w' ∧ w'[o]? = w[o]?)) := by
  obtain ⟨t, hC, ⟨mv, rw, nx, b, bt, kn, en, hR, h1, h2, gm, gr, gx, hP, hK, hL, h24⟩, hO⟩ := hI
  have hb3 := hR.2.2.2.2.2.2
  refine jJ (c_X8_points_ate hs (d := d) (by omega) hR h1 h2 gm gr gx p0 hP (KX_KB h1 h2 hK)) (fun v w' h => ?_)
  obtain ⟨n', mv', kn', dn', th', hR', hF, gm', n1', n2', hp0, hk0, hp2⟩ := h
  rcases hp2 with ⟨e, g, q0, q1, q2, q3⟩ | ⟨e, ⟨k, k1, k2, e1, q0, ev⟩, hid, q2, q3⟩
  · subst e
    subst q0
    subst q1
    subst q2
    subst q3
    exact ⟨1, S, Or.inl ⟨rfl, fun ⟨k, k1, k2, e⟩ => g k k1 k2 e, rfl⟩, LIx.ref (S2 := S) hC hO h24 hb3 hF hR' h1 h2 gm' gr gx hP hK hL⟩
  · subst e
    subst q0
    subst q2
    subst q3
    exact ⟨0, _, Or.inr (Or.inr ⟨rfl, ⟨n', n1', n2', e1⟩, trivial, ⟨n', e1, n1', n2', ev, rfl⟩⟩), LIx.ref (S2 := (n', S.2.1 + nI 1, S.2.2.1, S.2.2.2.1, fun _ => 1754760)) hC hO h24 hb3 hF hR' n1' n2' gm' gr gx hp0 (Or.inl rfl) (RL_points n2' hid)⟩
set_option maxRecDepth 100000 in
set_option maxHeartbeats 4000000 in
theorem vv_lay {X : jX} (hs : X.1.stackTraces = false) {d : Nat} (hd : 40 ≤ d) {o : Nat} {S0 S : StX} {w : List jC} (hI : LI o S0 S w) (p0 : Int32) (p1 : Int32) {kc ks : Nat} : jMet X mX8_lay d kc ks [.ref 19, .int p0, .int p1] w (pJ (fun v w' => ∃ (k : Nat) (S2 : StX), AG (isN p0 6) (isN p1 (fc S.1)) (Dlay S p0 p1) S k v S2 ∧ LIx o S0 S2 (nI k) w' ∧ w'[o]? = w[o]?)) := by
  obtain ⟨t, hC, ⟨mv, rw, nx, b, bt, kn, en, hR, h1, h2, gm, gr, gx, hP, hK, hL, h24⟩, hO⟩ := hI
  have hb3 := hR.2.2.2.2.2.2
  refine jJ (c_X8_lay_ate hs (d := d) (by omega) hR h1 h2 gm gr gx p0 p1 hP (KX_KB h1 h2 hK)) (fun v w' h => ?_)
  obtain ⟨mv', rw', kn', dn', th', hR', hF, gm', gr', hp0, hk0, hp2⟩ := h
  rcases hp2 with ⟨e, g, q1, q2, q3⟩ | ⟨e, g1, g2, q1, q2, q3⟩ | ⟨e, ⟨na, nb, ea, eb, ha, hb, hA, hv⟩, q2, q3⟩
  · subst e
    subst q1
    subst q2
    subst q3
    exact ⟨1, S, Or.inl ⟨rfl, g, rfl⟩, LIx.ref (S2 := S) hC hO h24 hb3 hF hR' h1 h2 gm' gr' gx hP hK hL⟩
  · subst e
    subst q1
    subst q2
    subst q3
    exact ⟨2, S, Or.inr (Or.inl ⟨rfl, g1, g2, rfl⟩), LIx.ref (S2 := S) hC hO h24 hb3 hF hR' h1 h2 gm' gr' gx hP hK hL⟩
  · subst e
    subst q2
    subst q3
    have ev : v = nI (nu S.1 (S.2.2.2.2 na)) := by rw [hv, nu_mW h2 hP ha, RLx_mW hL ha]
    exact ⟨0, _, Or.inr (Or.inr ⟨rfl, ⟨na, ha, ea⟩, ⟨nb, hb, eb⟩, ⟨na, nb, ea, eb, ha, hb, ev, rfl⟩⟩), LIx.ref (S2 := ES S na (XM S.1 nb)) hC hO h24 hb3 hF hR' h1 h2 gm' gr' gx hp0 (Or.inl rfl) (RL_lay hL hA)⟩
set_option maxRecDepth 100000 in
set_option maxHeartbeats 4000000 in
theorem vv_exchange {X : jX} (hs : X.1.stackTraces = false) {d : Nat} (hd : 40 ≤ d) {o : Nat} {S0 S : StX} {w : List jC} (hI : LI o S0 S w) (p0 : Int32) (p1 : Int32) (p2 : Int32) {kc ks : Nat} : jMet X mX8_exchange d kc ks [.ref 19, .int p0, .int p1, .int p2] w (pJ (fun v w' => ∃ (k : Nat) (S2 : StX), AG (isN p0 6 ∧ isN p1 S.1 ∧ isN p2 S.1) (True) (Dexchange S p0 p1 p2) S k v S2 ∧ LIx o S0 S2 (nI k) w' ∧ w'[o]? = w[o]?)) := by
  obtain ⟨t, hC, ⟨mv, rw, nx, b, bt, kn, en, hR, h1, h2, gm, gr, gx, hP, hK, hL, h24⟩, hO⟩ := hI
  have hb3 := hR.2.2.2.2.2.2
  refine jJ (c_X8_exchange_ate hs (d := d) (by omega) hR h1 h2 gm gr gx p0 p1 p2 hP (KX_KB h1 h2 hK)) (fun v w' h => ?_)
  obtain ⟨mv', rw', nx', kn', dn', th', hR', hF, gm', gr', gx', hp0, hk0, hp2⟩ := h
  rcases hp2 with ⟨e, g, q1, q2, q3⟩ | ⟨e, ⟨na, nb, nc, ea, eb, ec, ha, hb, hc, hA, hv⟩, q2, q3⟩
  · subst e
    subst q1
    subst q2
    subst q3
    exact ⟨1, S, Or.inl ⟨rfl, g, rfl⟩, LIx.ref (S2 := S) hC hO h24 hb3 hF hR' h1 h2 gm' gr' gx' hP hK hL⟩
  · subst e
    subst q2
    subst q3
    have ev : v = sg S.1 (c7 (S.2.2.2.2 na) (w8 (w8 1754760 nb nc) nc nb)) := hv.trans (SV h2 hp0 (RL_exchange h2 hP hL ha hb hc hA) ha).symm
    exact ⟨0, _, Or.inr (Or.inr ⟨rfl, ⟨⟨na, ha, ea⟩, ⟨nb, hb, eb⟩, ⟨nc, hc, ec⟩⟩, trivial, ⟨na, nb, nc, ea, eb, ec, ha, hb, hc, ev, rfl⟩⟩), LIx.ref (S2 := ES S na (c7 (S.2.2.2.2 na) (w8 (w8 1754760 nb nc) nc nb))) hC hO h24 hb3 hF hR' h1 h2 gm' gr' gx' hp0 (Or.inl rfl) (RL_exchange h2 hP hL ha hb hc hA)⟩
set_option maxRecDepth 100000 in
set_option maxHeartbeats 4000000 in
theorem vv_ring {X : jX} (hs : X.1.stackTraces = false) {d : Nat} (hd : 40 ≤ d) {o : Nat} {S0 S : StX} {w : List jC} (hI : LI o S0 S w) (p0 : Int32) (p1 : Int32) (p2 : Int32) (p3 : Int32) {kc ks : Nat} : jMet X mX8_ring d kc ks [.ref 19, .int p0, .int p1, .int p2, .int p3] w (pJ (fun v w' => ∃ (k : Nat) (S2 : StX), AG (isN p0 6 ∧ isN p1 S.1 ∧ isN p2 S.1 ∧ isN p3 S.1) (p1 ≠ p2 ∧ p2 ≠ p3 ∧ p3 ≠ p1) (Dring S p0 p1 p2 p3) S k v S2 ∧ LIx o S0 S2 (nI k) w' ∧ w'[o]? = w[o]?)) := by
  obtain ⟨t, hC, ⟨mv, rw, nx, b, bt, kn, en, hR, h1, h2, gm, gr, gx, hP, hK, hL, h24⟩, hO⟩ := hI
  have hb3 := hR.2.2.2.2.2.2
  refine jJ (c_X8_ring_ate hs (d := d) (by omega) hR h1 h2 gm gr gx p0 p1 p2 p3 hP (KX_KB h1 h2 hK)) (fun v w' h => ?_)
  obtain ⟨mv', rw', nx', kn', dn', th', hR', hF, gm', gr', gx', hp0, hk0, hp2⟩ := h
  rcases hp2 with ⟨e, g, q1, q2, q3⟩ | ⟨e, g1, g2, q1, q2, q3⟩ | ⟨e, ⟨na, nb, nc, nf, ea, eb, ec, ef, ha, hb, hc, hf, f1, f2, f3, hA, hv⟩, q2, q3⟩
  · subst e
    subst q1
    subst q2
    subst q3
    exact ⟨1, S, Or.inl ⟨rfl, g, rfl⟩, LIx.ref (S2 := S) hC hO h24 hb3 hF hR' h1 h2 gm' gr' gx' hP hK hL⟩
  · subst e
    subst q1
    subst q2
    subst q3
    exact ⟨2, S, Or.inr (Or.inl ⟨rfl, g1, g2, rfl⟩), LIx.ref (S2 := S) hC hO h24 hb3 hF hR' h1 h2 gm' gr' gx' hP hK hL⟩
  · subst e
    subst q2
    subst q3
    have ev : v = sg S.1 (c7 (S.2.2.2.2 na) (w8 (w8 (w8 1754760 nb nc) nc nf) nf nb)) := hv.trans (SV h2 hp0 (RL_ring h2 hP hL ha hb hc hf f1 f2 f3 hA) ha).symm
    exact ⟨0, _, Or.inr (Or.inr ⟨rfl, ⟨⟨na, ha, ea⟩, ⟨nb, hb, eb⟩, ⟨nc, hc, ec⟩, ⟨nf, hf, ef⟩⟩, ⟨fun e => f1 (nI_uq eb (e.trans ec) hb hc), fun e => f2 (nI_uq ec (e.trans ef) hc hf), fun e => f3 (nI_uq ef (e.trans eb) hf hb)⟩, ⟨na, nb, nc, nf, ea, eb, ec, ef, ha, hb, hc, hf, ev, rfl⟩⟩), LIx.ref (S2 := ES S na (c7 (S.2.2.2.2 na) (w8 (w8 (w8 1754760 nb nc) nc nf) nf nb))) hC hO h24 hb3 hF hR' h1 h2 gm' gr' gx' hp0 (Or.inl rfl) (RL_ring h2 hP hL ha hb hc hf f1 f2 f3 hA)⟩
set_option maxRecDepth 100000 in
set_option maxHeartbeats 4000000 in
theorem vv_turn {X : jX} (hs : X.1.stackTraces = false) {d : Nat} (hd : 40 ≤ d) {o : Nat} {S0 S : StX} {w : List jC} (hI : LI o S0 S w) (p0 : Int32) (p1 : Int32) {kc ks : Nat} : jMet X mX8_turn d kc ks [.ref 19, .int p0, .int p1] w (pJ (fun v w' => ∃ (k : Nat) (S2 : StX), AG (isN p0 6) ((-100) ≤ p1 ∧ p1 ≤ nI 100) (Dturn S p0 p1) S k v S2 ∧ LIx o S0 S2 (nI k) w' ∧ w'[o]? = w[o]?)) := by
  obtain ⟨t, hC, ⟨mv, rw, nx, b, bt, kn, en, hR, h1, h2, gm, gr, gx, hP, hK, hL, h24⟩, hO⟩ := hI
  have hb3 := hR.2.2.2.2.2.2
  refine jJ (c_X8_turn_ate hs (d := d) (by omega) hR h1 h2 gm gr gx p0 p1 hP (KX_KB h1 h2 hK)) (fun v w' h => ?_)
  obtain ⟨mv', rw', nx', kn', dn', th', hR', hF, gm', gr', gx', hp0, hk0, hp2⟩ := h
  rcases hp2 with ⟨e, g, q1, q2, q3⟩ | ⟨e, g1, g2, q1, q2, q3⟩ | ⟨e, ⟨na, ea, ha, f1, f2, hA, hv⟩, q2, q3⟩
  · subst e
    subst q1
    subst q2
    subst q3
    exact ⟨1, S, Or.inl ⟨rfl, g, rfl⟩, LIx.ref (S2 := S) hC hO h24 hb3 hF hR' h1 h2 gm' gr' gx' hP hK hL⟩
  · subst e
    subst q1
    subst q2
    subst q3
    exact ⟨2, S, Or.inr (Or.inl ⟨rfl, g1, g2, rfl⟩), LIx.ref (S2 := S) hC hO h24 hb3 hF hR' h1 h2 gm' gr' gx' hP hK hL⟩
  · subst e
    subst q2
    subst q3
    have ev : v = sg S.1 (c7 (S.2.2.2.2 na) (bW (fun p => (p + tT S.1 p1) % S.1) S.1)) := hv.trans (SV h2 hp0 (RL_turn h1 h2 hP hL ha hA) ha).symm
    exact ⟨0, _, Or.inr (Or.inr ⟨rfl, ⟨na, ha, ea⟩, ⟨f1, f2⟩, ⟨na, ea, ha, ev, rfl⟩⟩), LIx.ref (S2 := ES S na (c7 (S.2.2.2.2 na) (bW (fun p => (p + tT S.1 p1) % S.1) S.1))) hC hO h24 hb3 hF hR' h1 h2 gm' gr' gx' hp0 (Or.inl rfl) (RL_turn h1 h2 hP hL ha hA)⟩
set_option maxRecDepth 100000 in
set_option maxHeartbeats 4000000 in
theorem vv_mirror {X : jX} (hs : X.1.stackTraces = false) {d : Nat} (hd : 40 ≤ d) {o : Nat} {S0 S : StX} {w : List jC} (hI : LI o S0 S w) (p0 : Int32) {kc ks : Nat} : jMet X mX8_mirror d kc ks [.ref 19, .int p0] w (pJ (fun v w' => ∃ (k : Nat) (S2 : StX), AG (isN p0 6) (True) (Dmirror S p0) S k v S2 ∧ LIx o S0 S2 (nI k) w' ∧ w'[o]? = w[o]?)) := by
  obtain ⟨t, hC, ⟨mv, rw, nx, b, bt, kn, en, hR, h1, h2, gm, gr, gx, hP, hK, hL, h24⟩, hO⟩ := hI
  have hb3 := hR.2.2.2.2.2.2
  refine jJ (c_X8_mirror_ate hs (d := d) (by omega) hR h1 h2 gm gr gx p0 hP (KX_KB h1 h2 hK)) (fun v w' h => ?_)
  obtain ⟨mv', rw', nx', kn', dn', th', hR', hF, gm', gr', gx', hp0, hk0, hp2⟩ := h
  rcases hp2 with ⟨e, g, q1, q2, q3⟩ | ⟨e, ⟨na, ea, ha, hA, hv⟩, q2, q3⟩
  · subst e
    subst q1
    subst q2
    subst q3
    exact ⟨1, S, Or.inl ⟨rfl, g, rfl⟩, LIx.ref (S2 := S) hC hO h24 hb3 hF hR' h1 h2 gm' gr' gx' hP hK hL⟩
  · subst e
    subst q2
    subst q3
    have ev : v = sg S.1 (c7 (S.2.2.2.2 na) (bW (fun p => S.1 - 1 - p) S.1)) := hv.trans (SV h2 hp0 (RL_mirror h2 hP hL ha hA) ha).symm
    exact ⟨0, _, Or.inr (Or.inr ⟨rfl, ⟨na, ha, ea⟩, trivial, ⟨na, ea, ha, ev, rfl⟩⟩), LIx.ref (S2 := ES S na (c7 (S.2.2.2.2 na) (bW (fun p => S.1 - 1 - p) S.1))) hC hO h24 hb3 hF hR' h1 h2 gm' gr' gx' hp0 (Or.inl rfl) (RL_mirror h2 hP hL ha hA)⟩
set_option maxRecDepth 100000 in
set_option maxHeartbeats 4000000 in
theorem vv_copy {X : jX} (hs : X.1.stackTraces = false) {d : Nat} (hd : 40 ≤ d) {o : Nat} {S0 S : StX} {w : List jC} (hI : LI o S0 S w) (p0 : Int32) (p1 : Int32) {kc ks : Nat} : jMet X mX8_copy d kc ks [.ref 19, .int p0, .int p1] w (pJ (fun v w' => ∃ (k : Nat) (S2 : StX), AG (isN p0 6 ∧ isN p1 6) (True) (Dcopy S p0 p1) S k v S2 ∧ LIx o S0 S2 (nI k) w' ∧ w'[o]? = w[o]?)) := by
  obtain ⟨t, hC, ⟨mv, rw, nx, b, bt, kn, en, hR, h1, h2, gm, gr, gx, hP, hK, hL, h24⟩, hO⟩ := hI
  have hb3 := hR.2.2.2.2.2.2
  refine jJ (c_X8_copy_ate hs (d := d) (by omega) hR h1 h2 gm gr gx p0 p1 hP (KX_KB h1 h2 hK)) (fun v w' h => ?_)
  obtain ⟨mv', nx', kn', dn', th', hR', hF, gm', gx', hp0, hk0, hp2⟩ := h
  rcases hp2 with ⟨e, g, q1, q2, q3⟩ | ⟨e, ⟨na, nb, ea, eb, ha, hb, hA, hv⟩, q2, q3⟩
  · subst e
    subst q1
    subst q2
    subst q3
    exact ⟨1, S, Or.inl ⟨rfl, g, rfl⟩, LIx.ref (S2 := S) hC hO h24 hb3 hF hR' h1 h2 gm' gr gx' hP hK hL⟩
  · subst e
    subst q2
    subst q3
    have ev : v = (if (S.2.2.2.2 nb) = (S.2.2.2.2 na) then nI 0 else nI 1) := CVb h2 hP hL ha hb hv
    exact ⟨0, _, Or.inr (Or.inr ⟨rfl, ⟨⟨na, ha, ea⟩, ⟨nb, hb, eb⟩⟩, trivial, ⟨na, nb, ea, eb, ha, hb, ev, rfl⟩⟩), LIx.ref (S2 := ES S nb (S.2.2.2.2 na)) hC hO h24 hb3 hF hR' h1 h2 gm' gr gx' hp0 (Or.inl rfl) (RL_copy hL ha hA)⟩
set_option maxRecDepth 100000 in
set_option maxHeartbeats 4000000 in
theorem vv_swap {X : jX} (hs : X.1.stackTraces = false) {d : Nat} (hd : 40 ≤ d) {o : Nat} {S0 S : StX} {w : List jC} (hI : LI o S0 S w) (p0 : Int32) (p1 : Int32) {kc ks : Nat} : jMet X mX8_swap d kc ks [.ref 19, .int p0, .int p1] w (pJ (fun v w' => ∃ (k : Nat) (S2 : StX), AG (isN p0 6 ∧ isN p1 6) (True) (Dswap S p0 p1) S k v S2 ∧ LIx o S0 S2 (nI k) w' ∧ w'[o]? = w[o]?)) := by
  obtain ⟨t, hC, ⟨mv, rw, nx, b, bt, kn, en, hR, h1, h2, gm, gr, gx, hP, hK, hL, h24⟩, hO⟩ := hI
  have hb3 := hR.2.2.2.2.2.2
  refine jJ (c_X8_swap_ate hs (d := d) (by omega) hR h1 h2 gm gr gx p0 p1 hP (KX_KB h1 h2 hK)) (fun v w' h => ?_)
  obtain ⟨mv', kn', dn', th', hR', hF, gm', hp0, hk0, hp2⟩ := h
  rcases hp2 with ⟨e, g, q1, q2, q3⟩ | ⟨e, ⟨na, nb, ea, eb, ha, hb, hA, hv⟩, q2, q3⟩
  · subst e
    subst q1
    subst q2
    subst q3
    exact ⟨1, S, Or.inl ⟨rfl, g, rfl⟩, LIx.ref (S2 := S) hC hO h24 hb3 hF hR' h1 h2 gm' gr gx hP hK hL⟩
  · subst e
    subst q2
    subst q3
    have ev : v = (if (S.2.2.2.2 na) = (S.2.2.2.2 nb) then nI 0 else nI 1) := CVa h2 hP hL ha hb hv
    exact ⟨0, _, Or.inr (Or.inr ⟨rfl, ⟨⟨na, ha, ea⟩, ⟨nb, hb, eb⟩⟩, trivial, ⟨na, nb, ea, eb, ha, hb, ev, rfl⟩⟩), LIx.ref (S2 := (S.1, S.2.1 + nI 1, S.2.2.1, S.2.2.2.1, up (up S.2.2.2.2 na (S.2.2.2.2 nb)) nb (S.2.2.2.2 na))) hC hO h24 hb3 hF hR' h1 h2 gm' gr gx hp0 (Or.inl rfl) (by rw [hA]; exact RL_swap h2 hL ha hb)⟩
set_option maxRecDepth 100000 in
set_option maxHeartbeats 4000000 in
theorem vv_then {X : jX} (hs : X.1.stackTraces = false) {d : Nat} (hd : 40 ≤ d) {o : Nat} {S0 S : StX} {w : List jC} (hI : LI o S0 S w) (p0 : Int32) (p1 : Int32) (p2 : Int32) {kc ks : Nat} : jMet X mX8_then d kc ks [.ref 19, .int p0, .int p1, .int p2] w (pJ (fun v w' => ∃ (k : Nat) (S2 : StX), AG (isN p0 6 ∧ isN p1 6 ∧ isN p2 6) (True) (Dthen S p0 p1 p2) S k v S2 ∧ LIx o S0 S2 (nI k) w' ∧ w'[o]? = w[o]?)) := by
  obtain ⟨t, hC, ⟨mv, rw, nx, b, bt, kn, en, hR, h1, h2, gm, gr, gx, hP, hK, hL, h24⟩, hO⟩ := hI
  have hb3 := hR.2.2.2.2.2.2
  refine jJ (c_X8_then_ate hs (d := d) (by omega) hR h1 h2 gm gr gx p0 p1 p2 hP (KX_KB h1 h2 hK)) (fun v w' h => ?_)
  obtain ⟨mv', nx', kn', dn', th', hR', hF, gm', gx', hp0, hk0, hp2⟩ := h
  rcases hp2 with ⟨e, g, q1, q2, q3⟩ | ⟨e, ⟨na, nb, nc, ea, eb, ec, ha, hb, hc, hA, hv⟩, q2, q3⟩
  · subst e
    subst q1
    subst q2
    subst q3
    exact ⟨1, S, Or.inl ⟨rfl, g, rfl⟩, LIx.ref (S2 := S) hC hO h24 hb3 hF hR' h1 h2 gm' gr gx' hP hK hL⟩
  · subst e
    subst q2
    subst q3
    have ev : v = nI (nu S.1 (c7 (S.2.2.2.2 na) (S.2.2.2.2 nb))) := hv.trans (congrArg nI (AV h2 hp0 (RL_then h2 hP hL ha hb hA) hA hc).symm)
    exact ⟨0, _, Or.inr (Or.inr ⟨rfl, ⟨⟨na, ha, ea⟩, ⟨nb, hb, eb⟩, ⟨nc, hc, ec⟩⟩, trivial, ⟨na, nb, nc, ea, eb, ec, ha, hb, hc, ev, rfl⟩⟩), LIx.ref (S2 := ES S nc (c7 (S.2.2.2.2 na) (S.2.2.2.2 nb))) hC hO h24 hb3 hF hR' h1 h2 gm' gr gx' hp0 (Or.inl rfl) (RL_then h2 hP hL ha hb hA)⟩
set_option maxRecDepth 100000 in
set_option maxHeartbeats 4000000 in
theorem vv_undo {X : jX} (hs : X.1.stackTraces = false) {d : Nat} (hd : 40 ≤ d) {o : Nat} {S0 S : StX} {w : List jC} (hI : LI o S0 S w) (p0 : Int32) (p1 : Int32) {kc ks : Nat} : jMet X mX8_undo d kc ks [.ref 19, .int p0, .int p1] w (pJ (fun v w' => ∃ (k : Nat) (S2 : StX), AG (isN p0 6 ∧ isN p1 6) (True) (Dundo S p0 p1) S k v S2 ∧ LIx o S0 S2 (nI k) w' ∧ w'[o]? = w[o]?)) := by
  obtain ⟨t, hC, ⟨mv, rw, nx, b, bt, kn, en, hR, h1, h2, gm, gr, gx, hP, hK, hL, h24⟩, hO⟩ := hI
  have hb3 := hR.2.2.2.2.2.2
  refine jJ (c_X8_undo_ate hs (d := d) (by omega) hR h1 h2 gm gr gx p0 p1 hP (KX_KB h1 h2 hK)) (fun v w' h => ?_)
  obtain ⟨mv', nx', kn', dn', th', hR', hF, gm', gx', hp0, hk0, hp2⟩ := h
  rcases hp2 with ⟨e, g, q1, q2, q3⟩ | ⟨e, ⟨na, nb, g, ea, eb, ha, hb, hf, hA, hv⟩, q2, q3⟩
  · subst e
    subst q1
    subst q2
    subst q3
    exact ⟨1, S, Or.inl ⟨rfl, g, rfl⟩, LIx.ref (S2 := S) hC hO h24 hb3 hF hR' h1 h2 gm' gr gx' hP hK hL⟩
  · subst e
    subst q2
    subst q3
    have ev : v = nI (nu S.1 (i7 (S.2.2.2.2 na))) := hv.trans (congrArg nI (AV h2 hp0 (RL_undo h2 hP hL ha hf hA) hA hb).symm)
    exact ⟨0, _, Or.inr (Or.inr ⟨rfl, ⟨⟨na, ha, ea⟩, ⟨nb, hb, eb⟩⟩, trivial, ⟨na, nb, ea, eb, ha, hb, ev, rfl⟩⟩), LIx.ref (S2 := ES S nb (i7 (S.2.2.2.2 na))) hC hO h24 hb3 hF hR' h1 h2 gm' gr gx' hp0 (Or.inl rfl) (RL_undo h2 hP hL ha hf hA)⟩
set_option maxRecDepth 100000 in
set_option maxHeartbeats 4000000 in
theorem vv_power {X : jX} (hs : X.1.stackTraces = false) {d : Nat} (hd : 40 ≤ d) {o : Nat} {S0 S : StX} {w : List jC} (hI : LI o S0 S w) (p0 : Int32) (p1 : Int32) (p2 : Int32) {kc ks : Nat} : jMet X mX8_power d kc ks [.ref 19, .int p0, .int p1, .int p2] w (pJ (fun v w' => ∃ (k : Nat) (S2 : StX), AG (isN p0 6 ∧ isN p2 6) ((-1000) ≤ p1 ∧ p1 ≤ nI 1000) (Dpower S p0 p1 p2) S k v S2 ∧ LIx o S0 S2 (nI k) w' ∧ w'[o]? = w[o]?)) := by
  obtain ⟨t, hC, ⟨mv, rw, nx, b, bt, kn, en, hR, h1, h2, gm, gr, gx, hP, hK, hL, h24⟩, hO⟩ := hI
  have hb3 := hR.2.2.2.2.2.2
  refine jJ (c_X8_power_ate hs (d := d) (by omega) hR h1 h2 gm gr gx p0 p1 p2 hP (KX_KB h1 h2 hK)) (fun v w' h => ?_)
  obtain ⟨mv', nx', kn', dn', th', hR', hF, gm', gx', hp0, hk0, hp2⟩ := h
  rcases hp2 with ⟨e, g, q1, q2, q3⟩ | ⟨e, g1, g2, q1, q2, q3⟩ | ⟨e, ⟨na, nc, ea, ec, ha, hc, f1, f2, hA, hv⟩, q2, q3⟩
  · subst e
    subst q1
    subst q2
    subst q3
    exact ⟨1, S, Or.inl ⟨rfl, g, rfl⟩, LIx.ref (S2 := S) hC hO h24 hb3 hF hR' h1 h2 gm' gr gx' hP hK hL⟩
  · subst e
    subst q1
    subst q2
    subst q3
    exact ⟨2, S, Or.inr (Or.inl ⟨rfl, g1, g2, rfl⟩), LIx.ref (S2 := S) hC hO h24 hb3 hF hR' h1 h2 gm' gr gx' hP hK hL⟩
  · subst e
    subst q2
    subst q3
    have ev : v = nI (nu S.1 (pwM p1 (S.2.2.2.2 na))) := hv.trans (congrArg nI (AV h2 hp0 (RL_power h2 hP hL ha f1 f2 hA) hA hc).symm)
    exact ⟨0, _, Or.inr (Or.inr ⟨rfl, ⟨⟨na, ha, ea⟩, ⟨nc, hc, ec⟩⟩, ⟨f1, f2⟩, ⟨na, nc, ea, ec, ha, hc, ev, rfl⟩⟩), LIx.ref (S2 := ES S nc (pwM p1 (S.2.2.2.2 na))) hC hO h24 hb3 hF hR' h1 h2 gm' gr gx' hp0 (Or.inl rfl) (RL_power h2 hP hL ha f1 f2 hA)⟩
set_option maxRecDepth 100000 in
set_option maxHeartbeats 4000000 in
theorem vv_rename {X : jX} (hs : X.1.stackTraces = false) {d : Nat} (hd : 40 ≤ d) {o : Nat} {S0 S : StX} {w : List jC} (hI : LI o S0 S w) (p0 : Int32) (p1 : Int32) (p2 : Int32) {kc ks : Nat} : jMet X mX8_rename d kc ks [.ref 19, .int p0, .int p1, .int p2] w (pJ (fun v w' => ∃ (k : Nat) (S2 : StX), AG (isN p0 6 ∧ isN p1 6 ∧ isN p2 6) (True) (Drename S p0 p1 p2) S k v S2 ∧ LIx o S0 S2 (nI k) w' ∧ w'[o]? = w[o]?)) := by
  obtain ⟨t, hC, ⟨mv, rw, nx, b, bt, kn, en, hR, h1, h2, gm, gr, gx, hP, hK, hL, h24⟩, hO⟩ := hI
  have hb3 := hR.2.2.2.2.2.2
  refine jJ (c_X8_rename_ate hs (d := d) (by omega) hR h1 h2 gm gr gx p0 p1 p2 hP (KX_KB h1 h2 hK)) (fun v w' h => ?_)
  obtain ⟨mv', nx', kn', dn', th', hR', hF, gm', gx', hp0, hk0, hp2⟩ := h
  rcases hp2 with ⟨e, g, q1, q2, q3⟩ | ⟨e, ⟨na, nb, nc, g, ea, eb, ec, ha, hb, hc, hf, hA, hv⟩, q2, q3⟩
  · subst e
    subst q1
    subst q2
    subst q3
    exact ⟨1, S, Or.inl ⟨rfl, g, rfl⟩, LIx.ref (S2 := S) hC hO h24 hb3 hF hR' h1 h2 gm' gr gx' hP hK hL⟩
  · subst e
    subst q2
    subst q3
    have ev : v = nI (nu S.1 (c7 (c7 (i7 (S.2.2.2.2 nb)) (S.2.2.2.2 na)) (S.2.2.2.2 nb))) := hv.trans (congrArg nI (AV h2 hp0 (RL_rename h2 hP hL ha hb hf hA) hA hc).symm)
    exact ⟨0, _, Or.inr (Or.inr ⟨rfl, ⟨⟨na, ha, ea⟩, ⟨nb, hb, eb⟩, ⟨nc, hc, ec⟩⟩, trivial, ⟨na, nb, nc, ea, eb, ec, ha, hb, hc, ev, rfl⟩⟩), LIx.ref (S2 := ES S nc (c7 (c7 (i7 (S.2.2.2.2 nb)) (S.2.2.2.2 na)) (S.2.2.2.2 nb))) hC hO h24 hb3 hF hR' h1 h2 gm' gr gx' hp0 (Or.inl rfl) (RL_rename h2 hP hL ha hb hf hA)⟩
set_option maxRecDepth 100000 in
set_option maxHeartbeats 4000000 in
theorem vv_match {X : jX} (hs : X.1.stackTraces = false) {d : Nat} (hd : 40 ≤ d) {o : Nat} {S0 S : StX} {w : List jC} (hI : LI o S0 S w) (p0 : Int32) (p1 : Int32) (p2 : Int32) {kc ks : Nat} : jMet X mX8_match d kc ks [.ref 19, .int p0, .int p1, .int p2] w (pJ (fun v w' => ∃ (k : Nat) (S2 : StX), AG (isN p0 6 ∧ isN p1 6 ∧ isN p2 6) (True) (Dmatch S p0 p1 p2) S k v S2 ∧ LIx o S0 S2 (nI k) w' ∧ w'[o]? = w[o]?)) := by
  obtain ⟨t, hC, ⟨mv, rw, nx, b, bt, kn, en, hR, h1, h2, gm, gr, gx, hP, hK, hL, h24⟩, hO⟩ := hI
  have hb3 := hR.2.2.2.2.2.2
  refine jJ (c_X8_match_ate hs (d := d) (by omega) hR h1 h2 gm gr gx p0 p1 p2 hP (KX_KB h1 h2 hK)) (fun v w' h => ?_)
  obtain ⟨mv', rw', kn', dn', rf', th', hR', hF, gm', gr', hp0, hk0, hp2⟩ := h
  rcases hp2 with ⟨e, g, q1, q2, q3, q4⟩ | ⟨e, ⟨na, nb, nc, k, ea, eb, ec, ha, hb, hc, hk, hq, hl, hA, hv⟩, q2, q3, q4⟩ | ⟨e, ⟨na, nb, nc, ea, eb, ec, ha, hb, hc, hl, hv⟩, q1, q2, q3, q4⟩
  · subst e
    subst q1
    subst q2
    subst q3
    subst q4
    exact ⟨1, S, Or.inl ⟨rfl, g, rfl⟩, LIx.ref (S2 := S) hC hO h24 hb3 hF hR' h1 h2 gm' gr' gx hP hK hL⟩
  · subst e
    subst q2
    subst q3
    subst q4
    exact ⟨0, _, Or.inr (Or.inr ⟨rfl, ⟨⟨na, ha, ea⟩, ⟨nb, hb, eb⟩, ⟨nc, hc, ec⟩⟩, trivial, ⟨na, nb, nc, ea, eb, ec, ha, hb, hc, Or.inl ⟨XM S.1 k, LN_ref (by omega) h2 hP hL ha hb hk hq hl, hv.trans (congrArg nI (nu_congr (fun p hp => XM_d (by omega) h2 hp)).symm), rfl⟩⟩⟩), LIx.ref (S2 := ES S nc (XM S.1 k)) hC hO h24 hb3 hF hR' h1 h2 gm' gr' gx hp0 (Or.inl rfl) (RL_lay hL hA)⟩
  · subst e
    subst q1
    subst q2
    subst q3
    subst q4
    exact ⟨0, _, Or.inr (Or.inr ⟨rfl, ⟨⟨na, ha, ea⟩, ⟨nb, hb, eb⟩, ⟨nc, hc, ec⟩⟩, trivial, ⟨na, nb, nc, ea, eb, ec, ha, hb, hc, Or.inr ⟨LN_none (by omega) h2 hP hL ha hb hl, hv, rfl⟩⟩⟩), LIx.ref (S2 := NS S) hC hO h24 hb3 hF hR' h1 h2 gm' gr' gx hP hK hL⟩
set_option maxRecDepth 100000 in
set_option maxHeartbeats 4000000 in
theorem vv_thrown {X : jX} (hs : X.1.stackTraces = false) {d : Nat} {o : Nat} {S S' : StX} {t : Int32} {w : List jC} (hI : LIx o S S' t w) {kc ks : Nat} : jMet X mX8_thrown d kc ks [.ref 19] w (pI (fun v => v = t) (fun w' => w' = w)) := by
  refine jMet_of hs (by decide +kernel) (Nat.le_of_ble_eq_true rfl) (L := [some (.ref 19)]) rfl ?_
  obtain ⟨_, ⟨mv, rw, nx, b, bt, kn, en, hR, _⟩, _⟩ := hI
  refine J_aload_n (pc := 0) dX8_thrown_0 rfl rfl rfl ?_
  refine J_get (pc := 1) (k := 10) dX8_thrown_1 kC9 (by decide) ff_X8_32 hR.1 rfl ?_
  exact J_iret (pc := 4) dX8_thrown_4 rfl ⟨rfl, rfl⟩
set_option maxRecDepth 100000 in
set_option maxHeartbeats 4000000 in
theorem vv_nth {X : jX} (hs : X.1.stackTraces = false) {d : Nat} (hd : 40 ≤ d) {o : Nat} {S0 S : StX} {w : List jC} (hI : LI o S0 S w) (p0 : Int32) (p1 : Int32) (p2 : Int32) (p3 : Int32) {kc ks : Nat} (hkc : 15 ≤ kc) (hks : 2068 ≤ ks) : jMet X mX8_nth d kc ks [.ref 19, .int p0, .int p1, .int p2, .int p3] w (pJ (fun v w' => ∃ (k : Nat) (S2 : StX), AG (isN p1 6 ∧ isN p3 6) (isN p0 64 ∧ 0 ≤ p2) (Dnth S p0 p1 p2 p3) S k v S2 ∧ LIx o S0 S2 (nI k) w' ∧ w'[o]? = w[o]?)) := by
  obtain ⟨t, hC, ⟨mv, rw, nx, b, bt, kn, en, hR, h1, h2, gm, gr, gx, hP, hK, hL, h24⟩, hO⟩ := hI
  have hb3 := hR.2.2.2.2.2.2
  refine jJ (c_X8_nth_ate hs (d := d) (by omega) hR h1 h2 gm gr gx p0 p1 p2 p3 hP hK hkc hks) (fun v w' h => ?_)
  obtain ⟨mv', rw', nx', b', bt', kn', en', dn', rf', th', hR', hF, gm', gr', gx', hp0, hp2⟩ := h
  rcases hp2 with ⟨e, g, q1, hk, q3, q4⟩ | ⟨e, g1, g2, q1, hk, q3, q4⟩ | ⟨e, ⟨s, na, nb, rk, y, es, ea, eb, er, hs', ha, hb, hr, hlt, hy1, hy2, hA, hv⟩, q2, q3, q4⟩ | ⟨e, ⟨s, na, nb, rk, es, ea, eb, er, hs', ha, hb, hr, hlt, hv⟩, q1, hk, q3, q4⟩
  · subst e
    subst q1
    subst q3
    subst q4
    exact ⟨1, S, Or.inl ⟨rfl, g, rfl⟩, LIx.ref (S2 := S) hC hO h24 hb3 hF hR' h1 h2 gm' gr' gx' hP hk hL⟩
  · subst e
    subst q1
    subst q3
    subst q4
    exact ⟨2, S, Or.inr (Or.inl ⟨rfl, g1, g2, rfl⟩), LIx.ref (S2 := S) hC hO h24 hb3 hF hR' h1 h2 gm' gr' gx' hP hk hL⟩
  · subst e
    subst q2
    subst q3
    subst q4
    exact ⟨0, _, Or.inr (Or.inr ⟨rfl, ⟨⟨na, ha, ea⟩, ⟨nb, hb, eb⟩⟩, ⟨⟨s, hs', es⟩, by rw [er]; exact nI_pos' hr⟩, ⟨s, na, nb, rk, es, ea, eb, er, hs', ha, hb, hr, Or.inl ⟨y, by rw [← cd_RL (by omega) h2 hL s]; exact hlt, hy1, GK_RL (by omega) h2 hP hL ha hy2, hv, rfl⟩⟩⟩), LIx.ref (S2 := ES S nb y) hC hO h24 hb3 hF hR' h1 h2 gm' gr' gx' hp0 (Or.inl rfl) (RL_nth hL h2 hy1 hA)⟩
  · subst e
    subst q1
    subst q3
    subst q4
    exact ⟨0, _, Or.inr (Or.inr ⟨rfl, ⟨⟨na, ha, ea⟩, ⟨nb, hb, eb⟩⟩, ⟨⟨s, hs', es⟩, by rw [er]; exact nI_pos' hr⟩, ⟨s, na, nb, rk, es, ea, eb, er, hs', ha, hb, hr, Or.inr ⟨by rw [← cd_RL (by omega) h2 hL s]; exact hlt, hv, rfl⟩⟩⟩), LIx.ref (S2 := NS S) hC hO h24 hb3 hF hR' h1 h2 gm' gr' gx' hP hk hL⟩
set_option maxRecDepth 100000 in
set_option maxHeartbeats 4000000 in
theorem vv_count {X : jX} (hs : X.1.stackTraces = false) {d : Nat} (hd : 40 ≤ d) {o : Nat} {S0 S : StX} {w : List jC} (hI : LI o S0 S w) {kc ks : Nat} : jMet X mX8_count d kc ks [.ref 19] w (pI (fun _ => True) (LI o S0 S)) := by
  obtain ⟨t, hC, ⟨mv, rw, nx, b, bt, kn, en, hR, h1, h2, gm, gr, gx, hP, hK, hL, h24⟩, hO⟩ := hI
  have hb3 := hR.2.2.2.2.2.2
  refine uI0 (c_X8_count hs (d := d) (by omega) hR h1 h2 gm gr gx) (fun w' h => ?_)
  obtain ⟨hR', hF⟩ := h
  exact ⟨_, (LIx.ref (S2 := S) hC hO h24 hb3 hF hR' h1 h2 gm gr gx hP hK hL).1⟩
set_option maxRecDepth 100000 in
set_option maxHeartbeats 4000000 in
theorem vv_number {X : jX} (hs : X.1.stackTraces = false) {d : Nat} (hd : 40 ≤ d) {o : Nat} {S0 S : StX} {w : List jC} (hI : LI o S0 S w) (p0 : Int32) {kc ks : Nat} : jMet X mX8_number d kc ks [.ref 19, .int p0] w (pJ (fun v w' => ∃ (k : Nat) (S2 : StX), AG (isN p0 6) (True) (Dnumber S p0) S k v S2 ∧ LIx o S0 S2 (nI k) w' ∧ w'[o]? = w[o]?)) := by
  obtain ⟨t, hC, ⟨mv, rw, nx, b, bt, kn, en, hR, h1, h2, gm, gr, gx, hP, hK, hL, h24⟩, hO⟩ := hI
  have hb3 := hR.2.2.2.2.2.2
  refine jJ (c_X8_number_ate hs (d := d) (by omega) hR h1 h2 gm gr gx p0) (fun v w' h => ?_)
  obtain ⟨th', hR', hF, hp2⟩ := h
  rcases hp2 with ⟨e, g⟩ | ⟨e, na, ea, ha, hv⟩
  · subst e
    exact ⟨1, S, Or.inl ⟨rfl, g, rfl⟩, LIx.ref (S2 := S) hC hO h24 hb3 hF hR' h1 h2 gm gr gx hP hK hL⟩
  · subst e
    have ev : v = nI (nu S.1 (S.2.2.2.2 na)) := by rw [hv, nu_mW h2 hP ha, RLx_mW hL ha]
    exact ⟨0, S, Or.inr (Or.inr ⟨rfl, ⟨na, ha, ea⟩, trivial, ⟨na, ea, ha, ev, rfl⟩⟩), LIx.ref (S2 := S) hC hO h24 hb3 hF hR' h1 h2 gm gr gx hP hK hL⟩
set_option maxRecDepth 100000 in
set_option maxHeartbeats 4000000 in
theorem vv_goes {X : jX} (hs : X.1.stackTraces = false) {d : Nat} (hd : 40 ≤ d) {o : Nat} {S0 S : StX} {w : List jC} (hI : LI o S0 S w) (p0 : Int32) (p1 : Int32) {kc ks : Nat} : jMet X mX8_goes d kc ks [.ref 19, .int p0, .int p1] w (pJ (fun v w' => ∃ (k : Nat) (S2 : StX), AG (isN p0 6 ∧ isN p1 S.1) (True) (Dgoes S p0 p1) S k v S2 ∧ LIx o S0 S2 (nI k) w' ∧ w'[o]? = w[o]?)) := by
  obtain ⟨t, hC, ⟨mv, rw, nx, b, bt, kn, en, hR, h1, h2, gm, gr, gx, hP, hK, hL, h24⟩, hO⟩ := hI
  have hb3 := hR.2.2.2.2.2.2
  refine jJ (c_X8_goes_ate hs (d := d) (by omega) hR h1 h2 gm gr gx p0 p1) (fun v w' h => ?_)
  obtain ⟨th', hR', hF, hp2⟩ := h
  rcases hp2 with ⟨e, g⟩ | ⟨e, na, nb, ea, eb, ha, hb, hv⟩
  · subst e
    exact ⟨1, S, Or.inl ⟨rfl, g, rfl⟩, LIx.ref (S2 := S) hC hO h24 hb3 hF hR' h1 h2 gm gr gx hP hK hL⟩
  · subst e
    have ev : v = nI (d8 (S.2.2.2.2 na) nb) := by rw [hv, RLx_d h2 hL hP ha hb]
    exact ⟨0, S, Or.inr (Or.inr ⟨rfl, ⟨⟨na, ha, ea⟩, ⟨nb, hb, eb⟩⟩, trivial, ⟨na, nb, ea, eb, ha, hb, ev, rfl⟩⟩), LIx.ref (S2 := S) hC hO h24 hb3 hF hR' h1 h2 gm gr gx hP hK hL⟩
set_option maxRecDepth 100000 in
set_option maxHeartbeats 4000000 in
theorem vv_text {X : jX} (hs : X.1.stackTraces = false) {d : Nat} (hd : 40 ≤ d) (hXO : XO X) {o : Nat} {S0 S : StX} {w : List jC} (hI : LI o S0 S w) (p0 : Int32) {kc ks : Nat} (hkc : 40 ≤ kc) (hks : 1500 ≤ ks) : jMet X mX8_text d kc ks [.ref 19, .int p0] w (pS (fun w' => LI o S0 S w')) := by
  obtain ⟨t, hC, ⟨mv, rw, nx, b, bt, kn, en, hR, h1, h2, gm, gr, gx, hP, hK, hL, h24⟩, hO⟩ := hI
  have hb3 := hR.2.2.2.2.2.2
  refine uS0 (c_X8_text hs (d := d) (by omega) hXO hR h1 h2 gm gr gx p0 hkc hks) (fun w' h => ?_)
  obtain ⟨th', hR', hF⟩ := h
  exact ⟨_, (LIx.ref (S2 := S) hC hO h24 hb3 hF hR' h1 h2 gm gr gx hP hK hL).1⟩
set_option maxRecDepth 100000 in
set_option maxHeartbeats 4000000 in
theorem vv_rings {X : jX} (hs : X.1.stackTraces = false) {d : Nat} (hd : 40 ≤ d) (hXO : XO X) {o : Nat} {S0 S : StX} {w : List jC} (hI : LI o S0 S w) (p0 : Int32) {kc ks : Nat} (hkc : 40 ≤ kc) (hks : 1500 ≤ ks) : jMet X mX8_rings d kc ks [.ref 19, .int p0] w (pS (fun w' => LI o S0 S w')) := by
  obtain ⟨t, hC, ⟨mv, rw, nx, b, bt, kn, en, hR, h1, h2, gm, gr, gx, hP, hK, hL, h24⟩, hO⟩ := hI
  have hb3 := hR.2.2.2.2.2.2
  refine uS0 (c_X8_rings hs (d := d) (by omega) hXO hR h1 h2 gm gr gx p0 hP hkc hks) (fun w' h => ?_)
  obtain ⟨th', hR', hF⟩ := h
  exact ⟨_, (LIx.ref (S2 := S) hC hO h24 hb3 hF hR' h1 h2 gm gr gx hP hK hL).1⟩
set_option maxRecDepth 100000 in
set_option maxHeartbeats 4000000 in
theorem vv_ringText {X : jX} (hs : X.1.stackTraces = false) {d : Nat} (hd : 40 ≤ d) (hXO : XO X) {o : Nat} {S0 S : StX} {w : List jC} (hI : LI o S0 S w) (p0 : Int32) (p1 : Int32) {kc ks : Nat} (hkc : 40 ≤ kc) (hks : 1500 ≤ ks) : jMet X mX8_ringText d kc ks [.ref 19, .int p0, .int p1] w (pS (fun w' => LI o S0 S w')) := by
  obtain ⟨t, hC, ⟨mv, rw, nx, b, bt, kn, en, hR, h1, h2, gm, gr, gx, hP, hK, hL, h24⟩, hO⟩ := hI
  have hb3 := hR.2.2.2.2.2.2
  refine uS0 (c_X8_ringText hs (d := d) (by omega) hXO hR h1 h2 gm gr gx p0 p1 hP hkc hks) (fun w' h => ?_)
  obtain ⟨th', hR', hF⟩ := h
  exact ⟨_, (LIx.ref (S2 := S) hC hO h24 hb3 hF hR' h1 h2 gm gr gx hP hK hL).1⟩
set_option maxRecDepth 100000 in
set_option maxHeartbeats 4000000 in
theorem vv_order {X : jX} (hs : X.1.stackTraces = false) {d : Nat} (hd : 40 ≤ d) {o : Nat} {S0 S : StX} {w : List jC} (hI : LI o S0 S w) (p0 : Int32) {kc ks : Nat} : jMet X mX8_order d kc ks [.ref 19, .int p0] w (pJ (fun v w' => ∃ (k : Nat) (S2 : StX), AG (isN p0 6) (True) (Dorder S p0) S k v S2 ∧ LIx o S0 S2 (nI k) w' ∧ w'[o]? = w[o]?)) := by
  obtain ⟨t, hC, ⟨mv, rw, nx, b, bt, kn, en, hR, h1, h2, gm, gr, gx, hP, hK, hL, h24⟩, hO⟩ := hI
  have hb3 := hR.2.2.2.2.2.2
  refine jJ (c_X8_order_ate hs (d := d) (by omega) hR h1 h2 gm gr gx p0 hP) (fun v w' h => ?_)
  obtain ⟨th', hR', hF, hp2⟩ := h
  rcases hp2 with ⟨e, g⟩ | ⟨e, na, ea, ha, hv⟩
  · subst e
    exact ⟨1, S, Or.inl ⟨rfl, g, rfl⟩, LIx.ref (S2 := S) hC hO h24 hb3 hF hR' h1 h2 gm gr gx hP hK hL⟩
  · subst e
    have ev : v = nI (oC (S.2.2.2.2 na)) := hv.trans (congrArg nI (QO h2 hP hL ha).symm)
    exact ⟨0, S, Or.inr (Or.inr ⟨rfl, ⟨na, ha, ea⟩, trivial, ⟨na, ea, ha, ev, rfl⟩⟩), LIx.ref (S2 := S) hC hO h24 hb3 hF hR' h1 h2 gm gr gx hP hK hL⟩
set_option maxRecDepth 100000 in
set_option maxHeartbeats 4000000 in
theorem vv_sign {X : jX} (hs : X.1.stackTraces = false) {d : Nat} (hd : 40 ≤ d) {o : Nat} {S0 S : StX} {w : List jC} (hI : LI o S0 S w) (p0 : Int32) {kc ks : Nat} : jMet X mX8_sign d kc ks [.ref 19, .int p0] w (pJ (fun v w' => ∃ (k : Nat) (S2 : StX), AG (isN p0 6) (True) (Dsign S p0) S k v S2 ∧ LIx o S0 S2 (nI k) w' ∧ w'[o]? = w[o]?)) := by
  obtain ⟨t, hC, ⟨mv, rw, nx, b, bt, kn, en, hR, h1, h2, gm, gr, gx, hP, hK, hL, h24⟩, hO⟩ := hI
  have hb3 := hR.2.2.2.2.2.2
  refine jJ (c_X8_sign_ate hs (d := d) (by omega) hR h1 h2 gm gr gx p0) (fun v w' h => ?_)
  obtain ⟨th', hR', hF, hp2⟩ := h
  rcases hp2 with ⟨e, g⟩ | ⟨e, na, ea, ha, hv⟩
  · subst e
    exact ⟨1, S, Or.inl ⟨rfl, g, rfl⟩, LIx.ref (S2 := S) hC hO h24 hb3 hF hR' h1 h2 gm gr gx hP hK hL⟩
  · subst e
    have ev : v = sg S.1 (S.2.2.2.2 na) := hv.trans (QS h2 hP hL ha).symm
    exact ⟨0, S, Or.inr (Or.inr ⟨rfl, ⟨na, ha, ea⟩, trivial, ⟨na, ea, ha, ev, rfl⟩⟩), LIx.ref (S2 := S) hC hO h24 hb3 hF hR' h1 h2 gm gr gx hP hK hL⟩
set_option maxRecDepth 100000 in
set_option maxHeartbeats 4000000 in
theorem vv_stays {X : jX} (hs : X.1.stackTraces = false) {d : Nat} (hd : 40 ≤ d) {o : Nat} {S0 S : StX} {w : List jC} (hI : LI o S0 S w) (p0 : Int32) {kc ks : Nat} : jMet X mX8_stays d kc ks [.ref 19, .int p0] w (pJ (fun v w' => ∃ (k : Nat) (S2 : StX), AG (isN p0 6) (True) (Dstays S p0) S k v S2 ∧ LIx o S0 S2 (nI k) w' ∧ w'[o]? = w[o]?)) := by
  obtain ⟨t, hC, ⟨mv, rw, nx, b, bt, kn, en, hR, h1, h2, gm, gr, gx, hP, hK, hL, h24⟩, hO⟩ := hI
  have hb3 := hR.2.2.2.2.2.2
  refine jJ (c_X8_stays_ate hs (d := d) (by omega) hR h1 h2 gm gr gx p0) (fun v w' h => ?_)
  obtain ⟨th', hR', hF, hp2⟩ := h
  rcases hp2 with ⟨e, g⟩ | ⟨e, na, ea, ha, hv⟩
  · subst e
    exact ⟨1, S, Or.inl ⟨rfl, g, rfl⟩, LIx.ref (S2 := S) hC hO h24 hb3 hF hR' h1 h2 gm gr gx hP hK hL⟩
  · subst e
    have ev : v = nI (stF (d8 (S.2.2.2.2 na)) S.1) := hv.trans (congrArg nI (stF_congr S.1 (fun p hp => (RLx_d h2 hL hP ha hp).symm)))
    exact ⟨0, S, Or.inr (Or.inr ⟨rfl, ⟨na, ha, ea⟩, trivial, ⟨na, ea, ha, ev, rfl⟩⟩), LIx.ref (S2 := S) hC hO h24 hb3 hF hR' h1 h2 gm gr gx hP hK hL⟩
set_option maxRecDepth 100000 in
set_option maxHeartbeats 4000000 in
theorem vv_areAlike {X : jX} (hs : X.1.stackTraces = false) {d : Nat} (hd : 40 ≤ d) {o : Nat} {S0 S : StX} {w : List jC} (hI : LI o S0 S w) (p0 : Int32) (p1 : Int32) {kc ks : Nat} : jMet X mX8_areAlike d kc ks [.ref 19, .int p0, .int p1] w (pJ (fun v w' => ∃ (k : Nat) (S2 : StX), AG (isN p0 6 ∧ isN p1 6) (True) (DareAlike S p0 p1) S k v S2 ∧ LIx o S0 S2 (nI k) w' ∧ w'[o]? = w[o]?)) := by
  obtain ⟨t, hC, ⟨mv, rw, nx, b, bt, kn, en, hR, h1, h2, gm, gr, gx, hP, hK, hL, h24⟩, hO⟩ := hI
  have hb3 := hR.2.2.2.2.2.2
  refine jJ (c_X8_areAlike_ate hs (d := d) (by omega) hR h1 h2 gm gr gx p0 p1 hP) (fun v w' h => ?_)
  obtain ⟨th', hR', hF, hp2⟩ := h
  rcases hp2 with ⟨e, g⟩ | ⟨e, na, nb, ea, eb, ha, hb, hv⟩
  · subst e
    exact ⟨1, S, Or.inl ⟨rfl, g, rfl⟩, LIx.ref (S2 := S) hC hO h24 hb3 hF hR' h1 h2 gm gr gx hP hK hL⟩
  · subst e
    have ev : v = nI (on (LK (S.2.2.2.2 na) (S.2.2.2.2 nb))) := QA h2 hP hL ha hb hv
    exact ⟨0, S, Or.inr (Or.inr ⟨rfl, ⟨⟨na, ha, ea⟩, ⟨nb, hb, eb⟩⟩, trivial, ⟨na, nb, ea, eb, ha, hb, ev, rfl⟩⟩), LIx.ref (S2 := S) hC hO h24 hb3 hF hR' h1 h2 gm gr gx hP hK hL⟩
set_option maxRecDepth 100000 in
set_option maxHeartbeats 4000000 in
theorem vv_commute {X : jX} (hs : X.1.stackTraces = false) {d : Nat} (hd : 40 ≤ d) {o : Nat} {S0 S : StX} {w : List jC} (hI : LI o S0 S w) (p0 : Int32) (p1 : Int32) {kc ks : Nat} : jMet X mX8_commute d kc ks [.ref 19, .int p0, .int p1] w (pJ (fun v w' => ∃ (k : Nat) (S2 : StX), AG (isN p0 6 ∧ isN p1 6) (True) (Dcommute S p0 p1) S k v S2 ∧ LIx o S0 S2 (nI k) w' ∧ w'[o]? = w[o]?)) := by
  obtain ⟨t, hC, ⟨mv, rw, nx, b, bt, kn, en, hR, h1, h2, gm, gr, gx, hP, hK, hL, h24⟩, hO⟩ := hI
  have hb3 := hR.2.2.2.2.2.2
  refine jJ (c_X8_commute_ate hs (d := d) (by omega) hR h1 h2 gm gr gx p0 p1) (fun v w' h => ?_)
  obtain ⟨th', hR', hF, hp2⟩ := h
  rcases hp2 with ⟨e, g⟩ | ⟨e, na, nb, ea, eb, ha, hb, hv⟩
  · subst e
    exact ⟨1, S, Or.inl ⟨rfl, g, rfl⟩, LIx.ref (S2 := S) hC hO h24 hb3 hF hR' h1 h2 gm gr gx hP hK hL⟩
  · subst e
    have ev : v = (if c7 (S.2.2.2.2 na) (S.2.2.2.2 nb) = c7 (S.2.2.2.2 nb) (S.2.2.2.2 na) then nI 1 else nI 0) := QC h2 hP hL ha hb hv
    exact ⟨0, S, Or.inr (Or.inr ⟨rfl, ⟨⟨na, ha, ea⟩, ⟨nb, hb, eb⟩⟩, trivial, ⟨na, nb, ea, eb, ha, hb, ev, rfl⟩⟩), LIx.ref (S2 := S) hC hO h24 hb3 hF hR' h1 h2 gm gr gx hP hK hL⟩
set_option maxRecDepth 100000 in
set_option maxHeartbeats 4000000 in
theorem vv_size {X : jX} (hs : X.1.stackTraces = false) {d : Nat} (hd : 40 ≤ d) {o : Nat} {S0 S : StX} {w : List jC} (hI : LI o S0 S w) (p0 : Int32) (p1 : Int32) {kc ks : Nat} (hkc : 13 ≤ kc) (hks : 2054 ≤ ks) : jMet X mX8_size d kc ks [.ref 19, .int p0, .int p1] w (pI (fun _ => True) (LI o S0 S)) := by
  obtain ⟨t, hC, ⟨mv, rw, nx, b, bt, kn, en, hR, h1, h2, gm, gr, gx, hP, hK, hL, h24⟩, hO⟩ := hI
  have hb3 := hR.2.2.2.2.2.2
  refine uI0 (c_X8_size hs (d := d) (by omega) hR h1 h2 gm gr gx p0 p1 hP hK hkc hks) (fun w' h => ?_)
  obtain ⟨rw', nx', b', bt', kn', en', th', hR', hF, gr', gx', hp0⟩ := h
  exact ⟨_, (LIx.ref (S2 := S) hC hO h24 hb3 hF hR' h1 h2 gm gr' gx' hP hp0 hL).1⟩
set_option maxRecDepth 100000 in
set_option maxHeartbeats 4000000 in
theorem vv_reach {X : jX} (hs : X.1.stackTraces = false) {d : Nat} (hd : 40 ≤ d) {o : Nat} {S0 S : StX} {w : List jC} (hI : LI o S0 S w) (p0 : Int32) (p1 : Int32) (p2 : Int32) {kc ks : Nat} (hkc : 13 ≤ kc) (hks : 2054 ≤ ks) : jMet X mX8_reach d kc ks [.ref 19, .int p0, .int p1, .int p2] w (pI (fun _ => True) (LI o S0 S)) := by
  obtain ⟨t, hC, ⟨mv, rw, nx, b, bt, kn, en, hR, h1, h2, gm, gr, gx, hP, hK, hL, h24⟩, hO⟩ := hI
  have hb3 := hR.2.2.2.2.2.2
  refine uI0 (c_X8_reach hs (d := d) (by omega) hR h1 h2 gm gr gx p0 p1 p2 hP hK hkc hks) (fun w' h => ?_)
  obtain ⟨rw', nx', b', bt', kn', en', th', hR', hF, gr', gx', hp0⟩ := h
  exact ⟨_, (LIx.ref (S2 := S) hC hO h24 hb3 hF hR' h1 h2 gm gr' gx' hP hp0 hL).1⟩
set_option maxRecDepth 100000 in
set_option maxHeartbeats 4000000 in
theorem vv_isIn {X : jX} (hs : X.1.stackTraces = false) {d : Nat} (hd : 40 ≤ d) {o : Nat} {S0 S : StX} {w : List jC} (hI : LI o S0 S w) (p0 : Int32) (p1 : Int32) (p2 : Int32) {kc ks : Nat} (hkc : 13 ≤ kc) (hks : 2054 ≤ ks) : jMet X mX8_isIn d kc ks [.ref 19, .int p0, .int p1, .int p2] w (pI (fun _ => True) (LI o S0 S)) := by
  obtain ⟨t, hC, ⟨mv, rw, nx, b, bt, kn, en, hR, h1, h2, gm, gr, gx, hP, hK, hL, h24⟩, hO⟩ := hI
  have hb3 := hR.2.2.2.2.2.2
  refine uI0 (c_X8_isIn hs (d := d) (by omega) hR h1 h2 gm gr gx p0 p1 p2 hP hK hkc hks) (fun w' h => ?_)
  obtain ⟨rw', nx', b', bt', kn', en', th', hR', hF, gr', gx', hp0⟩ := h
  exact ⟨_, (LIx.ref (S2 := S) hC hO h24 hb3 hF hR' h1 h2 gm gr' gx' hP hp0 hL).1⟩
set_option maxRecDepth 100000 in
set_option maxHeartbeats 4000000 in
theorem vv_rank {X : jX} (hs : X.1.stackTraces = false) {d : Nat} (hd : 40 ≤ d) {o : Nat} {S0 S : StX} {w : List jC} (hI : LI o S0 S w) (p0 : Int32) (p1 : Int32) (p2 : Int32) {kc ks : Nat} (hkc : 13 ≤ kc) (hks : 2054 ≤ ks) : jMet X mX8_rank d kc ks [.ref 19, .int p0, .int p1, .int p2] w (pI (fun _ => True) (LI o S0 S)) := by
  obtain ⟨t, hC, ⟨mv, rw, nx, b, bt, kn, en, hR, h1, h2, gm, gr, gx, hP, hK, hL, h24⟩, hO⟩ := hI
  have hb3 := hR.2.2.2.2.2.2
  refine uI0 (c_X8_rank hs (d := d) (by omega) hR h1 h2 gm gr gx p0 p1 p2 hP hK hkc hks) (fun w' h => ?_)
  obtain ⟨rw', nx', b', bt', kn', en', th', hR', hF, gr', gx', hp0⟩ := h
  exact ⟨_, (LIx.ref (S2 := S) hC hO h24 hb3 hF hR' h1 h2 gm gr' gx' hP hp0 hL).1⟩
set_option maxRecDepth 100000 in
set_option maxHeartbeats 4000000 in
theorem vv_list {X : jX} (hs : X.1.stackTraces = false) {d : Nat} (hd : 40 ≤ d) (hXO : XO X) {o : Nat} {S0 S : StX} {w : List jC} (hI : LI o S0 S w) (p0 : Int32) (p1 : Int32) {kc ks : Nat} (hkc : 55 ≤ kc) (hks : 3600 ≤ ks) : jMet X mX8_list d kc ks [.ref 19, .int p0, .int p1] w (pS (fun w' => LI o S0 S w')) := by
  obtain ⟨t, hC, ⟨mv, rw, nx, b, bt, kn, en, hR, h1, h2, gm, gr, gx, hP, hK, hL, h24⟩, hO⟩ := hI
  have hb3 := hR.2.2.2.2.2.2
  refine uS0 (c_X8_list hs (d := d) (by omega) hXO hR h1 h2 gm gr gx p0 p1 hP hK hkc hks) (fun w' h => ?_)
  obtain ⟨rw', nx', b', bt', kn', en', th', hR', hF, gr', gx', hK'⟩ := h
  exact ⟨_, (LIx.ref (S2 := S) hC hO h24 hb3 hF hR' h1 h2 gm gr' gx' hP hK' hL).1⟩
set_option maxRecDepth 100000 in
set_option maxHeartbeats 4000000 in
theorem vv_comes {X : jX} (hs : X.1.stackTraces = false) {d : Nat} (hd : 40 ≤ d) {o : Nat} {S0 S : StX} {w : List jC} (hI : LI o S0 S w) (p0 : Int32) (p1 : Int32) {kc ks : Nat} : jMet X mX8_comes d kc ks [.ref 19, .int p0, .int p1] w (pI (fun _ => True) (LI o S0 S)) := by
  obtain ⟨t, hC, ⟨mv, rw, nx, b, bt, kn, en, hR, h1, h2, gm, gr, gx, hP, hK, hL, h24⟩, hO⟩ := hI
  have hb3 := hR.2.2.2.2.2.2
  refine uI0 (c_X8_comes hs (d := d) (by omega) hR h1 h2 gm gr gx p0 p1) (fun w' h => ?_)
  obtain ⟨th', hR', hF⟩ := h
  exact ⟨_, (LIx.ref (S2 := S) hC hO h24 hb3 hF hR' h1 h2 gm gr gx hP hK hL).1⟩
set_option maxRecDepth 100000 in
set_option maxHeartbeats 4000000 in
theorem vv_pieces {X : jX} (hs : X.1.stackTraces = false) {d : Nat} (hd : 40 ≤ d) {o : Nat} {S0 S : StX} {w : List jC} (hI : LI o S0 S w) (p0 : Int32) {kc ks : Nat} : jMet X mX8_pieces d kc ks [.ref 19, .int p0] w (pI (fun _ => True) (LI o S0 S)) := by
  obtain ⟨t, hC, ⟨mv, rw, nx, b, bt, kn, en, hR, h1, h2, gm, gr, gx, hP, hK, hL, h24⟩, hO⟩ := hI
  have hb3 := hR.2.2.2.2.2.2
  refine uI0 (c_X8_pieces hs (d := d) (by omega) hR h1 h2 gm gr gx p0) (fun w' h => ?_)
  obtain ⟨th', hR', hF⟩ := h
  exact ⟨_, (LIx.ref (S2 := S) hC hO h24 hb3 hF hR' h1 h2 gm gr gx hP hK hL).1⟩
set_option maxRecDepth 100000 in
set_option maxHeartbeats 4000000 in
theorem vv_withOrder {X : jX} (hs : X.1.stackTraces = false) {d : Nat} (hd : 40 ≤ d) {o : Nat} {S0 S : StX} {w : List jC} (hI : LI o S0 S w) (p0 : Int32) (p1 : Int32) {kc ks : Nat} (hkc : 13 ≤ kc) (hks : 2054 ≤ ks) : jMet X mX8_withOrder d kc ks [.ref 19, .int p0, .int p1] w (pI (fun _ => True) (LI o S0 S)) := by
  obtain ⟨t, hC, ⟨mv, rw, nx, b, bt, kn, en, hR, h1, h2, gm, gr, gx, hP, hK, hL, h24⟩, hO⟩ := hI
  have hb3 := hR.2.2.2.2.2.2
  refine uI0 (c_X8_withOrder hs (d := d) (by omega) hR h1 h2 gm gr gx p0 p1 hP hK hkc hks) (fun w' h => ?_)
  obtain ⟨rw', nx', b', bt', kn', en', th', hR', hF, gr', gx', hp0⟩ := h
  exact ⟨_, (LIx.ref (S2 := S) hC hO h24 hb3 hF hR' h1 h2 gm gr' gx' hP hp0 hL).1⟩
set_option maxRecDepth 100000 in
set_option maxHeartbeats 4000000 in
theorem vv_even {X : jX} (hs : X.1.stackTraces = false) {d : Nat} (hd : 40 ≤ d) {o : Nat} {S0 S : StX} {w : List jC} (hI : LI o S0 S w) (p0 : Int32) {kc ks : Nat} (hkc : 13 ≤ kc) (hks : 2054 ≤ ks) : jMet X mX8_even d kc ks [.ref 19, .int p0] w (pI (fun _ => True) (LI o S0 S)) := by
  obtain ⟨t, hC, ⟨mv, rw, nx, b, bt, kn, en, hR, h1, h2, gm, gr, gx, hP, hK, hL, h24⟩, hO⟩ := hI
  have hb3 := hR.2.2.2.2.2.2
  refine uI0 (c_X8_even hs (d := d) (by omega) hR h1 h2 gm gr gx p0 hP hK hkc hks) (fun w' h => ?_)
  obtain ⟨rw', nx', b', bt', kn', en', th', hR', hF, gr', gx', hp0⟩ := h
  exact ⟨_, (LIx.ref (S2 := S) hC hO h24 hb3 hF hR' h1 h2 gm gr' gx' hP hp0 hL).1⟩
set_option maxRecDepth 100000 in
set_option maxHeartbeats 4000000 in
theorem vv_colourings {X : jX} (hs : X.1.stackTraces = false) {d : Nat} (hd : 40 ≤ d) {o : Nat} {S0 S : StX} {w : List jC} (hI : LI o S0 S w) (p0 : Int32) (p1 : Int32) (p2 : Int32) {kc ks : Nat} (hkc : 15 ≤ kc) (hks : 6428 ≤ ks) : jMet X mX8_colourings d kc ks [.ref 19, .int p0, .int p1, .int p2] w (pI (fun _ => True) (LI o S0 S)) := by
  obtain ⟨t, hC, ⟨mv, rw, nx, b, bt, kn, en, hR, h1, h2, gm, gr, gx, hP, hK, hL, h24⟩, hO⟩ := hI
  have hb3 := hR.2.2.2.2.2.2
  refine uI0 (c_X8_colourings hs (d := d) (by omega) hR h1 h2 gm gr gx p0 p1 p2 hP hK hkc hks) (fun w' h => ?_)
  obtain ⟨rw', nx', b', bt', kn', en', th', hR', hF, gr', gx', hp0⟩ := h
  exact ⟨_, (LIx.ref (S2 := S) hC hO h24 hb3 hF hR' h1 h2 gm gr' gx' hP hp0 hL).1⟩
set_option maxRecDepth 100000 in
set_option maxHeartbeats 4000000 in
theorem vv_isPart {X : jX} (hs : X.1.stackTraces = false) {d : Nat} (hd : 40 ≤ d) {o : Nat} {S0 S : StX} {w : List jC} (hI : LI o S0 S w) (p0 : Int32) (p1 : Int32) {kc ks : Nat} (hkc : 78 ≤ kc) (hks : 12324 ≤ ks) : jMet X mX8_isPart d kc ks [.ref 19, .int p0, .int p1] w (pI (fun _ => True) (LI o S0 S)) := by
  obtain ⟨t, hC, ⟨mv, rw, nx, b, bt, kn, en, hR, h1, h2, gm, gr, gx, hP, hK, hL, h24⟩, hO⟩ := hI
  have hb3 := hR.2.2.2.2.2.2
  refine uI0 (c_X8_isPart hs (d := d) (by omega) hR h1 h2 gm gr gx p0 p1 hP hK hkc hks) (fun w' h => ?_)
  obtain ⟨rw', nx', b', bt', kn', en', th', hR', hF, gr', gx', hp0⟩ := h
  exact ⟨_, (LIx.ref (S2 := S) hC hO h24 hb3 hF hR' h1 h2 gm gr' gx' hP hp0 hL).1⟩
set_option maxRecDepth 100000 in
set_option maxHeartbeats 4000000 in
theorem vv_shares {X : jX} (hs : X.1.stackTraces = false) {d : Nat} (hd : 40 ≤ d) {o : Nat} {S0 S : StX} {w : List jC} (hI : LI o S0 S w) (p0 : Int32) (p1 : Int32) {kc ks : Nat} (hkc : 104 ≤ kc) (hks : 16432 ≤ ks) : jMet X mX8_shares d kc ks [.ref 19, .int p0, .int p1] w (pI (fun _ => True) (LI o S0 S)) := by
  obtain ⟨t, hC, ⟨mv, rw, nx, b, bt, kn, en, hR, h1, h2, gm, gr, gx, hP, hK, hL, h24⟩, hO⟩ := hI
  have hb3 := hR.2.2.2.2.2.2
  refine uI0 (c_X8_shares hs (d := d) (by omega) hR h1 h2 gm gr gx p0 p1 hP hK hkc hks) (fun w' h => ?_)
  obtain ⟨rw', nx', b', bt', kn', en', th', hR', hF, gr', gx', hp0⟩ := h
  exact ⟨_, (LIx.ref (S2 := S) hC hO h24 hb3 hF hR' h1 h2 gm gr' gx' hP hp0 hL).1⟩
set_option maxRecDepth 100000 in
set_option maxHeartbeats 4000000 in
theorem vv_share {X : jX} (hs : X.1.stackTraces = false) {d : Nat} (hd : 40 ≤ d) {o : Nat} {S0 S : StX} {w : List jC} (hI : LI o S0 S w) (p0 : Int32) (p1 : Int32) {kc ks : Nat} (hkc : 13 ≤ kc) (hks : 2054 ≤ ks) : jMet X mX8_share d kc ks [.ref 19, .int p0, .int p1] w (pI (fun _ => True) (LI o S0 S)) := by
  obtain ⟨t, hC, ⟨mv, rw, nx, b, bt, kn, en, hR, h1, h2, gm, gr, gx, hP, hK, hL, h24⟩, hO⟩ := hI
  have hb3 := hR.2.2.2.2.2.2
  refine uI0 (c_X8_share hs (d := d) (by omega) hR h1 h2 gm gr gx p0 p1 hP hK hkc hks) (fun w' h => ?_)
  obtain ⟨rw', nx', b', bt', kn', en', th', hR', hF, gr', gx', hp0⟩ := h
  exact ⟨_, (LIx.ref (S2 := S) hC hO h24 hb3 hF hR' h1 h2 gm gr' gx' hP hp0 hL).1⟩
set_option maxRecDepth 100000 in
set_option maxHeartbeats 4000000 in
theorem vv_together {X : jX} (hs : X.1.stackTraces = false) {d : Nat} (hd : 40 ≤ d) {o : Nat} {S0 S : StX} {w : List jC} (hI : LI o S0 S w) (p0 : Int32) (p1 : Int32) (p2 : Int32) {kc ks : Nat} : jMet X mX8_together d kc ks [.ref 19, .int p0, .int p1, .int p2] w (pI (fun _ => True) (LI o S0 S)) := by
  obtain ⟨t, hC, ⟨mv, rw, nx, b, bt, kn, en, hR, h1, h2, gm, gr, gx, hP, hK, hL, h24⟩, hO⟩ := hI
  have hb3 := hR.2.2.2.2.2.2
  refine uI0 (c_X8_together hs (d := d) (by omega) hR h1 h2 gm gr gx p0 p1 p2 hP) (fun w' h => ?_)
  obtain ⟨rw', th', hR', hF, gr'⟩ := h
  exact ⟨_, (LIx.ref (S2 := S) hC hO h24 hb3 hF hR' h1 h2 gm gr' gx hP hK hL).1⟩
set_option maxRecDepth 100000 in
set_option maxHeartbeats 4000000 in
theorem vv_blocks {X : jX} (hs : X.1.stackTraces = false) {d : Nat} (hd : 40 ≤ d) {o : Nat} {S0 S : StX} {w : List jC} (hI : LI o S0 S w) (p0 : Int32) (p1 : Int32) (p2 : Int32) {kc ks : Nat} : jMet X mX8_blocks d kc ks [.ref 19, .int p0, .int p1, .int p2] w (pI (fun _ => True) (LI o S0 S)) := by
  obtain ⟨t, hC, ⟨mv, rw, nx, b, bt, kn, en, hR, h1, h2, gm, gr, gx, hP, hK, hL, h24⟩, hO⟩ := hI
  have hb3 := hR.2.2.2.2.2.2
  refine uI0 (c_X8_blocks hs (d := d) (by omega) hR h1 h2 gm gr gx p0 p1 p2 hP) (fun w' h => ?_)
  obtain ⟨rw', th', hR', hF, gr'⟩ := h
  exact ⟨_, (LIx.ref (S2 := S) hC hO h24 hb3 hF hR' h1 h2 gm gr' gx hP hK hL).1⟩
set_option maxRecDepth 100000 in
set_option maxHeartbeats 4000000 in
theorem vv_isTwofold {X : jX} (hs : X.1.stackTraces = false) {d : Nat} (hd : 40 ≤ d) {o : Nat} {S0 S : StX} {w : List jC} (hI : LI o S0 S w) (p0 : Int32) {kc ks : Nat} (hkc : 1 ≤ kc) (hks : 49 ≤ ks) : jMet X mX8_isTwofold d kc ks [.ref 19, .int p0] w (pI (fun _ => True) (LI o S0 S)) := by
  obtain ⟨t, hC, ⟨mv, rw, nx, b, bt, kn, en, hR, h1, h2, gm, gr, gx, hP, hK, hL, h24⟩, hO⟩ := hI
  have hb3 := hR.2.2.2.2.2.2
  refine uI0 (c_X8_isTwofold hs (d := d) (by omega) hR h1 h2 gm gr gx p0 hkc hks) (fun w' h => ?_)
  obtain ⟨th', hR', hF⟩ := h
  exact ⟨_, (LIx.ref (S2 := S) hC hO h24 hb3 hF hR' h1 h2 gm gr gx hP hK hL).1⟩
set_option maxRecDepth 100000 in
set_option maxHeartbeats 4000000 in
theorem vv_enough {X : jX} (hs : X.1.stackTraces = false) {d : Nat} (hd : 40 ≤ d) {o : Nat} {S0 S : StX} {w : List jC} (hI : LI o S0 S w) (p0 : Int32) {kc ks : Nat} (hkc : 13 ≤ kc) (hks : 2054 ≤ ks) : jMet X mX8_enough d kc ks [.ref 19, .int p0] w (pI (fun _ => True) (LI o S0 S)) := by
  obtain ⟨t, hC, ⟨mv, rw, nx, b, bt, kn, en, hR, h1, h2, gm, gr, gx, hP, hK, hL, h24⟩, hO⟩ := hI
  have hb3 := hR.2.2.2.2.2.2
  refine uI0 (c_X8_enough hs (d := d) (by omega) hR h1 h2 gm gr gx p0 hP hK hkc hks) (fun w' h => ?_)
  obtain ⟨rw', nx', b', bt', kn', en', th', hR', hF, gr', gx', hp0⟩ := h
  exact ⟨_, (LIx.ref (S2 := S) hC hO h24 hb3 hF hR' h1 h2 gm gr' gx' hP hp0 hL).1⟩
set_option maxRecDepth 100000 in
set_option maxHeartbeats 4000000 in
theorem vv_house {X : jX} (hs : X.1.stackTraces = false) {d : Nat} (hd : 40 ≤ d) {o : Nat} {S0 S : StX} {w : List jC} (hI : LI o S0 S w) (p0 : Int32) {kc ks : Nat} : jMet X mX8_house d kc ks [.ref 19, .int p0] w (pJ (fun v w' => ∃ (k : Nat) (S2 : StX), AG (isN p0 3) (True) (Dhouse S p0) S k v S2 ∧ LIx o S0 S2 (nI k) w' ∧ w'[o]? = w[o]?)) := by
  obtain ⟨t, hC, ⟨mv, rw, nx, b, bt, kn, en, hR, h1, h2, gm, gr, gx, hP, hK, hL, h24⟩, hO⟩ := hI
  have hb3 := hR.2.2.2.2.2.2
  refine jJ (c_X8_house_ate hs (d := d) (by omega) hR h1 h2 gm gr gx p0) (fun v w' h => ?_)
  obtain ⟨th', hR', hF, hp2⟩ := h
  rcases hp2 with ⟨e, g⟩ | ⟨e, ⟨na, ha, ea⟩, hv⟩
  · subst e
    exact ⟨1, S, Or.inl ⟨rfl, g, rfl⟩, LIx.ref (S2 := S) hC hO h24 hb3 hF hR' h1 h2 gm gr gx hP hK hL⟩
  · subst e
    have ev : v = (if na = 0 then S.2.1 else if na = 1 then S.2.2.1 else S.2.2.2.1) := by rw [hv, ea]; exact hs_v ha
    exact ⟨0, S, Or.inr (Or.inr ⟨rfl, ⟨na, ha, ea⟩, trivial, ⟨na, ea, ha, ev, rfl⟩⟩), LIx.ref (S2 := S) hC hO h24 hb3 hF hR' h1 h2 gm gr gx hP hK hL⟩
set_option maxRecDepth 100000 in
set_option maxHeartbeats 4000000 in
theorem vv_knock {X : jX} (hs : X.1.stackTraces = false) {d : Nat} (hd : 40 ≤ d) {o : Nat} {S0 S : StX} {w : List jC} (hI : LI o S0 S w) {kc ks : Nat} : jMet X mX8_knock d kc ks [.ref 19] w (pI (fun _ => True) (LI o S0 (KS S))) := by
  obtain ⟨t, hC, ⟨mv, rw, nx, b, bt, kn, en, hR, h1, h2, gm, gr, gx, hP, hK, hL, h24⟩, hO⟩ := hI
  have hb3 := hR.2.2.2.2.2.2
  refine uI0 (c_X8_knock hs (d := d) (by omega) hR h1 h2 gm gr gx) (fun w' h => ?_)
  obtain ⟨hR', hF⟩ := h
  exact ⟨_, (LIx.ref (S2 := (KS S)) hC hO h24 hb3 hF hR' h1 h2 gm gr gx hP hK hL).1⟩
set_option maxRecDepth 100000 in
set_option maxHeartbeats 4000000 in
theorem vv_isSound {X : jX} (hs : X.1.stackTraces = false) {d : Nat} (hd : 40 ≤ d) {o : Nat} {S0 S : StX} {w : List jC} (hI : LI o S0 S w) {kc ks : Nat} (hkc : 15 ≤ kc) (hks : 6428 ≤ ks) : jMet X mX8_isSound d kc ks [.ref 19] w (pI (fun _ => True) (LI o S0 S)) := by
  obtain ⟨t, hC, ⟨mv, rw, nx, b, bt, kn, en, hR, h1, h2, gm, gr, gx, hP, hK, hL, h24⟩, hO⟩ := hI
  have hb3 := hR.2.2.2.2.2.2
  refine uI0 (c_X8_isSound hs (d := d) (by omega) hR h1 h2 gm gr gx hP hK hkc hks) (fun w' h => ?_)
  obtain ⟨rw', nx', b', bt', kn', en', th', hR', hF, gr', gx', hp0⟩ := h
  exact ⟨_, (LIx.ref (S2 := S) hC hO h24 hb3 hF hR' h1 h2 gm gr' gx' hP hp0 hL).1⟩
set_option maxRecDepth 100000 in
set_option maxHeartbeats 4000000 in
theorem vv_digest {X : jX} (hs : X.1.stackTraces = false) {d : Nat} (hd : 40 ≤ d) (hXO : XO X) {o : Nat} {S0 S : StX} {w : List jC} (hI : LI o S0 S w) {kc ks : Nat} (hkc : 330 ≤ kc) (hks : 26000 ≤ ks) : jMet X mX8_digest d kc ks [.ref 19] w (pL (fun _ => True) (LI o S0 S)) := by
  obtain ⟨t, hC, ⟨mv, rw, nx, b, bt, kn, en, hR, h1, h2, gm, gr, gx, hP, hK, hL, h24⟩, hO⟩ := hI
  have hb3 := hR.2.2.2.2.2.2
  refine uL0 (c_X8_digest hs (d := d) (by omega) hXO hR h1 h2 gm gr gx hP hK hkc hks) (fun w' h => ?_)
  obtain ⟨rw', nx', b', bt', kn', en', th', hR', hF, gr', gx', hp0⟩ := h
  exact ⟨_, (LIx.ref (S2 := S) hC hO h24 hb3 hF hR' h1 h2 gm gr' gx' hP hp0 hL).1⟩
