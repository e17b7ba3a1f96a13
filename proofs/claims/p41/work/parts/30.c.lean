section
/-! the reference's calls, in one form -/
set_option maxRecDepth 100000 in
set_option maxHeartbeats 4000000 in
theorem vv_points {X : jX} (hs : X.1.stackTraces = false) {d : Nat} (hd : 40 ≤ d) {o : Nat} {S0 S : StX} {w : List jC} (hI : LI o S0 S w) (p0 : Int32) {kc ks : Nat} : jMet X mX8_points d kc ks [.ref 19, .int p0] w (pJ (fun v w' => ∃ (k : Nat) (S2 : StX), AG (∃ k : Nat, 2 ≤ k ∧ k ≤ 7 ∧ p0 = nI k) (True) (Dpoints S p0) S k v S2 ∧ LIx o S0 S2 (nI k) w' ∧ w'[o]? = w[o]?)) := by
  obtain ⟨t, hC, ⟨mv, rw, nx, b, bt, kn, en, hR, h1, h2, gm, gr, gx, hP, hK, hL, h24⟩, hO⟩ := hI
  have hb3 := hR.2.2.2.2.2.2
  refine jJ (c_X8_points_ate hs (d := d) (by omega) hR h1 h2 gm gr gx p0 hP (KX_KB h1 h2 hK)) (fun v w' h => ?_)
  obtain ⟨n', mv', kn', dn', th', hR', hF, gm', n1', n2', hp0, hk0, hp2⟩ := h
  rcases hp2 with ⟨e, g, q0, q1, q2, q3⟩ | ⟨e, ⟨k, k1, k2, e1, q0, ev⟩, hid, q2, q3⟩
  · subst e
    subst q0
    subst q1
    subst q2
    subst q3
    exact ⟨1, S, Or.inl ⟨rfl, fun ⟨k, k1, k2, e⟩ => g k k1 k2 e, rfl⟩, LIx.ref (S2 := S) hC hO h24 hb3 hF hR' h1 h2 gm' gr gx hP hK hL⟩
  · subst e
    subst q0
    subst q2
    subst q3
    exact ⟨0, _, Or.inr (Or.inr ⟨rfl, ⟨n', n1', n2', e1⟩, trivial, ⟨n', e1, n1', n2', ev, rfl⟩⟩), LIx.ref (S2 := (n', S.2.1 + nI 1, S.2.2.1, S.2.2.2.1, fun _ => 1754760)) hC hO h24 hb3 hF hR' n1' n2' gm' gr gx hp0 (Or.inl rfl) (RL_points n2' hid)⟩
set_option maxRecDepth 100000 in
set_option maxHeartbeats 4000000 in
theorem vv_lay {X : jX} (hs : X.1.stackTraces = false) {d : Nat} (hd : 40 ≤ d) {o : Nat} {S0 S : StX} {w : List jC} (hI : LI o S0 S w) (p0 : Int32) (p1 : Int32) {kc ks : Nat} : jMet X mX8_lay d kc ks [.ref 19, .int p0, .int p1] w (pJ (fun v w' => ∃ (k : Nat) (S2 : StX), AG (isN p0 6) (isN p1 (fc S.1)) (Dlay S p0 p1) S k v S2 ∧ LIx o S0 S2 (nI k) w' ∧ w'[o]? = w[o]?)) := by
  obtain ⟨t, hC, ⟨mv, rw, nx, b, bt, kn, en, hR, h1, h2, gm, gr, gx, hP, hK, hL, h24⟩, hO⟩ := hI
  have hb3 := hR.2.2.2.2.2.2
  refine jJ (c_X8_lay_ate hs (d := d) (by omega) hR h1 h2 gm gr gx p0 p1 hP (KX_KB h1 h2 hK)) (fun v w' h => ?_)
  obtain ⟨mv', rw', kn', dn', th', hR', hF, gm', gr', hp0, hk0, hp2⟩ := h
  rcases hp2 with ⟨e, g, q1, q2, q3⟩ | ⟨e, g1, g2, q1, q2, q3⟩ | ⟨e, ⟨na, nb, ea, eb, ha, hb, hA, hv⟩, q2, q3⟩
  · subst e
    subst q1
    subst q2
    subst q3
    exact ⟨1, S, Or.inl ⟨rfl, g, rfl⟩, LIx.ref (S2 := S) hC hO h24 hb3 hF hR' h1 h2 gm' gr' gx hP hK hL⟩
  · subst e
    subst q1
    subst q2
    subst q3
    exact ⟨2, S, Or.inr (Or.inl ⟨rfl, g1, g2, rfl⟩), LIx.ref (S2 := S) hC hO h24 hb3 hF hR' h1 h2 gm' gr' gx hP hK hL⟩
  · subst e
    subst q2
    subst q3
    have ev : v = nI (nu S.1 (S.2.2.2.2 na)) := by rw [hv, nu_mW h2 hP ha, RLx_mW hL ha]
    exact ⟨0, _, Or.inr (Or.inr ⟨rfl, ⟨na, ha, ea⟩, ⟨nb, hb, eb⟩, ⟨na, nb, ea, eb, ha, hb, ev, rfl⟩⟩), LIx.ref (S2 := ES S na (XM S.1 nb)) hC hO h24 hb3 hF hR' h1 h2 gm' gr' gx hp0 (Or.inl rfl) (RL_lay hL hA)⟩
set_option maxRecDepth 100000 in
set_option maxHeartbeats 4000000 in
theorem vv_exchange {X : jX} (hs : X.1.stackTraces = false) {d : Nat} (hd : 40 ≤ d) {o : Nat} {S0 S : StX} {w : List jC} (hI : LI o S0 S w) (p0 : Int32) (p1 : Int32) (p2 : Int32) {kc ks : Nat} : jMet X mX8_exchange d kc ks [.ref 19, .int p0, .int p1, .int p2] w (pJ (fun v w' => ∃ (k : Nat) (S2 : StX), AG (isN p0 6 ∧ isN p1 S.1 ∧ isN p2 S.1) (True) (Dexchange S p0 p1 p2) S k v S2 ∧ LIx o S0 S2 (nI k) w' ∧ w'[o]? = w[o]?)) := by
  obtain ⟨t, hC, ⟨mv, rw, nx, b, bt, kn, en, hR, h1, h2, gm, gr, gx, hP, hK, hL, h24⟩, hO⟩ := hI
  have hb3 := hR.2.2.2.2.2.2
  refine jJ (c_X8_exchange_ate hs (d := d) (by omega) hR h1 h2 gm gr gx p0 p1 p2 hP (KX_KB h1 h2 hK)) (fun v w' h => ?_)
  obtain ⟨mv', rw', nx', kn', dn', th', hR', hF, gm', gr', gx', hp0, hk0, hp2⟩ := h
  rcases hp2 with ⟨e, g, q1, q2, q3⟩ | ⟨e, ⟨na, nb, nc, ea, eb, ec, ha, hb, hc, hA, hv⟩, q2, q3⟩
  · subst e
    subst q1
    subst q2
    subst q3
    exact ⟨1, S, Or.inl ⟨rfl, g, rfl⟩, LIx.ref (S2 := S) hC hO h24 hb3 hF hR' h1 h2 gm' gr' gx' hP hK hL⟩
  · subst e
    subst q2
    subst q3
    have ev : v = sg S.1 (c7 (S.2.2.2.2 na) (w8 (w8 1754760 nb nc) nc nb)) := hv.trans (SV h2 hp0 (RL_exchange h2 hP hL ha hb hc hA) ha).symm
    exact ⟨0, _, Or.inr (Or.inr ⟨rfl, ⟨⟨na, ha, ea⟩, ⟨nb, hb, eb⟩, ⟨nc, hc, ec⟩⟩, trivial, ⟨na, nb, nc, ea, eb, ec, ha, hb, hc, ev, rfl⟩⟩), LIx.ref (S2 := ES S na (c7 (S.2.2.2.2 na) (w8 (w8 1754760 nb nc) nc nb))) hC hO h24 hb3 hF hR' h1 h2 gm' gr' gx' hp0 (Or.inl rfl) (RL_exchange h2 hP hL ha hb hc hA)⟩
set_option maxRecDepth 100000 in
set_option maxHeartbeats 4000000 in
theorem vv_ring {X : jX} (hs : X.1.stackTraces = false) {d : Nat} (hd : 40 ≤ d) {o : Nat} {S0 S : StX} {w : List jC} (hI : LI o S0 S w) (p0 : Int32) (p1 : Int32) (p2 : Int32) (p3 : Int32) {kc ks : Nat} : jMet X mX8_ring d kc ks [.ref 19, .int p0, .int p1, .int p2, .int p3] w (pJ (fun v w' => ∃ (k : Nat) (S2 : StX), AG (isN p0 6 ∧ isN p1 S.1 ∧ isN p2 S.1 ∧ isN p3 S.1) (p1 ≠ p2 ∧ p2 ≠ p3 ∧ p3 ≠ p1) (Dring S p0 p1 p2 p3) S k v S2 ∧ LIx o S0 S2 (nI k) w' ∧ w'[o]? = w[o]?)) := by
  obtain ⟨t, hC, ⟨mv, rw, nx, b, bt, kn, en, hR, h1, h2, gm, gr, gx, hP, hK, hL, h24⟩, hO⟩ := hI
  have hb3 := hR.2.2.2.2.2.2
  refine jJ (c_X8_ring_ate hs (d := d) (by omega) hR h1 h2 gm gr gx p0 p1 p2 p3 hP (KX_KB h1 h2 hK)) (fun v w' h => ?_)
  obtain ⟨mv', rw', nx', kn', dn', th', hR', hF, gm', gr', gx', hp0, hk0, hp2⟩ := h
  rcases hp2 with ⟨e, g, q1, q2, q3⟩ | ⟨e, g1, g2, q1, q2, q3⟩ | ⟨e, ⟨na, nb, nc, nf, ea, eb, ec, ef, ha, hb, hc, hf, f1, f2, f3, hA, hv⟩, q2, q3⟩
  · subst e
    subst q1
    subst q2
    subst q3
    exact ⟨1, S, Or.inl ⟨rfl, g, rfl⟩, LIx.ref (S2 := S) hC hO h24 hb3 hF hR' h1 h2 gm' gr' gx' hP hK hL⟩
  · subst e
    subst q1
    subst q2
    subst q3
    exact ⟨2, S, Or.inr (Or.inl ⟨rfl, g1, g2, rfl⟩), LIx.ref (S2 := S) hC hO h24 hb3 hF hR' h1 h2 gm' gr' gx' hP hK hL⟩
  · subst e
    subst q2
    subst q3
    have ev : v = sg S.1 (c7 (S.2.2.2.2 na) (w8 (w8 (w8 1754760 nb nc) nc nf) nf nb)) := hv.trans (SV h2 hp0 (RL_ring h2 hP hL ha hb hc hf f1 f2 f3 hA) ha).symm
    exact ⟨0, _, Or.inr (Or.inr ⟨rfl, ⟨⟨na, ha, ea⟩, ⟨nb, hb, eb⟩, ⟨nc, hc, ec⟩, ⟨nf, hf, ef⟩⟩, ⟨fun e => f1 (nI_uq eb (e.trans ec) hb hc), fun e => f2 (nI_uq ec (e.trans ef) hc hf), fun e => f3 (nI_uq ef (e.trans eb) hf hb)⟩, ⟨na, nb, nc, nf, ea, eb, ec, ef, ha, hb, hc, hf, ev, rfl⟩⟩), LIx.ref (S2 := ES S na (c7 (S.2.2.2.2 na) (w8 (w8 (w8 1754760 nb nc) nc nf) nf nb))) hC hO h24 hb3 hF hR' h1 h2 gm' gr' gx' hp0 (Or.inl rfl) (RL_ring h2 hP hL ha hb hc hf f1 f2 f3 hA)⟩
set_option maxRecDepth 100000 in
set_option maxHeartbeats 4000000 in
theorem vv_turn {X : jX} (hs : X.1.stackTraces = false) {d : Nat} (hd : 40 ≤ d) {o : Nat} {S0 S : StX} {w : List jC} (hI : LI o S0 S w) (p0 : Int32) (p1 : Int32) {kc ks : Nat} : jMet X mX8_turn d kc ks [.ref 19, .int p0, .int p1] w (pJ (fun v w' => ∃ (k : Nat) (S2 : StX), AG (isN p0 6) ((-100) ≤ p1 ∧ p1 ≤ nI 100) (Dturn S p0 p1) S k v S2 ∧ LIx o S0 S2 (nI k) w' ∧ w'[o]? = w[o]?)) := by
  obtain ⟨t, hC, ⟨mv, rw, nx, b, bt, kn, en, hR, h1, h2, gm, gr, gx, hP, hK, hL, h24⟩, hO⟩ := hI
  have hb3 := hR.2.2.2.2.2.2
  refine jJ (c_X8_turn_ate hs (d := d) (by omega) hR h1 h2 gm gr gx p0 p1 hP (KX_KB h1 h2 hK)) (fun v w' h => ?_)
  obtain ⟨mv', rw', nx', kn', dn', th', hR', hF, gm', gr', gx', hp0, hk0, hp2⟩ := h
  rcases hp2 with ⟨e, g, q1, q2, q3⟩ | ⟨e, g1, g2, q1, q2, q3⟩ | ⟨e, ⟨na, ea, ha, f1, f2, hA, hv⟩, q2, q3⟩
  · subst e
    subst q1
    subst q2
    subst q3
    exact ⟨1, S, Or.inl ⟨rfl, g, rfl⟩, LIx.ref (S2 := S) hC hO h24 hb3 hF hR' h1 h2 gm' gr' gx' hP hK hL⟩
  · subst e
    subst q1
    subst q2
    subst q3
    exact ⟨2, S, Or.inr (Or.inl ⟨rfl, g1, g2, rfl⟩), LIx.ref (S2 := S) hC hO h24 hb3 hF hR' h1 h2 gm' gr' gx' hP hK hL⟩
  · subst e
    subst q2
    subst q3
    have ev : v = sg S.1 (c7 (S.2.2.2.2 na) (bW (fun p => (p + tT S.1 p1) % S.1) S.1)) := hv.trans (SV h2 hp0 (RL_turn h1 h2 hP hL ha hA) ha).symm
    exact ⟨0, _, Or.inr (Or.inr ⟨rfl, ⟨na, ha, ea⟩, ⟨f1, f2⟩, ⟨na, ea, ha, ev, rfl⟩⟩), LIx.ref (S2 := ES S na (c7 (S.2.2.2.2 na) (bW (fun p => (p + tT S.1 p1) % S.1) S.1))) hC hO h24 hb3 hF hR' h1 h2 gm' gr' gx' hp0 (Or.inl rfl) (RL_turn h1 h2 hP hL ha hA)⟩
set_option maxRecDepth 100000 in
set_option maxHeartbeats 4000000 in
theorem vv_mirror {X : jX} (hs : X.1.stackTraces = false) {d : Nat} (hd : 40 ≤ d) {o : Nat} {S0 S : StX} {w : List jC} (hI : LI o S0 S w) (p0 : Int32) {kc ks : Nat} : jMet X mX8_mirror d kc ks [.ref 19, .int p0] w (pJ (fun v w' => ∃ (k : Nat) (S2 : StX), AG (isN p0 6) (True) (Dmirror S p0) S k v S2 ∧ LIx o S0 S2 (nI k) w' ∧ w'[o]? = w[o]?)) := by
  obtain ⟨t, hC, ⟨mv, rw, nx, b, bt, kn, en, hR, h1, h2, gm, gr, gx, hP, hK, hL, h24⟩, hO⟩ := hI
  have hb3 := hR.2.2.2.2.2.2
  refine jJ (c_X8_mirror_ate hs (d := d) (by omega) hR h1 h2 gm gr gx p0 hP (KX_KB h1 h2 hK)) (fun v w' h => ?_)
  obtain ⟨mv', rw', nx', kn', dn', th', hR', hF, gm', gr', gx', hp0, hk0, hp2⟩ := h
  rcases hp2 with ⟨e, g, q1, q2, q3⟩ | ⟨e, ⟨na, ea, ha, hA, hv⟩, q2, q3⟩
  · subst e
    subst q1
    subst q2
    subst q3
    exact ⟨1, S, Or.inl ⟨rfl, g, rfl⟩, LIx.ref (S2 := S) hC hO h24 hb3 hF hR' h1 h2 gm' gr' gx' hP hK hL⟩
  · subst e
    subst q2
    subst q3
    have ev : v = sg S.1 (c7 (S.2.2.2.2 na) (bW (fun p => S.1 - 1 - p) S.1)) := hv.trans (SV h2 hp0 (RL_mirror h2 hP hL ha hA) ha).symm
    exact ⟨0, _, Or.inr (Or.inr ⟨rfl, ⟨na, ha, ea⟩, trivial, ⟨na, ea, ha, ev, rfl⟩⟩), LIx.ref (S2 := ES S na (c7 (S.2.2.2.2 na) (bW (fun p => S.1 - 1 - p) S.1))) hC hO h24 hb3 hF hR' h1 h2 gm' gr' gx' hp0 (Or.inl rfl) (RL_mirror h2 hP hL ha hA)⟩
set_option maxRecDepth 100000 in
set_option maxHeartbeats 4000000 in
theorem vv_copy {X : jX} (hs : X.1.stackTraces = false) {d : Nat} (hd : 40 ≤ d) {o : Nat} {S0 S : StX} {w : List jC} (hI : LI o S0 S w) (p0 : Int32) (p1 : Int32) {kc ks : Nat} : jMet X mX8_copy d kc ks [.ref 19, .int p0, .int p1] w (pJ (fun v w' => ∃ (k : Nat) (S2 : StX), AG (isN p0 6 ∧ isN p1 6) (True) (Dcopy S p0 p1) S k v S2 ∧ LIx o S0 S2 (nI k) w' ∧ w'[o]? = w[o]?)) := by
  obtain ⟨t, hC, ⟨mv, rw, nx, b, bt, kn, en, hR, h1, h2, gm, gr, gx, hP, hK, hL, h24⟩, hO⟩ := hI
  have hb3 := hR.2.2.2.2.2.2
  refine jJ (c_X8_copy_ate hs (d := d) (by omega) hR h1 h2 gm gr gx p0 p1 hP (KX_KB h1 h2 hK)) (fun v w' h => ?_)
  obtain ⟨mv', nx', kn', dn', th', hR', hF, gm', gx', hp0, hk0, hp2⟩ := h
  rcases hp2 with ⟨e, g, q1, q2, q3⟩ | ⟨e, ⟨na, nb, ea, eb, ha, hb, hA, hv⟩, q2, q3⟩
  · subst e
    subst q1
    subst q2
    subst q3
    exact ⟨1, S, Or.inl ⟨rfl, g, rfl⟩, LIx.ref (S2 := S) hC hO h24 hb3 hF hR' h1 h2 gm' gr gx' hP hK hL⟩
  · subst e
    subst q2
    subst q3
    have ev : v = (if (S.2.2.2.2 nb) = (S.2.2.2.2 na) then nI 0 else nI 1) := CVb h2 hP hL ha hb hv
    exact ⟨0, _, Or.inr (Or.inr ⟨rfl, ⟨⟨na, ha, ea⟩, ⟨nb, hb, eb⟩⟩, trivial, ⟨na, nb, ea, eb, ha, hb, ev, rfl⟩⟩), LIx.ref (S2 := ES S nb (S.2.2.2.2 na)) hC hO h24 hb3 hF hR' h1 h2 gm' gr gx' hp0 (Or.inl rfl) (RL_copy hL ha hA)⟩
set_option maxRecDepth 100000 in
set_option maxHeartbeats 4000000 in
theorem vv_swap {X : jX} (hs : X.1.stackTraces = false) {d : Nat} (hd : 40 ≤ d) {o : Nat} {S0 S : StX} {w : List jC} (hI : LI o S0 S w) (p0 : Int32) (p1 : Int32) {kc ks : Nat} : jMet X mX8_swap d kc ks [.ref 19, .int p0, .int p1] w (pJ (fun v w' => ∃ (k : Nat) (S2 : StX), AG (isN p0 6 ∧ isN p1 6) (True) (Dswap S p0 p1) S k v S2 ∧ LIx o S0 S2 (nI k) w' ∧ w'[o]? = w[o]?)) := by
  obtain ⟨t, hC, ⟨mv, rw, nx, b, bt, kn, en, hR, h1, h2, gm, gr, gx, hP, hK, hL, h24⟩, hO⟩ := hI
  have hb3 := hR.2.2.2.2.2.2
  refine jJ (c_X8_swap_ate hs (d := d) (by omega) hR h1 h2 gm gr gx p0 p1 hP (KX_KB h1 h2 hK)) (fun v w' h => ?_)
  obtain ⟨mv', kn', dn', th', hR', hF, gm', hp0, hk0, hp2⟩ := h
  rcases hp2 with ⟨e, g, q1, q2, q3⟩ | ⟨e, ⟨na, nb, ea, eb, ha, hb, hA, hv⟩, q2, q3⟩
  · subst e
    subst q1
    subst q2
    subst q3
    exact ⟨1, S, Or.inl ⟨rfl, g, rfl⟩, LIx.ref (S2 := S) hC hO h24 hb3 hF hR' h1 h2 gm' gr gx hP hK hL⟩
  · subst e
    subst q2
    subst q3
    have ev : v = (if (S.2.2.2.2 na) = (S.2.2.2.2 nb) then nI 0 else nI 1) := CVa h2 hP hL ha hb hv
    exact ⟨0, _, Or.inr (Or.inr ⟨rfl, ⟨⟨na, ha, ea⟩, ⟨nb, hb, eb⟩⟩, trivial, ⟨na, nb, ea, eb, ha, hb, ev, rfl⟩⟩), LIx.ref (S2 := (S.1, S.2.1 + nI 1, S.2.2.1, S.2.2.2.1, up (up S.2.2.2.2 na (S.2.2.2.2 nb)) nb (S.2.2.2.2 na))) hC hO h24 hb3 hF hR' h1 h2 gm' gr gx hp0 (Or.inl rfl) (by rw [hA]; exact RL_swap h2 hL ha hb)⟩
set_option maxRecDepth 100000 in
set_option maxHeartbeats 4000000 in
theorem vv_then {X : jX} (hs : X.1.stackTraces = false) {d : Nat} (hd : 40 ≤ d) {o : Nat} {S0 S : StX} {w : List jC} (hI : LI o S0 S w) (p0 : Int32) (p1 : Int32) (p2 : Int32) {kc ks : Nat} : jMet X mX8_then d kc ks [.ref 19, .int p0, .int p1, .int p2] w (pJ (fun v w' => ∃ (k : Nat) (S2 : StX), AG (isN p0 6 ∧ isN p1 6 ∧ isN p2 6) (True) (Dthen S p0 p1 p2) S k v S2 ∧ LIx o S0 S2 (nI k) w' ∧ w'[o]? = w[o]?)) := by
  obtain ⟨t, hC, ⟨mv, rw, nx, b, bt, kn, en, hR, h1, h2, gm, gr, gx, hP, hK, hL, h24⟩, hO⟩ := hI
  have hb3 := hR.2.2.2.2.2.2
  refine jJ (c_X8_then_ate hs (d := d) (by omega) hR h1 h2 gm gr gx p0 p1 p2 hP (KX_KB h1 h2 hK)) (fun v w' h => ?_)
  obtain ⟨mv', nx', kn', dn', th', hR', hF, gm', gx', hp0, hk0, hp2⟩ := h
  rcases hp2 with ⟨e, g, q1, q2, q3⟩ | ⟨e, ⟨na, nb, nc, ea, eb, ec, ha, hb, hc, hA, hv⟩, q2, q3⟩
  · subst e
    subst q1
    subst q2
    subst q3
    exact ⟨1, S, Or.inl ⟨rfl, g, rfl⟩, LIx.ref (S2 := S) hC hO h24 hb3 hF hR' h1 h2 gm' gr gx' hP hK hL⟩
  · subst e
    subst q2
    subst q3
    have ev : v = nI (nu S.1 (c7 (S.2.2.2.2 na) (S.2.2.2.2 nb))) := hv.trans (congrArg nI (AV h2 hp0 (RL_then h2 hP hL ha hb hA) hA hc).symm)
    exact ⟨0, _, Or.inr (Or.inr ⟨rfl, ⟨⟨na, ha, ea⟩, ⟨nb, hb, eb⟩, ⟨nc, hc, ec⟩⟩, trivial, ⟨na, nb, nc, ea, eb, ec, ha, hb, hc, ev, rfl⟩⟩), LIx.ref (S2 := ES S nc (c7 (S.2.2.2.2 na) (S.2.2.2.2 nb))) hC hO h24 hb3 hF hR' h1 h2 gm' gr gx' hp0 (Or.inl rfl) (RL_then h2 hP hL ha hb hA)⟩
set_option maxRecDepth 100000 in
set_option maxHeartbeats 4000000 in
theorem vv_undo {X : jX} (hs : X.1.stackTraces = false) {d : Nat} (hd : 40 ≤ d) {o : Nat} {S0 S : StX} {w : List jC} (hI : LI o S0 S w) (p0 : Int32) (p1 : Int32) {kc ks : Nat} : jMet X mX8_undo d kc ks [.ref 19, .int p0, .int p1] w (pJ (fun v w' => ∃ (k : Nat) (S2 : StX), AG (isN p0 6 ∧ isN p1 6) (True) (Dundo S p0 p1) S k v S2 ∧ LIx o S0 S2 (nI k) w' ∧ w'[o]? = w[o]?)) := by
  obtain ⟨t, hC, ⟨mv, rw, nx, b, bt, kn, en, hR, h1, h2, gm, gr, gx, hP, hK, hL, h24⟩, hO⟩ := hI
  have hb3 := hR.2.2.2.2.2.2
  refine jJ (c_X8_undo_ate hs (d := d) (by omega) hR h1 h2 gm gr gx p0 p1 hP (KX_KB h1 h2 hK)) (fun v w' h => ?_)
  obtain ⟨mv', nx', kn', dn', th', hR', hF, gm', gx', hp0, hk0, hp2⟩ := h
  rcases hp2 with ⟨e, g, q1, q2, q3⟩ | ⟨e, ⟨na, nb, g, ea, eb, ha, hb, hf, hA, hv⟩, q2, q3⟩
  · subst e
    subst q1
    subst q2
    subst q3
    exact ⟨1, S, Or.inl ⟨rfl, g, rfl⟩, LIx.ref (S2 := S) hC hO h24 hb3 hF hR' h1 h2 gm' gr gx' hP hK hL⟩
  · subst e
    subst q2
    subst q3
    have ev : v = nI (nu S.1 (i7 (S.2.2.2.2 na))) := hv.trans (congrArg nI (AV h2 hp0 (RL_undo h2 hP hL ha hf hA) hA hb).symm)
    exact ⟨0, _, Or.inr (Or.inr ⟨rfl, ⟨⟨na, ha, ea⟩, ⟨nb, hb, eb⟩⟩, trivial, ⟨na, nb, ea, eb, ha, hb, ev, rfl⟩⟩), LIx.ref (S2 := ES S nb (i7 (S.2.2.2.2 na))) hC hO h24 hb3 hF hR' h1 h2 gm' gr gx' hp0 (Or.inl rfl) (RL_undo h2 hP hL ha hf hA)⟩
set_option maxRecDepth 100000 in
set_option maxHeartbeats 4000000 in
theorem vv_power {X : jX} (hs : X.1.stackTraces = false) {d : Nat} (hd : 40 ≤ d) {o : Nat} {S0 S : StX} {w : List jC} (hI : LI o S0 S w) (p0 : Int32) (p1 : Int32) (p2 : Int32) {kc ks : Nat} : jMet X mX8_power d kc ks [.ref 19, .int p0, .int p1, .int p2] w (pJ (fun v w' => ∃ (k : Nat) (S2 : StX), AG (isN p0 6 ∧ isN p2 6) ((-1000) ≤ p1 ∧ p1 ≤ nI 1000) (Dpower S p0 p1 p2) S k v S2 ∧ LIx o S0 S2 (nI k) w' ∧ w'[o]? = w[o]?)) := by
  obtain ⟨t, hC, ⟨mv, rw, nx, b, bt, kn, en, hR, h1, h2, gm, gr, gx, hP, hK, hL, h24⟩, hO⟩ := hI
  have hb3 := hR.2.2.2.2.2.2
  refine jJ (c_X8_power_ate hs (d := d) (by omega) hR h1 h2 gm gr gx p0 p1 p2 hP (KX_KB h1 h2 hK)) (fun v w' h => ?_)
  obtain ⟨mv', nx', kn', dn', th', hR', hF, gm', gx', hp0, hk0, hp2⟩ := h
  rcases hp2 with ⟨e, g, q1, q2, q3⟩ | ⟨e, g1, g2, q1, q2, q3⟩ | ⟨e, ⟨na, nc, ea, ec, ha, hc, f1, f2, hA, hv⟩, q2, q3⟩
  · subst e
    subst q1
    subst q2
    subst q3
    exact ⟨1, S, Or.inl ⟨rfl, g, rfl⟩, LIx.ref (S2 := S) hC hO h24 hb3 hF hR' h1 h2 gm' gr gx' hP hK hL⟩
  · subst e
    subst q1
    subst q2
    subst q3
    exact ⟨2, S, Or.inr (Or.inl ⟨rfl, g1, g2, rfl⟩), LIx.ref (S2 := S) hC hO h24 hb3 hF hR' h1 h2 gm' gr gx' hP hK hL⟩
  · subst e
    subst q2
    subst q3
    have ev : v = nI (nu S.1 (pwM p1 (S.2.2.2.2 na))) := hv.trans (congrArg nI (AV h2 hp0 (RL_power h2 hP hL ha f1 f2 hA) hA hc).symm)
    exact ⟨0, _, Or.inr (Or.inr ⟨rfl, ⟨⟨na, ha, ea⟩, ⟨nc, hc, ec⟩⟩, ⟨f1, f2⟩, ⟨na, nc, ea, ec, ha, hc, ev, rfl⟩⟩), LIx.ref (S2 := ES S nc (pwM p1 (S.2.2.2.2 na))) hC hO h24 hb3 hF hR' h1 h2 gm' gr gx' hp0 (Or.inl rfl) (RL_power h2 hP hL ha f1 f2 hA)⟩
set_option maxRecDepth 100000 in
set_option maxHeartbeats 4000000 in
theorem vv_rename {X : jX} (hs : X.1.stackTraces = false) {d : Nat} (hd : 40 ≤ d) {o : Nat} {S0 S : StX} {w : List jC} (hI : LI o S0 S w) (p0 : Int32) (p1 : Int32) (p2 : Int32) {kc ks : Nat} : jMet X mX8_rename d kc ks [.ref 19, .int p0, .int p1, .int p2] w (pJ (fun v w' => ∃ (k : Nat) (S2 : StX), AG (isN p0 6 ∧ isN p1 6 ∧ isN p2 6) (True) (Drename S p0 p1 p2) S k v S2 ∧ LIx o S0 S2 (nI k) w' ∧ w'[o]? = w[o]?)) := by
  obtain ⟨t, hC, ⟨mv, rw, nx, b, bt, kn, en, hR, h1, h2, gm, gr, gx, hP, hK, hL, h24⟩, hO⟩ := hI
  have hb3 := hR.2.2.2.2.2.2
  refine jJ (c_X8_rename_ate hs (d := d) (by omega) hR h1 h2 gm gr gx p0 p1 p2 hP (KX_KB h1 h2 hK)) (fun v w' h => ?_)
  obtain ⟨mv', nx', kn', dn', th', hR', hF, gm', gx', hp0, hk0, hp2⟩ := h
  rcases hp2 with ⟨e, g, q1, q2, q3⟩ | ⟨e, ⟨na, nb, nc, g, ea, eb, ec, ha, hb, hc, hf, hA, hv⟩, q2, q3⟩
  · subst e
    subst q1
    subst q2
    subst q3
    exact ⟨1, S, Or.inl ⟨rfl, g, rfl⟩, LIx.ref (S2 := S) hC hO h24 hb3 hF hR' h1 h2 gm' gr gx' hP hK hL⟩
  · subst e
    subst q2
    subst q3
    have ev : v = nI (nu S.1 (c7 (c7 (i7 (S.2.2.2.2 nb)) (S.2.2.2.2 na)) (S.2.2.2.2 nb))) := hv.trans (congrArg nI (AV h2 hp0 (RL_rename h2 hP hL ha hb hf hA) hA hc).symm)
    exact ⟨0, _, Or.inr (Or.inr ⟨rfl, ⟨⟨na, ha, ea⟩, ⟨nb, hb, eb⟩, ⟨nc, hc, ec⟩⟩, trivial, ⟨na, nb, nc, ea, eb, ec, ha, hb, hc, ev, rfl⟩⟩), LIx.ref (S2 := ES S nc (c7 (c7 (i7 (S.2.2.2.2 nb)) (S.2.2.2.2 na)) (S.2.2.2.2 nb))) hC hO h24 hb3 hF hR' h1 h2 gm' gr gx' hp0 (Or.inl rfl) (RL_rename h2 hP hL ha hb hf hA)⟩
set_option maxRecDepth 100000 in
set_option maxHeartbeats 4000000 in
theorem vv_match {X : jX} (hs : X.1.stackTraces = false) {d : Nat} (hd : 40 ≤ d) {o : Nat} {S0 S : StX} {w : List jC} (hI : LI o S0 S w) (p0 : Int32) (p1 : Int32) (p2 : Int32) {kc ks : Nat} : jMet X mX8_match d kc ks [.ref 19, .int p0, .int p1, .int p2] w (pJ (fun v w' => ∃ (k : Nat) (S2 : StX), AG (isN p0 6 ∧ isN p1 6 ∧ isN p2 6) (True) (Dmatch S p0 p1 p2) S k v S2 ∧ LIx o S0 S2 (nI k) w' ∧ w'[o]? = w[o]?)) := by
  obtain ⟨t, hC, ⟨mv, rw, nx, b, bt, kn, en, hR, h1, h2, gm, gr, gx, hP, hK, hL, h24⟩, hO⟩ := hI
  have hb3 := hR.2.2.2.2.2.2
  refine jJ (c_X8_match_ate hs (d := d) (by omega) hR h1 h2 gm gr gx p0 p1 p2 hP (KX_KB h1 h2 hK)) (fun v w' h => ?_)
  obtain ⟨mv', rw', kn', dn', rf', th', hR', hF, gm', gr', hp0, hk0, hp2⟩ := h
  rcases hp2 with ⟨e, g, q1, q2, q3, q4⟩ | ⟨e, ⟨na, nb, nc, k, ea, eb, ec, ha, hb, hc, hk, hq, hl, hA, hv⟩, q2, q3, q4⟩ | ⟨e, ⟨na, nb, nc, ea, eb, ec, ha, hb, hc, hl, hv⟩, q1, q2, q3, q4⟩
  · subst e
    subst q1
    subst q2
    subst q3
    subst q4
    exact ⟨1, S, Or.inl ⟨rfl, g, rfl⟩, LIx.ref (S2 := S) hC hO h24 hb3 hF hR' h1 h2 gm' gr' gx hP hK hL⟩
  · subst e
    subst q2
    subst q3
    subst q4
    exact ⟨0, _, Or.inr (Or.inr ⟨rfl, ⟨⟨na, ha, ea⟩, ⟨nb, hb, eb⟩, ⟨nc, hc, ec⟩⟩, trivial, ⟨na, nb, nc, ea, eb, ec, ha, hb, hc, Or.inl ⟨XM S.1 k, LN_ref (by omega) h2 hP hL ha hb hk hq hl, hv.trans (congrArg nI (nu_congr (fun p hp => XM_d (by omega) h2 hp)).symm), rfl⟩⟩⟩), LIx.ref (S2 := ES S nc (XM S.1 k)) hC hO h24 hb3 hF hR' h1 h2 gm' gr' gx hp0 (Or.inl rfl) (RL_lay hL hA)⟩
  · subst e
    subst q1
    subst q2
    subst q3
    subst q4
    exact ⟨0, _, Or.inr (Or.inr ⟨rfl, ⟨⟨na, ha, ea⟩, ⟨nb, hb, eb⟩, ⟨nc, hc, ec⟩⟩, trivial, ⟨na, nb, nc, ea, eb, ec, ha, hb, hc, Or.inr ⟨LN_none (by omega) h2 hP hL ha hb hl, hv, rfl⟩⟩⟩), LIx.ref (S2 := NS S) hC hO h24 hb3 hF hR' h1 h2 gm' gr' gx hP hK hL⟩
set_option maxRecDepth 100000 in
set_option maxHeartbeats 4000000 in
theorem vv_nth {X : jX} (hs : X.1.stackTraces = false) {d : Nat} (hd : 40 ≤ d) {o : Nat} {S0 S : StX} {w : List jC} (hI : LI o S0 S w) (p0 : Int32) (p1 : Int32) (p2 : Int32) (p3 : Int32) {kc ks : Nat} (hkc : 15 ≤ kc) (hks : 2068 ≤ ks) : jMet X mX8_nth d kc ks [.ref 19, .int p0, .int p1, .int p2, .int p3] w (pJ (fun v w' => ∃ (k : Nat) (S2 : StX), AG (isN p1 6 ∧ isN p3 6) (isN p0 64 ∧ 0 ≤ p2) (Dnth S p0 p1 p2 p3) S k v S2 ∧ LIx o S0 S2 (nI k) w' ∧ w'[o]? = w[o]?)) := by
  obtain ⟨t, hC, ⟨mv, rw, nx, b, bt, kn, en, hR, h1, h2, gm, gr, gx, hP, hK, hL, h24⟩, hO⟩ := hI
  have hb3 := hR.2.2.2.2.2.2
  refine jJ (c_X8_nth_ate hs (d := d) (by omega) hR h1 h2 gm gr gx p0 p1 p2 p3 hP hK hkc hks) (fun v w' h => ?_)
  obtain ⟨mv', rw', nx', b', bt', kn', en', dn', rf', th', hR', hF, gm', gr', gx', hp0, hp2⟩ := h
  rcases hp2 with ⟨e, g, q1, hk, q3, q4⟩ | ⟨e, g1, g2, q1, hk, q3, q4⟩ | ⟨e, ⟨s, na, nb, rk, y, es, ea, eb, er, hs', ha, hb, hr, hlt, hy1, hy2, hA, hv⟩, q2, q3, q4⟩ | ⟨e, ⟨s, na, nb, rk, es, ea, eb, er, hs', ha, hb, hr, hlt, hv⟩, q1, hk, q3, q4⟩
  · subst e
    subst q1
    subst q3
    subst q4
    exact ⟨1, S, Or.inl ⟨rfl, g, rfl⟩, LIx.ref (S2 := S) hC hO h24 hb3 hF hR' h1 h2 gm' gr' gx' hP hk hL⟩
  · subst e
    subst q1
    subst q3
    subst q4
    exact ⟨2, S, Or.inr (Or.inl ⟨rfl, g1, g2, rfl⟩), LIx.ref (S2 := S) hC hO h24 hb3 hF hR' h1 h2 gm' gr' gx' hP hk hL⟩
  · subst e
    subst q2
    subst q3
    subst q4
    exact ⟨0, _, Or.inr (Or.inr ⟨rfl, ⟨⟨na, ha, ea⟩, ⟨nb, hb, eb⟩⟩, ⟨⟨s, hs', es⟩, by rw [er]; exact nI_pos' hr⟩, ⟨s, na, nb, rk, es, ea, eb, er, hs', ha, hb, hr, Or.inl ⟨y, by rw [← cd_RL (by omega) h2 hL s]; exact hlt, hy1, GK_RL (by omega) h2 hP hL ha hy2, hv, rfl⟩⟩⟩), LIx.ref (S2 := ES S nb y) hC hO h24 hb3 hF hR' h1 h2 gm' gr' gx' hp0 (Or.inl rfl) (RL_nth hL h2 hy1 hA)⟩
  · subst e
    subst q1
    subst q3
    subst q4
    exact ⟨0, _, Or.inr (Or.inr ⟨rfl, ⟨⟨na, ha, ea⟩, ⟨nb, hb, eb⟩⟩, ⟨⟨s, hs', es⟩, by rw [er]; exact nI_pos' hr⟩, ⟨s, na, nb, rk, es, ea, eb, er, hs', ha, hb, hr, Or.inr ⟨by rw [← cd_RL (by omega) h2 hL s]; exact hlt, hv, rfl⟩⟩⟩), LIx.ref (S2 := NS S) hC hO h24 hb3 hF hR' h1 h2 gm' gr' gx' hP hk hL⟩
set_option maxRecDepth 100000 in
set_option maxHeartbeats 4000000 in
theorem vv_count {X : jX} (hs : X.1.stackTraces = false) {d : Nat} (hd : 40 ≤ d) {o : Nat} {S0 S : StX} {w : List jC} (hI : LI o S0 S w) {kc ks : Nat} : jMet X mX8_count d kc ks [.ref 19] w (pI (fun _ => True) (LI o S0 S)) := by
  obtain ⟨t, hC, ⟨mv, rw, nx, b, bt, kn, en, hR, h1, h2, gm, gr, gx, hP, hK, hL, h24⟩, hO⟩ := hI
  have hb3 := hR.2.2.2.2.2.2
  refine uI0 (c_X8_count hs (d := d) (by omega) hR h1 h2 gm gr gx) (fun w' h => ?_)
  obtain ⟨hR', hF⟩ := h
  exact ⟨_, (LIx.ref (S2 := S) hC hO h24 hb3 hF hR' h1 h2 gm gr gx hP hK hL).1⟩
set_option maxRecDepth 100000 in
set_option maxHeartbeats 4000000 in
theorem vv_number {X : jX} (hs : X.1.stackTraces = false) {d : Nat} (hd : 40 ≤ d) {o : Nat} {S0 S : StX} {w : List jC} (hI : LI o S0 S w) (p0 : Int32) {kc ks : Nat} : jMet X mX8_number d kc ks [.ref 19, .int p0] w (pJ (fun v w' => ∃ (k : Nat) (S2 : StX), AG (isN p0 6) (True) (Dnumber S p0) S k v S2 ∧ LIx o S0 S2 (nI k) w' ∧ w'[o]? = w[o]?)) := by
  obtain ⟨t, hC, ⟨mv, rw, nx, b, bt, kn, en, hR, h1, h2, gm, gr, gx, hP, hK, hL, h24⟩, hO⟩ := hI
  have hb3 := hR.2.2.2.2.2.2
  refine jJ (c_X8_number_ate hs (d := d) (by omega) hR h1 h2 gm gr gx p0) (fun v w' h => ?_)
  obtain ⟨th', hR', hF, hp2⟩ := h
  rcases hp2 with ⟨e, g⟩ | ⟨e, na, ea, ha, hv⟩
  · subst e
    exact ⟨1, S, Or.inl ⟨rfl, g, rfl⟩, LIx.ref (S2 := S) hC hO h24 hb3 hF hR' h1 h2 gm gr gx hP hK hL⟩
  · subst e
    have ev : v = nI (nu S.1 (S.2.2.2.2 na)) := by rw [hv, nu_mW h2 hP ha, RLx_mW hL ha]
    exact ⟨0, S, Or.inr (Or.inr ⟨rfl, ⟨na, ha, ea⟩, trivial, ⟨na, ea, ha, ev, rfl⟩⟩), LIx.ref (S2 := S) hC hO h24 hb3 hF hR' h1 h2 gm gr gx hP hK hL⟩
set_option maxRecDepth 100000 in
set_option maxHeartbeats 4000000 in
theorem vv_goes {X : jX} (hs : X.1.stackTraces = false) {d : Nat} (hd : 40 ≤ d) {o : Nat} {S0 S : StX} {w : List jC} (hI : LI o S0 S w) (p0 : Int32) (p1 : Int32) {kc ks : Nat} : jMet X mX8_goes d kc ks [.ref 19, .int p0, .int p1] w (pJ (fun v w' => ∃ (k : Nat) (S2 : StX), AG (isN p0 6 ∧ isN p1 S.1) (True) (Dgoes S p0 p1) S k v S2 ∧ LIx o S0 S2 (nI k) w' ∧ w'[o]? = w[o]?)) := by
  obtain ⟨t, hC, ⟨mv, rw, nx, b, bt, kn, en, hR, h1, h2, gm, gr, gx, hP, hK, hL, h24⟩, hO⟩ := hI
  have hb3 := hR.2.2.2.2.2.2
  refine jJ (c_X8_goes_ate hs (d := d) (by omega) hR h1 h2 gm gr gx p0 p1) (fun v w' h => ?_)
  obtain ⟨th', hR', hF, hp2⟩ := h
  rcases hp2 with ⟨e, g⟩ | ⟨e, na, nb, ea, eb, ha, hb, hv⟩
  · subst e
    exact ⟨1, S, Or.inl ⟨rfl, g, rfl⟩, LIx.ref (S2 := S) hC hO h24 hb3 hF hR' h1 h2 gm gr gx hP hK hL⟩
  · subst e
    have ev : v = nI (d8 (S.2.2.2.2 na) nb) := by rw [hv, RLx_d h2 hL hP ha hb]
    exact ⟨0, S, Or.inr (Or.inr ⟨rfl, ⟨⟨na, ha, ea⟩, ⟨nb, hb, eb⟩⟩, trivial, ⟨na, nb, ea, eb, ha, hb, ev, rfl⟩⟩), LIx.ref (S2 := S) hC hO h24 hb3 hF hR' h1 h2 gm gr gx hP hK hL⟩
set_option maxRecDepth 100000 in
set_option maxHeartbeats 4000000 in
theorem vv_text {X : jX} (hs : X.1.stackTraces = false) {d : Nat} (hd : 40 ≤ d) (hXO : XO X) {o : Nat} {S0 S : StX} {w : List jC} (hI : LI o S0 S w) (p0 : Int32) {kc ks : Nat} (hkc : 40 ≤ kc) (hks : 1500 ≤ ks) : jMet X mX8_text d kc ks [.ref 19, .int p0] w (pS (fun w' => LI o S0 S w')) := by
  obtain ⟨t, hC, ⟨mv, rw, nx, b, bt, kn, en, hR, h1, h2, gm, gr, gx, hP, hK, hL, h24⟩, hO⟩ := hI
  have hb3 := hR.2.2.2.2.2.2
  refine uS0 (c_X8_text hs (d := d) (by omega) hXO hR h1 h2 gm gr gx p0 hkc hks) (fun w' h => ?_)
  obtain ⟨th', hR', hF⟩ := h
  exact ⟨_, (LIx.ref (S2 := S) hC hO h24 hb3 hF hR' h1 h2 gm gr gx hP hK hL).1⟩
set_option maxRecDepth 100000 in
set_option maxHeartbeats 4000000 in
theorem vv_rings {X : jX} (hs : X.1.stackTraces = false) {d : Nat} (hd : 40 ≤ d) (hXO : XO X) {o : Nat} {S0 S : StX} {w : List jC} (hI : LI o S0 S w) (p0 : Int32) {kc ks : Nat} (hkc : 40 ≤ kc) (hks : 1500 ≤ ks) : jMet X mX8_rings d kc ks [.ref 19, .int p0] w (pS (fun w' => LI o S0 S w')) := by
  obtain ⟨t, hC, ⟨mv, rw, nx, b, bt, kn, en, hR, h1, h2, gm, gr, gx, hP, hK, hL, h24⟩, hO⟩ := hI
  have hb3 := hR.2.2.2.2.2.2
  refine uS0 (c_X8_rings hs (d := d) (by omega) hXO hR h1 h2 gm gr gx p0 hP hkc hks) (fun w' h => ?_)
  obtain ⟨th', hR', hF⟩ := h
  exact ⟨_, (LIx.ref (S2 := S) hC hO h24 hb3 hF hR' h1 h2 gm gr gx hP hK hL).1⟩
set_option maxRecDepth 100000 in
set_option maxHeartbeats 4000000 in
theorem vv_ringText {X : jX} (hs : X.1.stackTraces = false) {d : Nat} (hd : 40 ≤ d) (hXO : XO X) {o : Nat} {S0 S : StX} {w : List jC} (hI : LI o S0 S w) (p0 : Int32) (p1 : Int32) {kc ks : Nat} (hkc : 40 ≤ kc) (hks : 1500 ≤ ks) : jMet X mX8_ringText d kc ks [.ref 19, .int p0, .int p1] w (pS (fun w' => LI o S0 S w')) := by
  obtain ⟨t, hC, ⟨mv, rw, nx, b, bt, kn, en, hR, h1, h2, gm, gr, gx, hP, hK, hL, h24⟩, hO⟩ := hI
  have hb3 := hR.2.2.2.2.2.2
  refine uS0 (c_X8_ringText hs (d := d) (by omega) hXO hR h1 h2 gm gr gx p0 p1 hP hkc hks) (fun w' h => ?_)
  obtain ⟨th', hR', hF⟩ := h
  exact ⟨_, (LIx.ref (S2 := S) hC hO h24 hb3 hF hR' h1 h2 gm gr gx hP hK hL).1⟩
set_option maxRecDepth 100000 in
set_option maxHeartbeats 4000000 in
theorem vv_order {X : jX} (hs : X.1.stackTraces = false) {d : Nat} (hd : 40 ≤ d) {o : Nat} {S0 S : StX} {w : List jC} (hI : LI o S0 S w) (p0 : Int32) {kc ks : Nat} : jMet X mX8_order d kc ks [.ref 19, .int p0] w (pJ (fun v w' => ∃ (k : Nat) (S2 : StX), AG (isN p0 6) (True) (Dorder S p0) S k v S2 ∧ LIx o S0 S2 (nI k) w' ∧ w'[o]? = w[o]?)) := by
  obtain ⟨t, hC, ⟨mv, rw, nx, b, bt, kn, en, hR, h1, h2, gm, gr, gx, hP, hK, hL, h24⟩, hO⟩ := hI
  have hb3 := hR.2.2.2.2.2.2
  refine jJ (c_X8_order_ate hs (d := d) (by omega) hR h1 h2 gm gr gx p0 hP) (fun v w' h => ?_)
  obtain ⟨th', hR', hF, hp2⟩ := h
  rcases hp2 with ⟨e, g⟩ | ⟨e, na, ea, ha, hv⟩
  · subst e
    exact ⟨1, S, Or.inl ⟨rfl, g, rfl⟩, LIx.ref (S2 := S) hC hO h24 hb3 hF hR' h1 h2 gm gr gx hP hK hL⟩
  · subst e
    have ev : v = nI (oC (S.2.2.2.2 na)) := hv.trans (congrArg nI (QO h2 hP hL ha).symm)
    exact ⟨0, S, Or.inr (Or.inr ⟨rfl, ⟨na, ha, ea⟩, trivial, ⟨na, ea, ha, ev, rfl⟩⟩), LIx.ref (S2 := S) hC hO h24 hb3 hF hR' h1 h2 gm gr gx hP hK hL⟩
set_option maxRecDepth 100000 in
set_option maxHeartbeats 4000000 in
theorem vv_sign {X : jX} (hs : X.1.stackTraces = false) {d : Nat} (hd : 40 ≤ d) {o : Nat} {S0 S : StX} {w : List jC} (hI : LI o S0 S w) (p0 : Int32) {kc ks : Nat} : jMet X mX8_sign d kc ks [.ref 19, .int p0] w (pJ (fun v w' => ∃ (k : Nat) (S2 : StX), AG (isN p0 6) (True) (Dsign S p0) S k v S2 ∧ LIx o S0 S2 (nI k) w' ∧ w'[o]? = w[o]?)) := by
  obtain ⟨t, hC, ⟨mv, rw, nx, b, bt, kn, en, hR, h1, h2, gm, gr, gx, hP, hK, hL, h24⟩, hO⟩ := hI
  have hb3 := hR.2.2.2.2.2.2
  refine jJ (c_X8_sign_ate hs (d := d) (by omega) hR h1 h2 gm gr gx p0) (fun v w' h => ?_)
  obtain ⟨th', hR', hF, hp2⟩ := h
  rcases hp2 with ⟨e, g⟩ | ⟨e, na, ea, ha, hv⟩
  · subst e
    exact ⟨1, S, Or.inl ⟨rfl, g, rfl⟩, LIx.ref (S2 := S) hC hO h24 hb3 hF hR' h1 h2 gm gr gx hP hK hL⟩
  · subst e
    have ev : v = sg S.1 (S.2.2.2.2 na) := hv.trans (QS h2 hP hL ha).symm
    exact ⟨0, S, Or.inr (Or.inr ⟨rfl, ⟨na, ha, ea⟩, trivial, ⟨na, ea, ha, ev, rfl⟩⟩), LIx.ref (S2 := S) hC hO h24 hb3 hF hR' h1 h2 gm gr gx hP hK hL⟩
set_option maxRecDepth 100000 in
set_option maxHeartbeats 4000000 in
theorem vv_stays {X : jX} (hs : X.1.stackTraces = false) {d : Nat} (hd : 40 ≤ d) {o : Nat} {S0 S : StX} {w : List jC} (hI : LI o S0 S w) (p0 : Int32) {kc ks : Nat} : jMet X mX8_stays d kc ks [.ref 19, .int p0] w (pJ (fun v w' => ∃ (k : Nat) (S2 : StX), AG (isN p0 6) (True) (Dstays S p0) S k v S2 ∧ LIx o S0 S2 (nI k) w' ∧ w'[o]? = w[o]?)) := by
  obtain ⟨t, hC, ⟨mv, rw, nx, b, bt, kn, en, hR, h1, h2, gm, gr, gx, hP, hK, hL, h24⟩, hO⟩ := hI
  have hb3 := hR.2.2.2.2.2.2
  refine jJ (c_X8_stays_ate hs (d := d) (by omega) hR h1 h2 gm gr gx p0) (fun v w' h => ?_)
  obtain ⟨th', hR', hF, hp2⟩ := h
  rcases hp2 with ⟨e, g⟩ | ⟨e, na, ea, ha, hv⟩
  · subst e
    exact ⟨1, S, Or.inl ⟨rfl, g, rfl⟩, LIx.ref (S2 := S) hC hO h24 hb3 hF hR' h1 h2 gm gr gx hP hK hL⟩
  · subst e
    have ev : v = nI (stF (d8 (S.2.2.2.2 na)) S.1) := hv.trans (congrArg nI (stF_congr S.1 (fun p hp => (RLx_d h2 hL hP ha hp).symm)))
    exact ⟨0, S, Or.inr (Or.inr ⟨rfl, ⟨na, ha, ea⟩, trivial, ⟨na, ea, ha, ev, rfl⟩⟩), LIx.ref (S2 := S) hC hO h24 hb3 hF hR' h1 h2 gm gr gx hP hK hL⟩
set_option maxRecDepth 100000 in
set_option maxHeartbeats 4000000 in
theorem vv_areAlike {X : jX} (hs : X.1.stackTraces = false) {d : Nat} (hd : 40 ≤ d) {o : Nat} {S0 S : StX} {w : List jC} (hI : LI o S0 S w) (p0 : Int32) (p1 : Int32) {kc ks : Nat} : jMet X mX8_areAlike d kc ks [.ref 19, .int p0, .int p1] w (pJ (fun v w' => ∃ (k : Nat) (S2 : StX), AG (isN p0 6 ∧ isN p1 6) (True) (DareAlike S p0 p1) S k v S2 ∧ LIx o S0 S2 (nI k) w' ∧ w'[o]? = w[o]?)) := by
  obtain ⟨t, hC, ⟨mv, rw, nx, b, bt, kn, en, hR, h1, h2, gm, gr, gx, hP, hK, hL, h24⟩, hO⟩ := hI
  have hb3 := hR.2.2.2.2.2.2
  refine jJ (c_X8_areAlike_ate hs (d := d) (by omega) hR h1 h2 gm gr gx p0 p1 hP) (fun v w' h => ?_)
  obtain ⟨th', hR', hF, hp2⟩ := h
  rcases hp2 with ⟨e, g⟩ | ⟨e, na, nb, ea, eb, ha, hb, hv⟩
  · subst e
    exact ⟨1, S, Or.inl ⟨rfl, g, rfl⟩, LIx.ref (S2 := S) hC hO h24 hb3 hF hR' h1 h2 gm gr gx hP hK hL⟩
  · subst e
    have ev : v = nI (on (LK (S.2.2.2.2 na) (S.2.2.2.2 nb))) := QA h2 hP hL ha hb hv
    exact ⟨0, S, Or.inr (Or.inr ⟨rfl, ⟨⟨na, ha, ea⟩, ⟨nb, hb, eb⟩⟩, trivial, ⟨na, nb, ea, eb, ha, hb, ev, rfl⟩⟩), LIx.ref (S2 := S) hC hO h24 hb3 hF hR' h1 h2 gm gr gx hP hK hL⟩
set_option maxRecDepth 100000 in
set_option maxHeartbeats 4000000 in
theorem vv_commute {X : jX} (hs : X.1.stackTraces = false) {d : Nat} (hd : 40 ≤ d) {o : Nat} {S0 S : StX} {w : List jC} (hI : LI o S0 S w) (p0 : Int32) (p1 : Int32) {kc ks : Nat} : jMet X mX8_commute d kc ks [.ref 19, .int p0, .int p1] w (pJ (fun v w' => ∃ (k : Nat) (S2 : StX), AG (isN p0 6 ∧ isN p1 6) (True) (Dcommute S p0 p1) S k v S2 ∧ LIx o S0 S2 (nI k) w' ∧ w'[o]? = w[o]?)) := by
  obtain ⟨t, hC, ⟨mv, rw, nx, b, bt, kn, en, hR, h1, h2, gm, gr, gx, hP, hK, hL, h24⟩, hO⟩ := hI
  have hb3 := hR.2.2.2.2.2.2
  refine jJ (c_X8_commute_ate hs (d := d) (by omega) hR h1 h2 gm gr gx p0 p1) (fun v w' h => ?_)
  obtain ⟨th', hR', hF, hp2⟩ := h
  rcases hp2 with ⟨e, g⟩ | ⟨e, na, nb, ea, eb, ha, hb, hv⟩
  · subst e
    exact ⟨1, S, Or.inl ⟨rfl, g, rfl⟩, LIx.ref (S2 := S) hC hO h24 hb3 hF hR' h1 h2 gm gr gx hP hK hL⟩
  · subst e
    have ev : v = (if c7 (S.2.2.2.2 na) (S.2.2.2.2 nb) = c7 (S.2.2.2.2 nb) (S.2.2.2.2 na) then nI 1 else nI 0) := QC h2 hP hL ha hb hv
    exact ⟨0, S, Or.inr (Or.inr ⟨rfl, ⟨⟨na, ha, ea⟩, ⟨nb, hb, eb⟩⟩, trivial, ⟨na, nb, ea, eb, ha, hb, ev, rfl⟩⟩), LIx.ref (S2 := S) hC hO h24 hb3 hF hR' h1 h2 gm gr gx hP hK hL⟩
set_option maxRecDepth 100000 in
set_option maxHeartbeats 4000000 in
theorem vv_size {X : jX} (hs : X.1.stackTraces = false) {d : Nat} (hd : 40 ≤ d) {o : Nat} {S0 S : StX} {w : List jC} (hI : LI o S0 S w) (p0 : Int32) (p1 : Int32) {kc ks : Nat} (hkc : 13 ≤ kc) (hks : 2054 ≤ ks) : jMet X mX8_size d kc ks [.ref 19, .int p0, .int p1] w (pI (fun _ => True) (LI o S0 S)) := by
  obtain ⟨t, hC, ⟨mv, rw, nx, b, bt, kn, en, hR, h1, h2, gm, gr, gx, hP, hK, hL, h24⟩, hO⟩ := hI
  have hb3 := hR.2.2.2.2.2.2
  refine uI0 (c_X8_size hs (d := d) (by omega) hR h1 h2 gm gr gx p0 p1 hP hK hkc hks) (fun w' h => ?_)
  obtain ⟨rw', nx', b', bt', kn', en', th', hR', hF, gr', gx', hp0⟩ := h
  exact ⟨_, (LIx.ref (S2 := S) hC hO h24 hb3 hF hR' h1 h2 gm gr' gx' hP hp0 hL).1⟩
set_option maxRecDepth 100000 in
set_option maxHeartbeats 4000000 in
theorem vv_reach {X : jX} (hs : X.1.stackTraces = false) {d : Nat} (hd : 40 ≤ d) {o : Nat} {S0 S : StX} {w : List jC} (hI : LI o S0 S w) (p0 : Int32) (p1 : Int32) (p2 : Int32) {kc ks : Nat} (hkc : 13 ≤ kc) (hks : 2054 ≤ ks) : jMet X mX8_reach d kc ks [.ref 19, .int p0, .int p1, .int p2] w (pI (fun _ => True) (LI o S0 S)) := by
  obtain ⟨t, hC, ⟨mv, rw, nx, b, bt, kn, en, hR, h1, h2, gm, gr, gx, hP, hK, hL, h24⟩, hO⟩ := hI
  have hb3 := hR.2.2.2.2.2.2
  refine uI0 (c_X8_reach hs (d := d) (by omega) hR h1 h2 gm gr gx p0 p1 p2 hP hK hkc hks) (fun w' h => ?_)
  obtain ⟨rw', nx', b', bt', kn', en', th', hR', hF, gr', gx', hp0⟩ := h
  exact ⟨_, (LIx.ref (S2 := S) hC hO h24 hb3 hF hR' h1 h2 gm gr' gx' hP hp0 hL).1⟩
set_option maxRecDepth 100000 in
set_option maxHeartbeats 4000000 in
theorem vv_isIn {X : jX} (hs : X.1.stackTraces = false) {d : Nat} (hd : 40 ≤ d) {o : Nat} {S0 S : StX} {w : List jC} (hI : LI o S0 S w) (p0 : Int32) (p1 : Int32) (p2 : Int32) {kc ks : Nat} (hkc : 13 ≤ kc) (hks : 2054 ≤ ks) : jMet X mX8_isIn d kc ks [.ref 19, .int p0, .int p1, .int p2] w (pI (fun _ => True) (LI o S0 S)) := by
  obtain ⟨t, hC, ⟨mv, rw, nx, b, bt, kn, en, hR, h1, h2, gm, gr, gx, hP, hK, hL, h24⟩, hO⟩ := hI
  have hb3 := hR.2.2.2.2.2.2
  refine uI0 (c_X8_isIn hs (d := d) (by omega) hR h1 h2 gm gr gx p0 p1 p2 hP hK hkc hks) (fun w' h => ?_)
  obtain ⟨rw', nx', b', bt', kn', en', th', hR', hF, gr', gx', hp0⟩ := h
  exact ⟨_, (LIx.ref (S2 := S) hC hO h24 hb3 hF hR' h1 h2 gm gr' gx' hP hp0 hL).1⟩
set_option maxRecDepth 100000 in
set_option maxHeartbeats 4000000 in
theorem vv_rank {X : jX} (hs : X.1.stackTraces = false) {d : Nat} (hd : 40 ≤ d) {o : Nat} {S0 S : StX} {w : List jC} (hI : LI o S0 S w) (p0 : Int32) (p1 : Int32) (p2 : Int32) {kc ks : Nat} (hkc : 13 ≤ kc) (hks : 2054 ≤ ks) : jMet X mX8_rank d kc ks [.ref 19, .int p0, .int p1, .int p2] w (pI (fun _ => True) (LI o S0 S)) := by
  obtain ⟨t, hC, ⟨mv, rw, nx, b, bt, kn, en, hR, h1, h2, gm, gr, gx, hP, hK, hL, h24⟩, hO⟩ := hI
  have hb3 := hR.2.2.2.2.2.2
  refine uI0 (c_X8_rank hs (d := d) (by omega) hR h1 h2 gm gr gx p0 p1 p2 hP hK hkc hks) (fun w' h => ?_)
  obtain ⟨rw', nx', b', bt', kn', en', th', hR', hF, gr', gx', hp0⟩ := h
  exact ⟨_, (LIx.ref (S2 := S) hC hO h24 hb3 hF hR' h1 h2 gm gr' gx' hP hp0 hL).1⟩
set_option maxRecDepth 100000 in
set_option maxHeartbeats 4000000 in
theorem vv_list {X : jX} (hs : X.1.stackTraces = false) {d : Nat} (hd : 40 ≤ d) (hXO : XO X) {o : Nat} {S0 S : StX} {w : List jC} (hI : LI o S0 S w) (p0 : Int32) (p1 : Int32) {kc ks : Nat} (hkc : 55 ≤ kc) (hks : 3600 ≤ ks) : jMet X mX8_list d kc ks [.ref 19, .int p0, .int p1] w (pS (fun w' => LI o S0 S w')) := by
  obtain ⟨t, hC, ⟨mv, rw, nx, b, bt, kn, en, hR, h1, h2, gm, gr, gx, hP, hK, hL, h24⟩, hO⟩ := hI
  have hb3 := hR.2.2.2.2.2.2
  refine uS0 (c_X8_list hs (d := d) (by omega) hXO hR h1 h2 gm gr gx p0 p1 hP hK hkc hks) (fun w' h => ?_)
  obtain ⟨rw', nx', b', bt', kn', en', th', hR', hF, gr', gx', hK'⟩ := h
  exact ⟨_, (LIx.ref (S2 := S) hC hO h24 hb3 hF hR' h1 h2 gm gr' gx' hP hK' hL).1⟩
set_option maxRecDepth 100000 in
set_option maxHeartbeats 4000000 in
theorem vv_comes {X : jX} (hs : X.1.stackTraces = false) {d : Nat} (hd : 40 ≤ d) {o : Nat} {S0 S : StX} {w : List jC} (hI : LI o S0 S w) (p0 : Int32) (p1 : Int32) {kc ks : Nat} : jMet X mX8_comes d kc ks [.ref 19, .int p0, .int p1] w (pI (fun _ => True) (LI o S0 S)) := by
  obtain ⟨t, hC, ⟨mv, rw, nx, b, bt, kn, en, hR, h1, h2, gm, gr, gx, hP, hK, hL, h24⟩, hO⟩ := hI
  have hb3 := hR.2.2.2.2.2.2
  refine uI0 (c_X8_comes hs (d := d) (by omega) hR h1 h2 gm gr gx p0 p1) (fun w' h => ?_)
  obtain ⟨th', hR', hF⟩ := h
  exact ⟨_, (LIx.ref (S2 := S) hC hO h24 hb3 hF hR' h1 h2 gm gr gx hP hK hL).1⟩
set_option maxRecDepth 100000 in
set_option maxHeartbeats 4000000 in
theorem vv_pieces {X : jX} (hs : X.1.stackTraces = false) {d : Nat} (hd : 40 ≤ d) {o : Nat} {S0 S : StX} {w : List jC} (hI : LI o S0 S w) (p0 : Int32) {kc ks : Nat} : jMet X mX8_pieces d kc ks [.ref 19, .int p0] w (pI (fun _ => True) (LI o S0 S)) := by
  obtain ⟨t, hC, ⟨mv, rw, nx, b, bt, kn, en, hR, h1, h2, gm, gr, gx, hP, hK, hL, h24⟩, hO⟩ := hI
  have hb3 := hR.2.2.2.2.2.2
  refine uI0 (c_X8_pieces hs (d := d) (by omega) hR h1 h2 gm gr gx p0) (fun w' h => ?_)
  obtain ⟨th', hR', hF⟩ := h
  exact ⟨_, (LIx.ref (S2 := S) hC hO h24 hb3 hF hR' h1 h2 gm gr gx hP hK hL).1⟩
set_option maxRecDepth 100000 in
set_option maxHeartbeats 4000000 in
theorem vv_withOrder {X : jX} (hs : X.1.stackTraces = false) {d : Nat} (hd : 40 ≤ d) {o : Nat} {S0 S : StX} {w : List jC} (hI : LI o S0 S w) (p0 : Int32) (p1 : Int32) {kc ks : Nat} (hkc : 13 ≤ kc) (hks : 2054 ≤ ks) : jMet X mX8_withOrder d kc ks [.ref 19, .int p0, .int p1] w (pI (fun _ => True) (LI o S0 S)) := by
  obtain ⟨t, hC, ⟨mv, rw, nx, b, bt, kn, en, hR, h1, h2, gm, gr, gx, hP, hK, hL, h24⟩, hO⟩ := hI
  have hb3 := hR.2.2.2.2.2.2
  refine uI0 (c_X8_withOrder hs (d := d) (by omega) hR h1 h2 gm gr gx p0 p1 hP hK hkc hks) (fun w' h => ?_)
  obtain ⟨rw', nx', b', bt', kn', en', th', hR', hF, gr', gx', hp0⟩ := h
  exact ⟨_, (LIx.ref (S2 := S) hC hO h24 hb3 hF hR' h1 h2 gm gr' gx' hP hp0 hL).1⟩
set_option maxRecDepth 100000 in
set_option maxHeartbeats 4000000 in
theorem vv_even {X : jX} (hs : X.1.stackTraces = false) {d : Nat} (hd : 40 ≤ d) {o : Nat} {S0 S : StX} {w : List jC} (hI : LI o S0 S w) (p0 : Int32) {kc ks : Nat} (hkc : 13 ≤ kc) (hks : 2054 ≤ ks) : jMet X mX8_even d kc ks [.ref 19, .int p0] w (pI (fun _ => True) (LI o S0 S)) := by
  obtain ⟨t, hC, ⟨mv, rw, nx, b, bt, kn, en, hR, h1, h2, gm, gr, gx, hP, hK, hL, h24⟩, hO⟩ := hI
  have hb3 := hR.2.2.2.2.2.2
  refine uI0 (c_X8_even hs (d := d) (by omega) hR h1 h2 gm gr gx p0 hP hK hkc hks) (fun w' h => ?_)
  obtain ⟨rw', nx', b', bt', kn', en', th', hR', hF, gr', gx', hp0⟩ := h
  exact ⟨_, (LIx.ref (S2 := S) hC hO h24 hb3 hF hR' h1 h2 gm gr' gx' hP hp0 hL).1⟩
set_option maxRecDepth 100000 in
set_option maxHeartbeats 4000000 in
theorem vv_colourings {X : jX} (hs : X.1.stackTraces = false) {d : Nat} (hd : 40 ≤ d) {o : Nat} {S0 S : StX} {w : List jC} (hI : LI o S0 S w) (p0 : Int32) (p1 : Int32) (p2 : Int32) {kc ks : Nat} (hkc : 15 ≤ kc) (hks : 6428 ≤ ks) : jMet X mX8_colourings d kc ks [.ref 19, .int p0, .int p1, .int p2] w (pI (fun _ => True) (LI o S0 S)) := by
  obtain ⟨t, hC, ⟨mv, rw, nx, b, bt, kn, en, hR, h1, h2, gm, gr, gx, hP, hK, hL, h24⟩, hO⟩ := hI
  have hb3 := hR.2.2.2.2.2.2
  refine uI0 (c_X8_colourings hs (d := d) (by omega) hR h1 h2 gm gr gx p0 p1 p2 hP hK hkc hks) (fun w' h => ?_)
  obtain ⟨rw', nx', b', bt', kn', en', th', hR', hF, gr', gx', hp0⟩ := h
  exact ⟨_, (LIx.ref (S2 := S) hC hO h24 hb3 hF hR' h1 h2 gm gr' gx' hP hp0 hL).1⟩
set_option maxRecDepth 100000 in
set_option maxHeartbeats 4000000 in
theorem vv_isPart {X : jX} (hs : X.1.stackTraces = false) {d : Nat} (hd : 40 ≤ d) {o : Nat} {S0 S : StX} {w : List jC} (hI : LI o S0 S w) (p0 : Int32) (p1 : Int32) {kc ks : Nat} (hkc : 78 ≤ kc) (hks : 12324 ≤ ks) : jMet X mX8_isPart d kc ks [.ref 19, .int p0, .int p1] w (pI (fun _ => True) (LI o S0 S)) := by
  obtain ⟨t, hC, ⟨mv, rw, nx, b, bt, kn, en, hR, h1, h2, gm, gr, gx, hP, hK, hL, h24⟩, hO⟩ := hI
  have hb3 := hR.2.2.2.2.2.2
  refine uI0 (c_X8_isPart hs (d := d) (by omega) hR h1 h2 gm gr gx p0 p1 hP hK hkc hks) (fun w' h => ?_)
  obtain ⟨rw', nx', b', bt', kn', en', th', hR', hF, gr', gx', hp0⟩ := h
  exact ⟨_, (LIx.ref (S2 := S) hC hO h24 hb3 hF hR' h1 h2 gm gr' gx' hP hp0 hL).1⟩
set_option maxRecDepth 100000 in
set_option maxHeartbeats 4000000 in
theorem vv_shares {X : jX} (hs : X.1.stackTraces = false) {d : Nat} (hd : 40 ≤ d) {o : Nat} {S0 S : StX} {w : List jC} (hI : LI o S0 S w) (p0 : Int32) (p1 : Int32) {kc ks : Nat} (hkc : 104 ≤ kc) (hks : 16432 ≤ ks) : jMet X mX8_shares d kc ks [.ref 19, .int p0, .int p1] w (pI (fun _ => True) (LI o S0 S)) := by
  obtain ⟨t, hC, ⟨mv, rw, nx, b, bt, kn, en, hR, h1, h2, gm, gr, gx, hP, hK, hL, h24⟩, hO⟩ := hI
  have hb3 := hR.2.2.2.2.2.2
  refine uI0 (c_X8_shares hs (d := d) (by omega) hR h1 h2 gm gr gx p0 p1 hP hK hkc hks) (fun w' h => ?_)
  obtain ⟨rw', nx', b', bt', kn', en', th', hR', hF, gr', gx', hp0⟩ := h
  exact ⟨_, (LIx.ref (S2 := S) hC hO h24 hb3 hF hR' h1 h2 gm gr' gx' hP hp0 hL).1⟩
set_option maxRecDepth 100000 in
set_option maxHeartbeats 4000000 in
theorem vv_share {X : jX} (hs : X.1.stackTraces = false) {d : Nat} (hd : 40 ≤ d) {o : Nat} {S0 S : StX} {w : List jC} (hI : LI o S0 S w) (p0 : Int32) (p1 : Int32) {kc ks : Nat} (hkc : 13 ≤ kc) (hks : 2054 ≤ ks) : jMet X mX8_share d kc ks [.ref 19, .int p0, .int p1] w (pI (fun _ => True) (LI o S0 S)) := by
  obtain ⟨t, hC, ⟨mv, rw, nx, b, bt, kn, en, hR, h1, h2, gm, gr, gx, hP, hK, hL, h24⟩, hO⟩ := hI
  have hb3 := hR.2.2.2.2.2.2
  refine uI0 (c_X8_share hs (d := d) (by omega) hR h1 h2 gm gr gx p0 p1 hP hK hkc hks) (fun w' h => ?_)
  obtain ⟨rw', nx', b', bt', kn', en', th', hR', hF, gr', gx', hp0⟩ := h
  exact ⟨_, (LIx.ref (S2 := S) hC hO h24 hb3 hF hR' h1 h2 gm gr' gx' hP hp0 hL).1⟩
set_option maxRecDepth 100000 in
set_option maxHeartbeats 4000000 in
theorem vv_together {X : jX} (hs : X.1.stackTraces = false) {d : Nat} (hd : 40 ≤ d) {o : Nat} {S0 S : StX} {w : List jC} (hI : LI o S0 S w) (p0 : Int32) (p1 : Int32) (p2 : Int32) {kc ks : Nat} : jMet X mX8_together d kc ks [.ref 19, .int p0, .int p1, .int p2] w (pI (fun _ => True) (LI o S0 S)) := by
  obtain ⟨t, hC, ⟨mv, rw, nx, b, bt, kn, en, hR, h1, h2, gm, gr, gx, hP, hK, hL, h24⟩, hO⟩ := hI
  have hb3 := hR.2.2.2.2.2.2
  refine uI0 (c_X8_together hs (d := d) (by omega) hR h1 h2 gm gr gx p0 p1 p2 hP) (fun w' h => ?_)
  obtain ⟨rw', th', hR', hF, gr'⟩ := h
  exact ⟨_, (LIx.ref (S2 := S) hC hO h24 hb3 hF hR' h1 h2 gm gr' gx hP hK hL).1⟩
set_option maxRecDepth 100000 in
set_option maxHeartbeats 4000000 in
theorem vv_blocks {X : jX} (hs : X.1.stackTraces = false) {d : Nat} (hd : 40 ≤ d) {o : Nat} {S0 S : StX} {w : List jC} (hI : LI o S0 S w) (p0 : Int32) (p1 : Int32) (p2 : Int32) {kc ks : Nat} : jMet X mX8_blocks d kc ks [.ref 19, .int p0, .int p1, .int p2] w (pJ (fun v w' => ∃ (k : Nat) (S2 : StX), AG (isN p1 S.1 ∧ isN p2 S.1) (isN p0 64) (Dblocks S p0 p1 p2) S k v S2 ∧ LIx o S0 S2 (nI k) w' ∧ w'[o]? = w[o]?)) := by
  obtain ⟨t, hC, ⟨mv, rw, nx, b, bt, kn, en, hR, h1, h2, gm, gr, gx, hP, hK, hL, h24⟩, hO⟩ := hI
  have hb3 := hR.2.2.2.2.2.2
  refine jJ (c_X8_blocks_ate hs (d := d) (by omega) hR h1 h2 gm gr gx p0 p1 p2 hP) (fun v w' h => ?_)
  obtain ⟨rw', th', hR', hF, gr', hp2⟩ := h
  rcases hp2 with ⟨e, g⟩ | ⟨e, g1, g2⟩ | ⟨e, na, nb, nc, ea, eb, ec, ha, hb, hc, hv⟩
  · subst e
    exact ⟨1, S, Or.inl ⟨rfl, g, rfl⟩, LIx.ref (S2 := S) hC hO h24 hb3 hF hR' h1 h2 gm gr' gx hP hK hL⟩
  · subst e
    exact ⟨2, S, Or.inr (Or.inl ⟨rfl, g1, g2, rfl⟩), LIx.ref (S2 := S) hC hO h24 hb3 hF hR' h1 h2 gm gr' gx hP hK hL⟩
  · subst e
    have ev : v = nI (ct (fun p => ∀ q, q < p → ¬ Bc S.1 S.2.2.2.2 na nb nc p q) S.1) := QG_blocks h1 h2 hP hL hb hc hv
    exact ⟨0, S, Or.inr (Or.inr ⟨rfl, ⟨⟨nb, hb, eb⟩, ⟨nc, hc, ec⟩⟩, ⟨na, ha, ea⟩, ⟨na, nb, nc, ea, eb, ec, ha, hb, hc, ev, rfl⟩⟩), LIx.ref (S2 := S) hC hO h24 hb3 hF hR' h1 h2 gm gr' gx hP hK hL⟩
set_option maxRecDepth 100000 in
set_option maxHeartbeats 4000000 in
theorem vv_thrown {X : jX} (hs : X.1.stackTraces = false) {d : Nat} {o : Nat} {S S' : StX} {t : Int32} {w : List jC} (hI : LIx o S S' t w) {kc ks : Nat} : jMet X mX8_thrown d kc ks [.ref 19] w (pI (fun v => v = t) (fun w' => w' = w)) := by
  refine jMet_of hs (by decide +kernel) (Nat.le_of_ble_eq_true rfl) (L := [some (.ref 19)]) rfl ?_
  obtain ⟨_, ⟨mv, rw, nx, b, bt, kn, en, hR, _⟩, _⟩ := hI
  refine J_aload_n (pc := 0) dX8_thrown_0 rfl rfl rfl ?_
  refine J_get (pc := 1) (k := 10) dX8_thrown_1 kC9 (by decide) ff_X8_32 hR.1 rfl ?_
  exact J_iret (pc := 4) dX8_thrown_4 rfl ⟨rfl, rfl⟩
set_option maxRecDepth 100000 in
set_option maxHeartbeats 4000000 in
theorem vv_isTwofold {X : jX} (hs : X.1.stackTraces = false) {d : Nat} (hd : 40 ≤ d) {o : Nat} {S0 S : StX} {w : List jC} (hI : LI o S0 S w) (p0 : Int32) {kc ks : Nat} (hkc : 1 ≤ kc) (hks : 49 ≤ ks) : jMet X mX8_isTwofold d kc ks [.ref 19, .int p0] w (pI (fun _ => True) (LI o S0 S)) := by
  obtain ⟨t, hC, ⟨mv, rw, nx, b, bt, kn, en, hR, h1, h2, gm, gr, gx, hP, hK, hL, h24⟩, hO⟩ := hI
  have hb3 := hR.2.2.2.2.2.2
  refine uI0 (c_X8_isTwofold hs (d := d) (by omega) hR h1 h2 gm gr gx p0 hkc hks) (fun w' h => ?_)
  obtain ⟨th', hR', hF⟩ := h
  exact ⟨_, (LIx.ref (S2 := S) hC hO h24 hb3 hF hR' h1 h2 gm gr gx hP hK hL).1⟩
set_option maxRecDepth 100000 in
set_option maxHeartbeats 4000000 in
theorem vv_enough {X : jX} (hs : X.1.stackTraces = false) {d : Nat} (hd : 40 ≤ d) {o : Nat} {S0 S : StX} {w : List jC} (hI : LI o S0 S w) (p0 : Int32) {kc ks : Nat} (hkc : 13 ≤ kc) (hks : 2054 ≤ ks) : jMet X mX8_enough d kc ks [.ref 19, .int p0] w (pI (fun _ => True) (LI o S0 S)) := by
  obtain ⟨t, hC, ⟨mv, rw, nx, b, bt, kn, en, hR, h1, h2, gm, gr, gx, hP, hK, hL, h24⟩, hO⟩ := hI
  have hb3 := hR.2.2.2.2.2.2
  refine uI0 (c_X8_enough hs (d := d) (by omega) hR h1 h2 gm gr gx p0 hP hK hkc hks) (fun w' h => ?_)
  obtain ⟨rw', nx', b', bt', kn', en', th', hR', hF, gr', gx', hp0⟩ := h
  exact ⟨_, (LIx.ref (S2 := S) hC hO h24 hb3 hF hR' h1 h2 gm gr' gx' hP hp0 hL).1⟩
set_option maxRecDepth 100000 in
set_option maxHeartbeats 4000000 in
theorem vv_house {X : jX} (hs : X.1.stackTraces = false) {d : Nat} (hd : 40 ≤ d) {o : Nat} {S0 S : StX} {w : List jC} (hI : LI o S0 S w) (p0 : Int32) {kc ks : Nat} : jMet X mX8_house d kc ks [.ref 19, .int p0] w (pJ (fun v w' => ∃ (k : Nat) (S2 : StX), AG (isN p0 3) (True) (Dhouse S p0) S k v S2 ∧ LIx o S0 S2 (nI k) w' ∧ w'[o]? = w[o]?)) := by
  obtain ⟨t, hC, ⟨mv, rw, nx, b, bt, kn, en, hR, h1, h2, gm, gr, gx, hP, hK, hL, h24⟩, hO⟩ := hI
  have hb3 := hR.2.2.2.2.2.2
  refine jJ (c_X8_house_ate hs (d := d) (by omega) hR h1 h2 gm gr gx p0) (fun v w' h => ?_)
  obtain ⟨th', hR', hF, hp2⟩ := h
  rcases hp2 with ⟨e, g⟩ | ⟨e, ⟨na, ha, ea⟩, hv⟩
  · subst e
    exact ⟨1, S, Or.inl ⟨rfl, g, rfl⟩, LIx.ref (S2 := S) hC hO h24 hb3 hF hR' h1 h2 gm gr gx hP hK hL⟩
  · subst e
    have ev : v = (if na = 0 then S.2.1 else if na = 1 then S.2.2.1 else S.2.2.2.1) := by rw [hv, ea]; exact hs_v ha
    exact ⟨0, S, Or.inr (Or.inr ⟨rfl, ⟨na, ha, ea⟩, trivial, ⟨na, ea, ha, ev, rfl⟩⟩), LIx.ref (S2 := S) hC hO h24 hb3 hF hR' h1 h2 gm gr gx hP hK hL⟩
set_option maxRecDepth 100000 in
set_option maxHeartbeats 4000000 in
theorem vv_knock {X : jX} (hs : X.1.stackTraces = false) {d : Nat} (hd : 40 ≤ d) {o : Nat} {S0 S : StX} {w : List jC} (hI : LI o S0 S w) {kc ks : Nat} : jMet X mX8_knock d kc ks [.ref 19] w (pI (fun _ => True) (LI o S0 (KS S))) := by
  obtain ⟨t, hC, ⟨mv, rw, nx, b, bt, kn, en, hR, h1, h2, gm, gr, gx, hP, hK, hL, h24⟩, hO⟩ := hI
  have hb3 := hR.2.2.2.2.2.2
  refine uI0 (c_X8_knock hs (d := d) (by omega) hR h1 h2 gm gr gx) (fun w' h => ?_)
  obtain ⟨hR', hF⟩ := h
  exact ⟨_, (LIx.ref (S2 := (KS S)) hC hO h24 hb3 hF hR' h1 h2 gm gr gx hP hK hL).1⟩
set_option maxRecDepth 100000 in
set_option maxHeartbeats 4000000 in
theorem vv_isSound {X : jX} (hs : X.1.stackTraces = false) {d : Nat} (hd : 40 ≤ d) {o : Nat} {S0 S : StX} {w : List jC} (hI : LI o S0 S w) {kc ks : Nat} (hkc : 15 ≤ kc) (hks : 6428 ≤ ks) : jMet X mX8_isSound d kc ks [.ref 19] w (pI (fun _ => True) (LI o S0 S)) := by
  obtain ⟨t, hC, ⟨mv, rw, nx, b, bt, kn, en, hR, h1, h2, gm, gr, gx, hP, hK, hL, h24⟩, hO⟩ := hI
  have hb3 := hR.2.2.2.2.2.2
  refine uI0 (c_X8_isSound hs (d := d) (by omega) hR h1 h2 gm gr gx hP hK hkc hks) (fun w' h => ?_)
  obtain ⟨rw', nx', b', bt', kn', en', th', hR', hF, gr', gx', hp0⟩ := h
  exact ⟨_, (LIx.ref (S2 := S) hC hO h24 hb3 hF hR' h1 h2 gm gr' gx' hP hp0 hL).1⟩
set_option maxRecDepth 100000 in
set_option maxHeartbeats 4000000 in
theorem vv_digest {X : jX} (hs : X.1.stackTraces = false) {d : Nat} (hd : 40 ≤ d) (hXO : XO X) {o : Nat} {S0 S : StX} {w : List jC} (hI : LI o S0 S w) {kc ks : Nat} (hkc : 330 ≤ kc) (hks : 26000 ≤ ks) : jMet X mX8_digest d kc ks [.ref 19] w (pL (fun _ => True) (LI o S0 S)) := by
  obtain ⟨t, hC, ⟨mv, rw, nx, b, bt, kn, en, hR, h1, h2, gm, gr, gx, hP, hK, hL, h24⟩, hO⟩ := hI
  have hb3 := hR.2.2.2.2.2.2
  refine uL0 (c_X8_digest hs (d := d) (by omega) hXO hR h1 h2 gm gr gx hP hK hkc hks) (fun w' h => ?_)
  obtain ⟨rw', nx', b', bt', kn', en', th', hR', hF, gr', gx', hp0⟩ := h
  exact ⟨_, (LIx.ref (S2 := S) hC hO h24 hb3 hF hR' h1 h2 gm gr' gx' hP hp0 hL).1⟩
end
section
/-! the law's own methods -/
set_option maxRecDepth 100000 in
set_option maxHeartbeats 4000000 in
theorem c_L_points {X : jX} (hs : X.1.stackTraces = false) {d : Nat} (hd : 42 ≤ d) {o : Nat} {S S' : StX} {w : List jC} (hI : LI o S S' w) (p0 : Int32) {kc ks : Nat} (hkc : 1 ≤ kc) (hks : 6 ≤ ks) : jMet X mL_points d kc ks [.ref 0, .int p0, .ref o] w (pJ (fun v w' => ∃ (k : Nat) (x : Int32) (S2 : StX), AG (∃ k : Nat, 2 ≤ k ∧ k ≤ 7 ∧ p0 = nI k) (True) (Dpoints S p0) S k x S2 ∧ v = nI k ∧ LI o S2 S' w' ∧ (k = 0 → ∃ s, w'[o]? = some (.inr (8, [.long x.toInt64, s]))))) := by
  refine jMet_of hs (by decide +kernel) (Nat.le_of_ble_eq_true rfl) (L := [some (.ref 0), some (.int p0), some (.ref o), none]) rfl ?_
  obtain ⟨f0, h0⟩ := hI.c0
  refine J_aload_n (pc := 0) dL_points_0 rfl rfl rfl ?_
  refine J_aload_n (pc := 1) dL_points_1 rfl rfl rfl ?_
  refine J_iload_n (pc := 2) dL_points_2 rfl rfl ?_
  refine J_callV (pc := 3) (M := mL_points) (as := [.int p0]) dL_points_3 fw_X6_points fl_L_7 fm_X6_points fe_X6_points h0 (by decide) rfl rfl rfl (uu_points hs (d := d - 1) (by omega) hI p0 (kc := 1) (ks := 6) (Nat.le_refl _) (Nat.le_refl _)) (by omega) hkc hks (st := [.ref o]) (Nat.le_of_ble_eq_true rfl) rfl (kr_X (kr_J fun v w1 hI1 => ?_)) (kx_X fun E w1 hx => ?_)
  · obtain ⟨S2, hA, hI1⟩ := hI1
    refine J_i2l (pc := 6) dL_points_6 ?_
    obtain ⟨_, fs, h24, hl24⟩ := hI1.lo
    obtain ⟨f1, f2, rfl⟩ := two hl24
    refine J_putN (pc := 7) (k := 0) dL_points_7 kC8 (by decide) ff_L_13 rfl rfl h24 (by decide : (0 : Nat) < 2) (fun w2 hln2 hw2 hne2 => ?_)
    refine J_goto (pc := 10) (tgt := 16) dL_points_10 (by decide) ?_
    refine J_iconst (pc := 16) (v := nI 0) dL_points_16 (by decide) ?_
    exact J_iret (pc := 17) dL_points_17 rfl ⟨0, v, S2, hA, rfl, hI1.out hl24 hw2 hne2, fun _ => ⟨f2, hw2⟩⟩
  · obtain ⟨hE, hI1⟩ := hx
    obtain ⟨hE, hA⟩ := hE
    subst hE
    exact JX_catch1 rfl (by decide) (by decide) fc_L_19 fcast_IllegalArgumentException (Or.inl ⟨3, dL_points_13, by decide, 1, dL_points_14, rfl, dL_points_15⟩) rfl ⟨1, 0, S, hA, rfl, hI1, fun h => absurd h (by decide)⟩
set_option maxRecDepth 100000 in
set_option maxHeartbeats 4000000 in
theorem c_L_lay {X : jX} (hs : X.1.stackTraces = false) {d : Nat} (hd : 42 ≤ d) {o : Nat} {S S' : StX} {w : List jC} (hI : LI o S S' w) (p0 : Int32) (p1 : Int32) {kc ks : Nat} (hkc : 2 ≤ kc) (hks : 12 ≤ ks) : jMet X mL_lay d kc ks [.ref 0, .int p0, .int p1, .ref o] w (pJ (fun v w' => ∃ (k : Nat) (x : Int32) (S2 : StX), AG (isN p0 6) (isN p1 (fc S.1)) (Dlay S p0 p1) S k x S2 ∧ v = nI k ∧ LI o S2 S' w' ∧ (k = 0 → ∃ s, w'[o]? = some (.inr (8, [.long x.toInt64, s]))))) := by
  refine jMet_of hs (by decide +kernel) (Nat.le_of_ble_eq_true rfl) (L := [some (.ref 0), some (.int p0), some (.int p1), some (.ref o), none]) rfl ?_
  obtain ⟨f0, h0⟩ := hI.c0
  refine J_aload_n (pc := 0) dL_lay_0 rfl rfl rfl ?_
  refine J_aload_n (pc := 1) dL_lay_1 rfl rfl rfl ?_
  refine J_iload_n (pc := 2) dL_lay_2 rfl rfl ?_
  refine J_iload_n (pc := 3) dL_lay_3 rfl rfl ?_
  refine J_callV (pc := 4) (M := mL_lay) (as := [.int p0, .int p1]) dL_lay_4 fw_X6_lay fl_L_21 fm_X6_lay fe_X6_lay h0 (by decide) rfl rfl rfl (uu_lay hs (d := d - 1) (by omega) hI p0 p1 (kc := 2) (ks := 12) (Nat.le_refl _) (Nat.le_refl _)) (by omega) hkc hks (st := [.ref o]) (Nat.le_of_ble_eq_true rfl) rfl (kr_X (kr_J fun v w1 hI1 => ?_)) (kx_X fun E w1 hx => ?_)
  · obtain ⟨S2, hA, hI1⟩ := hI1
    refine J_i2l (pc := 7) dL_lay_7 ?_
    obtain ⟨_, fs, h24, hl24⟩ := hI1.lo
    obtain ⟨f1, f2, rfl⟩ := two hl24
    refine J_putN (pc := 8) (k := 0) dL_lay_8 kC8 (by decide) ff_L_13 rfl rfl h24 (by decide : (0 : Nat) < 2) (fun w2 hln2 hw2 hne2 => ?_)
    refine J_goto (pc := 11) (tgt := 22) dL_lay_11 (by decide) ?_
    refine J_iconst (pc := 22) (v := nI 0) dL_lay_22 (by decide) ?_
    exact J_iret (pc := 23) dL_lay_23 rfl ⟨0, v, S2, hA, rfl, hI1.out hl24 hw2 hne2, fun _ => ⟨f2, hw2⟩⟩
  · obtain ⟨hE, hI1⟩ := hx
    rcases hE with ⟨rfl, hA⟩ | ⟨rfl, hA⟩
    · exact JX_catch1 rfl (by decide) (by decide) fc_L_25 fcast_IndexOutOfBoundsException (Or.inr ⟨4, dL_lay_14, by decide, 1, dL_lay_16, rfl, dL_lay_17⟩) rfl ⟨1, 0, S, hA, rfl, hI1, fun h => absurd h (by decide)⟩
    · exact JX_catch2 rfl (by decide) fc_L_25 (List.mem_singleton.mpr rfl) (by decide) (by decide) fc_L_19 fcast_IllegalArgumentException (Or.inr ⟨4, dL_lay_18, by decide, 2, dL_lay_20, rfl, dL_lay_21⟩) rfl ⟨2, 0, S, hA, rfl, hI1, fun h => absurd h (by decide)⟩
set_option maxRecDepth 100000 in
set_option maxHeartbeats 4000000 in
theorem c_L_exchange {X : jX} (hs : X.1.stackTraces = false) {d : Nat} (hd : 42 ≤ d) {o : Nat} {S S' : StX} {w : List jC} (hI : LI o S S' w) (p0 : Int32) (p1 : Int32) (p2 : Int32) {kc ks : Nat} (hkc : 3 ≤ kc) (hks : 18 ≤ ks) : jMet X mL_exchange d kc ks [.ref 0, .int p0, .int p1, .int p2, .ref o] w (pJ (fun v w' => ∃ (k : Nat) (x : Int32) (S2 : StX), AG (isN p0 6 ∧ isN p1 S.1 ∧ isN p2 S.1) (True) (Dexchange S p0 p1 p2) S k x S2 ∧ v = nI k ∧ LI o S2 S' w' ∧ (k = 0 → ∃ s, w'[o]? = some (.inr (8, [.long x.toInt64, s]))))) := by
  refine jMet_of hs (by decide +kernel) (Nat.le_of_ble_eq_true rfl) (L := [some (.ref 0), some (.int p0), some (.int p1), some (.int p2), some (.ref o), none]) rfl ?_
  obtain ⟨f0, h0⟩ := hI.c0
  refine J_aload (pc := 0) dL_exchange_0 rfl rfl ?_
  refine J_aload_n (pc := 2) dL_exchange_2 rfl rfl rfl ?_
  refine J_iload_n (pc := 3) dL_exchange_3 rfl rfl ?_
  refine J_iload_n (pc := 4) dL_exchange_4 rfl rfl ?_
  refine J_iload_n (pc := 5) dL_exchange_5 rfl rfl ?_
  refine J_callV (pc := 6) (M := mL_exchange) (as := [.int p0, .int p1, .int p2]) dL_exchange_6 fw_X6_exchange fl_L_27 fm_X6_exchange fe_X6_exchange h0 (by decide) rfl rfl rfl (uu_exchange hs (d := d - 1) (by omega) hI p0 p1 p2 (kc := 3) (ks := 18) (Nat.le_refl _) (Nat.le_refl _)) (by omega) hkc hks (st := [.ref o]) (Nat.le_of_ble_eq_true rfl) rfl (kr_X (kr_J fun v w1 hI1 => ?_)) (kx_X fun E w1 hx => ?_)
  · obtain ⟨S2, hA, hI1⟩ := hI1
    refine J_i2l (pc := 9) dL_exchange_9 ?_
    obtain ⟨_, fs, h24, hl24⟩ := hI1.lo
    obtain ⟨f1, f2, rfl⟩ := two hl24
    refine J_putN (pc := 10) (k := 0) dL_exchange_10 kC8 (by decide) ff_L_13 rfl rfl h24 (by decide : (0 : Nat) < 2) (fun w2 hln2 hw2 hne2 => ?_)
    refine J_goto (pc := 13) (tgt := 20) dL_exchange_13 (by decide) ?_
    refine J_iconst (pc := 20) (v := nI 0) dL_exchange_20 (by decide) ?_
    exact J_iret (pc := 21) dL_exchange_21 rfl ⟨0, v, S2, hA, rfl, hI1.out hl24 hw2 hne2, fun _ => ⟨f2, hw2⟩⟩
  · obtain ⟨hE, hI1⟩ := hx
    obtain ⟨hE, hA⟩ := hE
    subst hE
    exact JX_catch1 rfl (by decide) (by decide) fc_L_25 fcast_IndexOutOfBoundsException (Or.inr ⟨5, dL_exchange_16, by decide, 1, dL_exchange_18, rfl, dL_exchange_19⟩) rfl ⟨1, 0, S, hA, rfl, hI1, fun h => absurd h (by decide)⟩
set_option maxRecDepth 100000 in
set_option maxHeartbeats 4000000 in
theorem c_L_ring {X : jX} (hs : X.1.stackTraces = false) {d : Nat} (hd : 42 ≤ d) {o : Nat} {S S' : StX} {w : List jC} (hI : LI o S S' w) (p0 : Int32) (p1 : Int32) (p2 : Int32) (p3 : Int32) {kc ks : Nat} (hkc : 5 ≤ kc) (hks : 30 ≤ ks) : jMet X mL_ring d kc ks [.ref 0, .int p0, .int p1, .int p2, .int p3, .ref o] w (pJ (fun v w' => ∃ (k : Nat) (x : Int32) (S2 : StX), AG (isN p0 6 ∧ isN p1 S.1 ∧ isN p2 S.1 ∧ isN p3 S.1) (p1 ≠ p2 ∧ p2 ≠ p3 ∧ p3 ≠ p1) (Dring S p0 p1 p2 p3) S k x S2 ∧ v = nI k ∧ LI o S2 S' w' ∧ (k = 0 → ∃ s, w'[o]? = some (.inr (8, [.long x.toInt64, s]))))) := by
  refine jMet_of hs (by decide +kernel) (Nat.le_of_ble_eq_true rfl) (L := [some (.ref 0), some (.int p0), some (.int p1), some (.int p2), some (.int p3), some (.ref o), none]) rfl ?_
  obtain ⟨f0, h0⟩ := hI.c0
  refine J_aload (pc := 0) dL_ring_0 rfl rfl ?_
  refine J_aload_n (pc := 2) dL_ring_2 rfl rfl rfl ?_
  refine J_iload_n (pc := 3) dL_ring_3 rfl rfl ?_
  refine J_iload_n (pc := 4) dL_ring_4 rfl rfl ?_
  refine J_iload_n (pc := 5) dL_ring_5 rfl rfl ?_
  refine J_iload (pc := 6) dL_ring_6 rfl ?_
  refine J_callV (pc := 8) (M := mL_ring) (as := [.int p0, .int p1, .int p2, .int p3]) dL_ring_8 fw_X6_ring fl_L_31 fm_X6_ring fe_X6_ring h0 (by decide) rfl rfl rfl (uu_ring hs (d := d - 1) (by omega) hI p0 p1 p2 p3 (kc := 5) (ks := 30) (Nat.le_refl _) (Nat.le_refl _)) (by omega) hkc hks (st := [.ref o]) (Nat.le_of_ble_eq_true rfl) rfl (kr_X (kr_J fun v w1 hI1 => ?_)) (kx_X fun E w1 hx => ?_)
  · obtain ⟨S2, hA, hI1⟩ := hI1
    refine J_i2l (pc := 11) dL_ring_11 ?_
    obtain ⟨_, fs, h24, hl24⟩ := hI1.lo
    obtain ⟨f1, f2, rfl⟩ := two hl24
    refine J_putN (pc := 12) (k := 0) dL_ring_12 kC8 (by decide) ff_L_13 rfl rfl h24 (by decide : (0 : Nat) < 2) (fun w2 hln2 hw2 hne2 => ?_)
    refine J_goto (pc := 15) (tgt := 26) dL_ring_15 (by decide) ?_
    refine J_iconst (pc := 26) (v := nI 0) dL_ring_26 (by decide) ?_
    exact J_iret (pc := 27) dL_ring_27 rfl ⟨0, v, S2, hA, rfl, hI1.out hl24 hw2 hne2, fun _ => ⟨f2, hw2⟩⟩
  · obtain ⟨hE, hI1⟩ := hx
    rcases hE with ⟨rfl, hA⟩ | ⟨rfl, hA⟩
    · exact JX_catch1 rfl (by decide) (by decide) fc_L_25 fcast_IndexOutOfBoundsException (Or.inr ⟨6, dL_ring_18, by decide, 1, dL_ring_20, rfl, dL_ring_21⟩) rfl ⟨1, 0, S, hA, rfl, hI1, fun h => absurd h (by decide)⟩
    · exact JX_catch2 rfl (by decide) fc_L_25 (List.mem_singleton.mpr rfl) (by decide) (by decide) fc_L_19 fcast_IllegalArgumentException (Or.inr ⟨6, dL_ring_22, by decide, 2, dL_ring_24, rfl, dL_ring_25⟩) rfl ⟨2, 0, S, hA, rfl, hI1, fun h => absurd h (by decide)⟩
set_option maxRecDepth 100000 in
set_option maxHeartbeats 4000000 in
theorem c_L_turn {X : jX} (hs : X.1.stackTraces = false) {d : Nat} (hd : 42 ≤ d) {o : Nat} {S S' : StX} {w : List jC} (hI : LI o S S' w) (p0 : Int32) (p1 : Int32) {kc ks : Nat} (hkc : 2 ≤ kc) (hks : 12 ≤ ks) : jMet X mL_turn d kc ks [.ref 0, .int p0, .int p1, .ref o] w (pJ (fun v w' => ∃ (k : Nat) (x : Int32) (S2 : StX), AG (isN p0 6) ((-100) ≤ p1 ∧ p1 ≤ nI 100) (Dturn S p0 p1) S k x S2 ∧ v = nI k ∧ LI o S2 S' w' ∧ (k = 0 → ∃ s, w'[o]? = some (.inr (8, [.long x.toInt64, s]))))) := by
  refine jMet_of hs (by decide +kernel) (Nat.le_of_ble_eq_true rfl) (L := [some (.ref 0), some (.int p0), some (.int p1), some (.ref o), none]) rfl ?_
  obtain ⟨f0, h0⟩ := hI.c0
  refine J_aload_n (pc := 0) dL_turn_0 rfl rfl rfl ?_
  refine J_aload_n (pc := 1) dL_turn_1 rfl rfl rfl ?_
  refine J_iload_n (pc := 2) dL_turn_2 rfl rfl ?_
  refine J_iload_n (pc := 3) dL_turn_3 rfl rfl ?_
  refine J_callV (pc := 4) (M := mL_turn) (as := [.int p0, .int p1]) dL_turn_4 fw_X6_turn fl_L_35 fm_X6_turn fe_X6_turn h0 (by decide) rfl rfl rfl (uu_turn hs (d := d - 1) (by omega) hI p0 p1 (kc := 2) (ks := 12) (Nat.le_refl _) (Nat.le_refl _)) (by omega) hkc hks (st := [.ref o]) (Nat.le_of_ble_eq_true rfl) rfl (kr_X (kr_J fun v w1 hI1 => ?_)) (kx_X fun E w1 hx => ?_)
  · obtain ⟨S2, hA, hI1⟩ := hI1
    refine J_i2l (pc := 7) dL_turn_7 ?_
    obtain ⟨_, fs, h24, hl24⟩ := hI1.lo
    obtain ⟨f1, f2, rfl⟩ := two hl24
    refine J_putN (pc := 8) (k := 0) dL_turn_8 kC8 (by decide) ff_L_13 rfl rfl h24 (by decide : (0 : Nat) < 2) (fun w2 hln2 hw2 hne2 => ?_)
    refine J_goto (pc := 11) (tgt := 22) dL_turn_11 (by decide) ?_
    refine J_iconst (pc := 22) (v := nI 0) dL_turn_22 (by decide) ?_
    exact J_iret (pc := 23) dL_turn_23 rfl ⟨0, v, S2, hA, rfl, hI1.out hl24 hw2 hne2, fun _ => ⟨f2, hw2⟩⟩
  · obtain ⟨hE, hI1⟩ := hx
    rcases hE with ⟨rfl, hA⟩ | ⟨rfl, hA⟩
    · exact JX_catch1 rfl (by decide) (by decide) fc_L_25 fcast_IndexOutOfBoundsException (Or.inr ⟨4, dL_turn_14, by decide, 1, dL_turn_16, rfl, dL_turn_17⟩) rfl ⟨1, 0, S, hA, rfl, hI1, fun h => absurd h (by decide)⟩
    · exact JX_catch2 rfl (by decide) fc_L_25 (List.mem_singleton.mpr rfl) (by decide) (by decide) fc_L_19 fcast_IllegalArgumentException (Or.inr ⟨4, dL_turn_18, by decide, 2, dL_turn_20, rfl, dL_turn_21⟩) rfl ⟨2, 0, S, hA, rfl, hI1, fun h => absurd h (by decide)⟩
set_option maxRecDepth 100000 in
set_option maxHeartbeats 4000000 in
theorem c_L_mirror {X : jX} (hs : X.1.stackTraces = false) {d : Nat} (hd : 42 ≤ d) {o : Nat} {S S' : StX} {w : List jC} (hI : LI o S S' w) (p0 : Int32) {kc ks : Nat} (hkc : 1 ≤ kc) (hks : 6 ≤ ks) : jMet X mL_mirror d kc ks [.ref 0, .int p0, .ref o] w (pJ (fun v w' => ∃ (k : Nat) (x : Int32) (S2 : StX), AG (isN p0 6) (True) (Dmirror S p0) S k x S2 ∧ v = nI k ∧ LI o S2 S' w' ∧ (k = 0 → ∃ s, w'[o]? = some (.inr (8, [.long x.toInt64, s]))))) := by
  refine jMet_of hs (by decide +kernel) (Nat.le_of_ble_eq_true rfl) (L := [some (.ref 0), some (.int p0), some (.ref o), none]) rfl ?_
  obtain ⟨f0, h0⟩ := hI.c0
  refine J_aload_n (pc := 0) dL_mirror_0 rfl rfl rfl ?_
  refine J_aload_n (pc := 1) dL_mirror_1 rfl rfl rfl ?_
  refine J_iload_n (pc := 2) dL_mirror_2 rfl rfl ?_
  refine J_callV (pc := 3) (M := mL_mirror) (as := [.int p0]) dL_mirror_3 fw_X6_mirror fl_L_38 fm_X6_mirror fe_X6_mirror h0 (by decide) rfl rfl rfl (uu_mirror hs (d := d - 1) (by omega) hI p0 (kc := 1) (ks := 6) (Nat.le_refl _) (Nat.le_refl _)) (by omega) hkc hks (st := [.ref o]) (Nat.le_of_ble_eq_true rfl) rfl (kr_X (kr_J fun v w1 hI1 => ?_)) (kx_X fun E w1 hx => ?_)
  · obtain ⟨S2, hA, hI1⟩ := hI1
    refine J_i2l (pc := 6) dL_mirror_6 ?_
    obtain ⟨_, fs, h24, hl24⟩ := hI1.lo
    obtain ⟨f1, f2, rfl⟩ := two hl24
    refine J_putN (pc := 7) (k := 0) dL_mirror_7 kC8 (by decide) ff_L_13 rfl rfl h24 (by decide : (0 : Nat) < 2) (fun w2 hln2 hw2 hne2 => ?_)
    refine J_goto (pc := 10) (tgt := 16) dL_mirror_10 (by decide) ?_
    refine J_iconst (pc := 16) (v := nI 0) dL_mirror_16 (by decide) ?_
    exact J_iret (pc := 17) dL_mirror_17 rfl ⟨0, v, S2, hA, rfl, hI1.out hl24 hw2 hne2, fun _ => ⟨f2, hw2⟩⟩
  · obtain ⟨hE, hI1⟩ := hx
    obtain ⟨hE, hA⟩ := hE
    subst hE
    exact JX_catch1 rfl (by decide) (by decide) fc_L_25 fcast_IndexOutOfBoundsException (Or.inl ⟨3, dL_mirror_13, by decide, 1, dL_mirror_14, rfl, dL_mirror_15⟩) rfl ⟨1, 0, S, hA, rfl, hI1, fun h => absurd h (by decide)⟩
set_option maxRecDepth 100000 in
set_option maxHeartbeats 4000000 in
theorem c_L_copy {X : jX} (hs : X.1.stackTraces = false) {d : Nat} (hd : 42 ≤ d) {o : Nat} {S S' : StX} {w : List jC} (hI : LI o S S' w) (p0 : Int32) (p1 : Int32) {kc ks : Nat} (hkc : 2 ≤ kc) (hks : 12 ≤ ks) : jMet X mL_copy d kc ks [.ref 0, .int p0, .int p1, .ref o] w (pJ (fun v w' => ∃ (k : Nat) (x : Int32) (S2 : StX), AG (isN p0 6 ∧ isN p1 6) (True) (Dcopy S p0 p1) S k x S2 ∧ v = nI k ∧ LI o S2 S' w' ∧ (k = 0 → ∃ s, w'[o]? = some (.inr (8, [.long x.toInt64, s]))))) := by
  refine jMet_of hs (by decide +kernel) (Nat.le_of_ble_eq_true rfl) (L := [some (.ref 0), some (.int p0), some (.int p1), some (.ref o), none]) rfl ?_
  obtain ⟨f0, h0⟩ := hI.c0
  refine J_aload_n (pc := 0) dL_copy_0 rfl rfl rfl ?_
  refine J_aload_n (pc := 1) dL_copy_1 rfl rfl rfl ?_
  refine J_iload_n (pc := 2) dL_copy_2 rfl rfl ?_
  refine J_iload_n (pc := 3) dL_copy_3 rfl rfl ?_
  refine J_callV (pc := 4) (M := mL_copy) (as := [.int p0, .int p1]) dL_copy_4 fw_X6_copy fl_L_41 fm_X6_copy fe_X6_copy h0 (by decide) rfl rfl rfl (uu_copy hs (d := d - 1) (by omega) hI p0 p1 (kc := 2) (ks := 12) (Nat.le_refl _) (Nat.le_refl _)) (by omega) hkc hks (st := [.ref o]) (Nat.le_of_ble_eq_true rfl) rfl (kr_X (kr_J fun v w1 hI1 => ?_)) (kx_X fun E w1 hx => ?_)
  · obtain ⟨S2, hA, hI1⟩ := hI1
    refine J_i2l (pc := 7) dL_copy_7 ?_
    obtain ⟨_, fs, h24, hl24⟩ := hI1.lo
    obtain ⟨f1, f2, rfl⟩ := two hl24
    refine J_putN (pc := 8) (k := 0) dL_copy_8 kC8 (by decide) ff_L_13 rfl rfl h24 (by decide : (0 : Nat) < 2) (fun w2 hln2 hw2 hne2 => ?_)
    refine J_goto (pc := 11) (tgt := 18) dL_copy_11 (by decide) ?_
    refine J_iconst (pc := 18) (v := nI 0) dL_copy_18 (by decide) ?_
    exact J_iret (pc := 19) dL_copy_19 rfl ⟨0, v, S2, hA, rfl, hI1.out hl24 hw2 hne2, fun _ => ⟨f2, hw2⟩⟩
  · obtain ⟨hE, hI1⟩ := hx
    obtain ⟨hE, hA⟩ := hE
    subst hE
    exact JX_catch1 rfl (by decide) (by decide) fc_L_25 fcast_IndexOutOfBoundsException (Or.inr ⟨4, dL_copy_14, by decide, 1, dL_copy_16, rfl, dL_copy_17⟩) rfl ⟨1, 0, S, hA, rfl, hI1, fun h => absurd h (by decide)⟩
set_option maxRecDepth 100000 in
set_option maxHeartbeats 4000000 in
theorem c_L_swap {X : jX} (hs : X.1.stackTraces = false) {d : Nat} (hd : 42 ≤ d) {o : Nat} {S S' : StX} {w : List jC} (hI : LI o S S' w) (p0 : Int32) (p1 : Int32) {kc ks : Nat} (hkc : 2 ≤ kc) (hks : 12 ≤ ks) : jMet X mL_swap d kc ks [.ref 0, .int p0, .int p1, .ref o] w (pJ (fun v w' => ∃ (k : Nat) (x : Int32) (S2 : StX), AG (isN p0 6 ∧ isN p1 6) (True) (Dswap S p0 p1) S k x S2 ∧ v = nI k ∧ LI o S2 S' w' ∧ (k = 0 → ∃ s, w'[o]? = some (.inr (8, [.long x.toInt64, s]))))) := by
  refine jMet_of hs (by decide +kernel) (Nat.le_of_ble_eq_true rfl) (L := [some (.ref 0), some (.int p0), some (.int p1), some (.ref o), none]) rfl ?_
  obtain ⟨f0, h0⟩ := hI.c0
  refine J_aload_n (pc := 0) dL_swap_0 rfl rfl rfl ?_
  refine J_aload_n (pc := 1) dL_swap_1 rfl rfl rfl ?_
  refine J_iload_n (pc := 2) dL_swap_2 rfl rfl ?_
  refine J_iload_n (pc := 3) dL_swap_3 rfl rfl ?_
  refine J_callV (pc := 4) (M := mL_swap) (as := [.int p0, .int p1]) dL_swap_4 fw_X6_swap fl_L_44 fm_X6_swap fe_X6_swap h0 (by decide) rfl rfl rfl (uu_swap hs (d := d - 1) (by omega) hI p0 p1 (kc := 2) (ks := 12) (Nat.le_refl _) (Nat.le_refl _)) (by omega) hkc hks (st := [.ref o]) (Nat.le_of_ble_eq_true rfl) rfl (kr_X (kr_J fun v w1 hI1 => ?_)) (kx_X fun E w1 hx => ?_)
  · obtain ⟨S2, hA, hI1⟩ := hI1
    refine J_i2l (pc := 7) dL_swap_7 ?_
    obtain ⟨_, fs, h24, hl24⟩ := hI1.lo
    obtain ⟨f1, f2, rfl⟩ := two hl24
    refine J_putN (pc := 8) (k := 0) dL_swap_8 kC8 (by decide) ff_L_13 rfl rfl h24 (by decide : (0 : Nat) < 2) (fun w2 hln2 hw2 hne2 => ?_)
    refine J_goto (pc := 11) (tgt := 18) dL_swap_11 (by decide) ?_
    refine J_iconst (pc := 18) (v := nI 0) dL_swap_18 (by decide) ?_
    exact J_iret (pc := 19) dL_swap_19 rfl ⟨0, v, S2, hA, rfl, hI1.out hl24 hw2 hne2, fun _ => ⟨f2, hw2⟩⟩
  · obtain ⟨hE, hI1⟩ := hx
    obtain ⟨hE, hA⟩ := hE
    subst hE
    exact JX_catch1 rfl (by decide) (by decide) fc_L_25 fcast_IndexOutOfBoundsException (Or.inr ⟨4, dL_swap_14, by decide, 1, dL_swap_16, rfl, dL_swap_17⟩) rfl ⟨1, 0, S, hA, rfl, hI1, fun h => absurd h (by decide)⟩
set_option maxRecDepth 100000 in
set_option maxHeartbeats 4000000 in
theorem c_L_then {X : jX} (hs : X.1.stackTraces = false) {d : Nat} (hd : 42 ≤ d) {o : Nat} {S S' : StX} {w : List jC} (hI : LI o S S' w) (p0 : Int32) (p1 : Int32) (p2 : Int32) {kc ks : Nat} (hkc : 3 ≤ kc) (hks : 18 ≤ ks) : jMet X mL_then d kc ks [.ref 0, .int p0, .int p1, .int p2, .ref o] w (pJ (fun v w' => ∃ (k : Nat) (x : Int32) (S2 : StX), AG (isN p0 6 ∧ isN p1 6 ∧ isN p2 6) (True) (Dthen S p0 p1 p2) S k x S2 ∧ v = nI k ∧ LI o S2 S' w' ∧ (k = 0 → ∃ s, w'[o]? = some (.inr (8, [.long x.toInt64, s]))))) := by
  refine jMet_of hs (by decide +kernel) (Nat.le_of_ble_eq_true rfl) (L := [some (.ref 0), some (.int p0), some (.int p1), some (.int p2), some (.ref o), none]) rfl ?_
  obtain ⟨f0, h0⟩ := hI.c0
  refine J_aload (pc := 0) dL_then_0 rfl rfl ?_
  refine J_aload_n (pc := 2) dL_then_2 rfl rfl rfl ?_
  refine J_iload_n (pc := 3) dL_then_3 rfl rfl ?_
  refine J_iload_n (pc := 4) dL_then_4 rfl rfl ?_
  refine J_iload_n (pc := 5) dL_then_5 rfl rfl ?_
  refine J_callV (pc := 6) (M := mL_then) (as := [.int p0, .int p1, .int p2]) dL_then_6 fw_X6_then fl_L_47 fm_X6_then fe_X6_then h0 (by decide) rfl rfl rfl (uu_then hs (d := d - 1) (by omega) hI p0 p1 p2 (kc := 3) (ks := 18) (Nat.le_refl _) (Nat.le_refl _)) (by omega) hkc hks (st := [.ref o]) (Nat.le_of_ble_eq_true rfl) rfl (kr_X (kr_J fun v w1 hI1 => ?_)) (kx_X fun E w1 hx => ?_)
  · obtain ⟨S2, hA, hI1⟩ := hI1
    refine J_i2l (pc := 9) dL_then_9 ?_
    obtain ⟨_, fs, h24, hl24⟩ := hI1.lo
    obtain ⟨f1, f2, rfl⟩ := two hl24
    refine J_putN (pc := 10) (k := 0) dL_then_10 kC8 (by decide) ff_L_13 rfl rfl h24 (by decide : (0 : Nat) < 2) (fun w2 hln2 hw2 hne2 => ?_)
    refine J_goto (pc := 13) (tgt := 20) dL_then_13 (by decide) ?_
    refine J_iconst (pc := 20) (v := nI 0) dL_then_20 (by decide) ?_
    exact J_iret (pc := 21) dL_then_21 rfl ⟨0, v, S2, hA, rfl, hI1.out hl24 hw2 hne2, fun _ => ⟨f2, hw2⟩⟩
  · obtain ⟨hE, hI1⟩ := hx
    obtain ⟨hE, hA⟩ := hE
    subst hE
    exact JX_catch1 rfl (by decide) (by decide) fc_L_25 fcast_IndexOutOfBoundsException (Or.inr ⟨5, dL_then_16, by decide, 1, dL_then_18, rfl, dL_then_19⟩) rfl ⟨1, 0, S, hA, rfl, hI1, fun h => absurd h (by decide)⟩
set_option maxRecDepth 100000 in
set_option maxHeartbeats 4000000 in
theorem c_L_undo {X : jX} (hs : X.1.stackTraces = false) {d : Nat} (hd : 42 ≤ d) {o : Nat} {S S' : StX} {w : List jC} (hI : LI o S S' w) (p0 : Int32) (p1 : Int32) {kc ks : Nat} (hkc : 2 ≤ kc) (hks : 12 ≤ ks) : jMet X mL_undo d kc ks [.ref 0, .int p0, .int p1, .ref o] w (pJ (fun v w' => ∃ (k : Nat) (x : Int32) (S2 : StX), AG (isN p0 6 ∧ isN p1 6) (True) (Dundo S p0 p1) S k x S2 ∧ v = nI k ∧ LI o S2 S' w' ∧ (k = 0 → ∃ s, w'[o]? = some (.inr (8, [.long x.toInt64, s]))))) := by
  refine jMet_of hs (by decide +kernel) (Nat.le_of_ble_eq_true rfl) (L := [some (.ref 0), some (.int p0), some (.int p1), some (.ref o), none]) rfl ?_
  obtain ⟨f0, h0⟩ := hI.c0
  refine J_aload_n (pc := 0) dL_undo_0 rfl rfl rfl ?_
  refine J_aload_n (pc := 1) dL_undo_1 rfl rfl rfl ?_
  refine J_iload_n (pc := 2) dL_undo_2 rfl rfl ?_
  refine J_iload_n (pc := 3) dL_undo_3 rfl rfl ?_
  refine J_callV (pc := 4) (M := mL_undo) (as := [.int p0, .int p1]) dL_undo_4 fw_X6_undo fl_L_50 fm_X6_undo fe_X6_undo h0 (by decide) rfl rfl rfl (uu_undo hs (d := d - 1) (by omega) hI p0 p1 (kc := 2) (ks := 12) (Nat.le_refl _) (Nat.le_refl _)) (by omega) hkc hks (st := [.ref o]) (Nat.le_of_ble_eq_true rfl) rfl (kr_X (kr_J fun v w1 hI1 => ?_)) (kx_X fun E w1 hx => ?_)
  · obtain ⟨S2, hA, hI1⟩ := hI1
    refine J_i2l (pc := 7) dL_undo_7 ?_
    obtain ⟨_, fs, h24, hl24⟩ := hI1.lo
    obtain ⟨f1, f2, rfl⟩ := two hl24
    refine J_putN (pc := 8) (k := 0) dL_undo_8 kC8 (by decide) ff_L_13 rfl rfl h24 (by decide : (0 : Nat) < 2) (fun w2 hln2 hw2 hne2 => ?_)
    refine J_goto (pc := 11) (tgt := 18) dL_undo_11 (by decide) ?_
    refine J_iconst (pc := 18) (v := nI 0) dL_undo_18 (by decide) ?_
    exact J_iret (pc := 19) dL_undo_19 rfl ⟨0, v, S2, hA, rfl, hI1.out hl24 hw2 hne2, fun _ => ⟨f2, hw2⟩⟩
  · obtain ⟨hE, hI1⟩ := hx
    obtain ⟨hE, hA⟩ := hE
    subst hE
    exact JX_catch1 rfl (by decide) (by decide) fc_L_25 fcast_IndexOutOfBoundsException (Or.inr ⟨4, dL_undo_14, by decide, 1, dL_undo_16, rfl, dL_undo_17⟩) rfl ⟨1, 0, S, hA, rfl, hI1, fun h => absurd h (by decide)⟩
set_option maxRecDepth 100000 in
set_option maxHeartbeats 4000000 in
theorem c_L_power {X : jX} (hs : X.1.stackTraces = false) {d : Nat} (hd : 42 ≤ d) {o : Nat} {S S' : StX} {w : List jC} (hI : LI o S S' w) (p0 : Int32) (p1 : Int32) (p2 : Int32) {kc ks : Nat} (hkc : 3 ≤ kc) (hks : 18 ≤ ks) : jMet X mL_power d kc ks [.ref 0, .int p0, .int p1, .int p2, .ref o] w (pJ (fun v w' => ∃ (k : Nat) (x : Int32) (S2 : StX), AG (isN p0 6 ∧ isN p2 6) ((-1000) ≤ p1 ∧ p1 ≤ nI 1000) (Dpower S p0 p1 p2) S k x S2 ∧ v = nI k ∧ LI o S2 S' w' ∧ (k = 0 → ∃ s, w'[o]? = some (.inr (8, [.long x.toInt64, s]))))) := by
  refine jMet_of hs (by decide +kernel) (Nat.le_of_ble_eq_true rfl) (L := [some (.ref 0), some (.int p0), some (.int p1), some (.int p2), some (.ref o), none]) rfl ?_
  obtain ⟨f0, h0⟩ := hI.c0
  refine J_aload (pc := 0) dL_power_0 rfl rfl ?_
  refine J_aload_n (pc := 2) dL_power_2 rfl rfl rfl ?_
  refine J_iload_n (pc := 3) dL_power_3 rfl rfl ?_
  refine J_iload_n (pc := 4) dL_power_4 rfl rfl ?_
  refine J_iload_n (pc := 5) dL_power_5 rfl rfl ?_
  refine J_callV (pc := 6) (M := mL_power) (as := [.int p0, .int p1, .int p2]) dL_power_6 fw_X6_power fl_L_53 fm_X6_power fe_X6_power h0 (by decide) rfl rfl rfl (uu_power hs (d := d - 1) (by omega) hI p0 p1 p2 (kc := 3) (ks := 18) (Nat.le_refl _) (Nat.le_refl _)) (by omega) hkc hks (st := [.ref o]) (Nat.le_of_ble_eq_true rfl) rfl (kr_X (kr_J fun v w1 hI1 => ?_)) (kx_X fun E w1 hx => ?_)
  · obtain ⟨S2, hA, hI1⟩ := hI1
    refine J_i2l (pc := 9) dL_power_9 ?_
    obtain ⟨_, fs, h24, hl24⟩ := hI1.lo
    obtain ⟨f1, f2, rfl⟩ := two hl24
    refine J_putN (pc := 10) (k := 0) dL_power_10 kC8 (by decide) ff_L_13 rfl rfl h24 (by decide : (0 : Nat) < 2) (fun w2 hln2 hw2 hne2 => ?_)
    refine J_goto (pc := 13) (tgt := 24) dL_power_13 (by decide) ?_
    refine J_iconst (pc := 24) (v := nI 0) dL_power_24 (by decide) ?_
    exact J_iret (pc := 25) dL_power_25 rfl ⟨0, v, S2, hA, rfl, hI1.out hl24 hw2 hne2, fun _ => ⟨f2, hw2⟩⟩
  · obtain ⟨hE, hI1⟩ := hx
    rcases hE with ⟨rfl, hA⟩ | ⟨rfl, hA⟩
    · exact JX_catch1 rfl (by decide) (by decide) fc_L_25 fcast_IndexOutOfBoundsException (Or.inr ⟨5, dL_power_16, by decide, 1, dL_power_18, rfl, dL_power_19⟩) rfl ⟨1, 0, S, hA, rfl, hI1, fun h => absurd h (by decide)⟩
    · exact JX_catch2 rfl (by decide) fc_L_25 (List.mem_singleton.mpr rfl) (by decide) (by decide) fc_L_19 fcast_IllegalArgumentException (Or.inr ⟨5, dL_power_20, by decide, 2, dL_power_22, rfl, dL_power_23⟩) rfl ⟨2, 0, S, hA, rfl, hI1, fun h => absurd h (by decide)⟩
set_option maxRecDepth 100000 in
set_option maxHeartbeats 4000000 in
theorem c_L_rename {X : jX} (hs : X.1.stackTraces = false) {d : Nat} (hd : 42 ≤ d) {o : Nat} {S S' : StX} {w : List jC} (hI : LI o S S' w) (p0 : Int32) (p1 : Int32) (p2 : Int32) {kc ks : Nat} (hkc : 3 ≤ kc) (hks : 18 ≤ ks) : jMet X mL_rename d kc ks [.ref 0, .int p0, .int p1, .int p2, .ref o] w (pJ (fun v w' => ∃ (k : Nat) (x : Int32) (S2 : StX), AG (isN p0 6 ∧ isN p1 6 ∧ isN p2 6) (True) (Drename S p0 p1 p2) S k x S2 ∧ v = nI k ∧ LI o S2 S' w' ∧ (k = 0 → ∃ s, w'[o]? = some (.inr (8, [.long x.toInt64, s]))))) := by
  refine jMet_of hs (by decide +kernel) (Nat.le_of_ble_eq_true rfl) (L := [some (.ref 0), some (.int p0), some (.int p1), some (.int p2), some (.ref o), none]) rfl ?_
  obtain ⟨f0, h0⟩ := hI.c0
  refine J_aload (pc := 0) dL_rename_0 rfl rfl ?_
  refine J_aload_n (pc := 2) dL_rename_2 rfl rfl rfl ?_
  refine J_iload_n (pc := 3) dL_rename_3 rfl rfl ?_
  refine J_iload_n (pc := 4) dL_rename_4 rfl rfl ?_
  refine J_iload_n (pc := 5) dL_rename_5 rfl rfl ?_
  refine J_callV (pc := 6) (M := mL_rename) (as := [.int p0, .int p1, .int p2]) dL_rename_6 fw_X6_rename fl_L_56 fm_X6_rename fe_X6_rename h0 (by decide) rfl rfl rfl (uu_rename hs (d := d - 1) (by omega) hI p0 p1 p2 (kc := 3) (ks := 18) (Nat.le_refl _) (Nat.le_refl _)) (by omega) hkc hks (st := [.ref o]) (Nat.le_of_ble_eq_true rfl) rfl (kr_X (kr_J fun v w1 hI1 => ?_)) (kx_X fun E w1 hx => ?_)
  · obtain ⟨S2, hA, hI1⟩ := hI1
    refine J_i2l (pc := 9) dL_rename_9 ?_
    obtain ⟨_, fs, h24, hl24⟩ := hI1.lo
    obtain ⟨f1, f2, rfl⟩ := two hl24
    refine J_putN (pc := 10) (k := 0) dL_rename_10 kC8 (by decide) ff_L_13 rfl rfl h24 (by decide : (0 : Nat) < 2) (fun w2 hln2 hw2 hne2 => ?_)
    refine J_goto (pc := 13) (tgt := 20) dL_rename_13 (by decide) ?_
    refine J_iconst (pc := 20) (v := nI 0) dL_rename_20 (by decide) ?_
    exact J_iret (pc := 21) dL_rename_21 rfl ⟨0, v, S2, hA, rfl, hI1.out hl24 hw2 hne2, fun _ => ⟨f2, hw2⟩⟩
  · obtain ⟨hE, hI1⟩ := hx
    obtain ⟨hE, hA⟩ := hE
    subst hE
    exact JX_catch1 rfl (by decide) (by decide) fc_L_25 fcast_IndexOutOfBoundsException (Or.inr ⟨5, dL_rename_16, by decide, 1, dL_rename_18, rfl, dL_rename_19⟩) rfl ⟨1, 0, S, hA, rfl, hI1, fun h => absurd h (by decide)⟩
set_option maxRecDepth 100000 in
set_option maxHeartbeats 4000000 in
theorem c_L_match {X : jX} (hs : X.1.stackTraces = false) {d : Nat} (hd : 42 ≤ d) {o : Nat} {S S' : StX} {w : List jC} (hI : LI o S S' w) (p0 : Int32) (p1 : Int32) (p2 : Int32) {kc ks : Nat} (hkc : 3 ≤ kc) (hks : 18 ≤ ks) : jMet X mL_match d kc ks [.ref 0, .int p0, .int p1, .int p2, .ref o] w (pJ (fun v w' => ∃ (k : Nat) (x : Int32) (S2 : StX), AG (isN p0 6 ∧ isN p1 6 ∧ isN p2 6) (True) (Dmatch S p0 p1 p2) S k x S2 ∧ v = nI k ∧ LI o S2 S' w' ∧ (k = 0 → ∃ s, w'[o]? = some (.inr (8, [.long x.toInt64, s]))))) := by
  refine jMet_of hs (by decide +kernel) (Nat.le_of_ble_eq_true rfl) (L := [some (.ref 0), some (.int p0), some (.int p1), some (.int p2), some (.ref o), none]) rfl ?_
  obtain ⟨f0, h0⟩ := hI.c0
  refine J_aload (pc := 0) dL_match_0 rfl rfl ?_
  refine J_aload_n (pc := 2) dL_match_2 rfl rfl rfl ?_
  refine J_iload_n (pc := 3) dL_match_3 rfl rfl ?_
  refine J_iload_n (pc := 4) dL_match_4 rfl rfl ?_
  refine J_iload_n (pc := 5) dL_match_5 rfl rfl ?_
  refine J_callV (pc := 6) (M := mL_match) (as := [.int p0, .int p1, .int p2]) dL_match_6 fw_X6_match fl_L_59 fm_X6_match fe_X6_match h0 (by decide) rfl rfl rfl (uu_match hs (d := d - 1) (by omega) hI p0 p1 p2 (kc := 3) (ks := 18) (Nat.le_refl _) (Nat.le_refl _)) (by omega) hkc hks (st := [.ref o]) (Nat.le_of_ble_eq_true rfl) rfl (kr_X (kr_J fun v w1 hI1 => ?_)) (kx_X fun E w1 hx => ?_)
  · obtain ⟨S2, hA, hI1⟩ := hI1
    refine J_i2l (pc := 9) dL_match_9 ?_
    obtain ⟨_, fs, h24, hl24⟩ := hI1.lo
    obtain ⟨f1, f2, rfl⟩ := two hl24
    refine J_putN (pc := 10) (k := 0) dL_match_10 kC8 (by decide) ff_L_13 rfl rfl h24 (by decide : (0 : Nat) < 2) (fun w2 hln2 hw2 hne2 => ?_)
    refine J_goto (pc := 13) (tgt := 20) dL_match_13 (by decide) ?_
    refine J_iconst (pc := 20) (v := nI 0) dL_match_20 (by decide) ?_
    exact J_iret (pc := 21) dL_match_21 rfl ⟨0, v, S2, hA, rfl, hI1.out hl24 hw2 hne2, fun _ => ⟨f2, hw2⟩⟩
  · obtain ⟨hE, hI1⟩ := hx
    obtain ⟨hE, hA⟩ := hE
    subst hE
    exact JX_catch1 rfl (by decide) (by decide) fc_L_25 fcast_IndexOutOfBoundsException (Or.inr ⟨5, dL_match_16, by decide, 1, dL_match_18, rfl, dL_match_19⟩) rfl ⟨1, 0, S, hA, rfl, hI1, fun h => absurd h (by decide)⟩
set_option maxRecDepth 100000 in
set_option maxHeartbeats 4000000 in
theorem c_L_nth {X : jX} (hs : X.1.stackTraces = false) {d : Nat} (hd : 42 ≤ d) {o : Nat} {S S' : StX} {w : List jC} (hI : LI o S S' w) (p0 : Int32) (p1 : Int32) (p2 : Int32) (p3 : Int32) {kc ks : Nat} (hkc : 4 ≤ kc) (hks : 24 ≤ ks) : jMet X mL_nth d kc ks [.ref 0, .int p0, .int p1, .int p2, .int p3, .ref o] w (pJ (fun v w' => ∃ (k : Nat) (x : Int32) (S2 : StX), AG (isN p1 6 ∧ isN p3 6) (isN p0 64 ∧ 0 ≤ p2) (Dnth S p0 p1 p2 p3) S k x S2 ∧ v = nI k ∧ LI o S2 S' w' ∧ (k = 0 → ∃ s, w'[o]? = some (.inr (8, [.long x.toInt64, s]))))) := by
  refine jMet_of hs (by decide +kernel) (Nat.le_of_ble_eq_true rfl) (L := [some (.ref 0), some (.int p0), some (.int p1), some (.int p2), some (.int p3), some (.ref o), none]) rfl ?_
  obtain ⟨f0, h0⟩ := hI.c0
  refine J_aload (pc := 0) dL_nth_0 rfl rfl ?_
  refine J_aload_n (pc := 2) dL_nth_2 rfl rfl rfl ?_
  refine J_iload_n (pc := 3) dL_nth_3 rfl rfl ?_
  refine J_iload_n (pc := 4) dL_nth_4 rfl rfl ?_
  refine J_iload_n (pc := 5) dL_nth_5 rfl rfl ?_
  refine J_iload (pc := 6) dL_nth_6 rfl ?_
  refine J_callV (pc := 8) (M := mL_nth) (as := [.int p0, .int p1, .int p2, .int p3]) dL_nth_8 fw_X6_nth fl_L_62 fm_X6_nth fe_X6_nth h0 (by decide) rfl rfl rfl (uu_nth hs (d := d - 1) (by omega) hI p0 p1 p2 p3 (kc := 4) (ks := 24) (Nat.le_refl _) (Nat.le_refl _)) (by omega) hkc hks (st := [.ref o]) (Nat.le_of_ble_eq_true rfl) rfl (kr_X (kr_J fun v w1 hI1 => ?_)) (kx_X fun E w1 hx => ?_)
  · obtain ⟨S2, hA, hI1⟩ := hI1
    refine J_i2l (pc := 11) dL_nth_11 ?_
    obtain ⟨_, fs, h24, hl24⟩ := hI1.lo
    obtain ⟨f1, f2, rfl⟩ := two hl24
    refine J_putN (pc := 12) (k := 0) dL_nth_12 kC8 (by decide) ff_L_13 rfl rfl h24 (by decide : (0 : Nat) < 2) (fun w2 hln2 hw2 hne2 => ?_)
    refine J_goto (pc := 15) (tgt := 26) dL_nth_15 (by decide) ?_
    refine J_iconst (pc := 26) (v := nI 0) dL_nth_26 (by decide) ?_
    exact J_iret (pc := 27) dL_nth_27 rfl ⟨0, v, S2, hA, rfl, hI1.out hl24 hw2 hne2, fun _ => ⟨f2, hw2⟩⟩
  · obtain ⟨hE, hI1⟩ := hx
    rcases hE with ⟨rfl, hA⟩ | ⟨rfl, hA⟩
    · exact JX_catch1 rfl (by decide) (by decide) fc_L_25 fcast_IndexOutOfBoundsException (Or.inr ⟨6, dL_nth_18, by decide, 1, dL_nth_20, rfl, dL_nth_21⟩) rfl ⟨1, 0, S, hA, rfl, hI1, fun h => absurd h (by decide)⟩
    · exact JX_catch2 rfl (by decide) fc_L_25 (List.mem_singleton.mpr rfl) (by decide) (by decide) fc_L_19 fcast_IllegalArgumentException (Or.inr ⟨6, dL_nth_22, by decide, 2, dL_nth_24, rfl, dL_nth_25⟩) rfl ⟨2, 0, S, hA, rfl, hI1, fun h => absurd h (by decide)⟩
set_option maxRecDepth 100000 in
set_option maxHeartbeats 4000000 in
theorem c_L_number {X : jX} (hs : X.1.stackTraces = false) {d : Nat} (hd : 42 ≤ d) {o : Nat} {S S' : StX} {w : List jC} (hI : LI o S S' w) (p0 : Int32) {kc ks : Nat} (hkc : 1 ≤ kc) (hks : 6 ≤ ks) : jMet X mL_number d kc ks [.ref 0, .int p0, .ref o] w (pJ (fun v w' => ∃ (k : Nat) (x : Int32) (S2 : StX), AG (isN p0 6) (True) (Dnumber S p0) S k x S2 ∧ v = nI k ∧ LI o S2 S' w' ∧ (k = 0 → ∃ s, w'[o]? = some (.inr (8, [.long x.toInt64, s]))))) := by
  refine jMet_of hs (by decide +kernel) (Nat.le_of_ble_eq_true rfl) (L := [some (.ref 0), some (.int p0), some (.ref o), none]) rfl ?_
  obtain ⟨f0, h0⟩ := hI.c0
  refine J_aload_n (pc := 0) dL_number_0 rfl rfl rfl ?_
  refine J_aload_n (pc := 1) dL_number_1 rfl rfl rfl ?_
  refine J_iload_n (pc := 2) dL_number_2 rfl rfl ?_
  refine J_callV (pc := 3) (M := mL_number) (as := [.int p0]) dL_number_3 fw_X6_number fl_L_65 fm_X6_number fe_X6_number h0 (by decide) rfl rfl rfl (uu_number hs (d := d - 1) (by omega) hI p0 (kc := 1) (ks := 6) (Nat.le_refl _) (Nat.le_refl _)) (by omega) hkc hks (st := [.ref o]) (Nat.le_of_ble_eq_true rfl) rfl (kr_X (kr_J fun v w1 hI1 => ?_)) (kx_X fun E w1 hx => ?_)
  · obtain ⟨S2, hA, hI1⟩ := hI1
    refine J_i2l (pc := 6) dL_number_6 ?_
    obtain ⟨_, fs, h24, hl24⟩ := hI1.lo
    obtain ⟨f1, f2, rfl⟩ := two hl24
    refine J_putN (pc := 7) (k := 0) dL_number_7 kC8 (by decide) ff_L_13 rfl rfl h24 (by decide : (0 : Nat) < 2) (fun w2 hln2 hw2 hne2 => ?_)
    refine J_goto (pc := 10) (tgt := 16) dL_number_10 (by decide) ?_
    refine J_iconst (pc := 16) (v := nI 0) dL_number_16 (by decide) ?_
    exact J_iret (pc := 17) dL_number_17 rfl ⟨0, v, S2, hA, rfl, hI1.out hl24 hw2 hne2, fun _ => ⟨f2, hw2⟩⟩
  · obtain ⟨hE, hI1⟩ := hx
    obtain ⟨hE, hA⟩ := hE
    subst hE
    exact JX_catch1 rfl (by decide) (by decide) fc_L_25 fcast_IndexOutOfBoundsException (Or.inl ⟨3, dL_number_13, by decide, 1, dL_number_14, rfl, dL_number_15⟩) rfl ⟨1, 0, S, hA, rfl, hI1, fun h => absurd h (by decide)⟩
set_option maxRecDepth 100000 in
set_option maxHeartbeats 4000000 in
theorem c_L_goes {X : jX} (hs : X.1.stackTraces = false) {d : Nat} (hd : 42 ≤ d) {o : Nat} {S S' : StX} {w : List jC} (hI : LI o S S' w) (p0 : Int32) (p1 : Int32) {kc ks : Nat} (hkc : 2 ≤ kc) (hks : 12 ≤ ks) : jMet X mL_goes d kc ks [.ref 0, .int p0, .int p1, .ref o] w (pJ (fun v w' => ∃ (k : Nat) (x : Int32) (S2 : StX), AG (isN p0 6 ∧ isN p1 S.1) (True) (Dgoes S p0 p1) S k x S2 ∧ v = nI k ∧ LI o S2 S' w' ∧ (k = 0 → ∃ s, w'[o]? = some (.inr (8, [.long x.toInt64, s]))))) := by
  refine jMet_of hs (by decide +kernel) (Nat.le_of_ble_eq_true rfl) (L := [some (.ref 0), some (.int p0), some (.int p1), some (.ref o), none]) rfl ?_
  obtain ⟨f0, h0⟩ := hI.c0
  refine J_aload_n (pc := 0) dL_goes_0 rfl rfl rfl ?_
  refine J_aload_n (pc := 1) dL_goes_1 rfl rfl rfl ?_
  refine J_iload_n (pc := 2) dL_goes_2 rfl rfl ?_
  refine J_iload_n (pc := 3) dL_goes_3 rfl rfl ?_
  refine J_callV (pc := 4) (M := mL_goes) (as := [.int p0, .int p1]) dL_goes_4 fw_X6_goes fl_L_68 fm_X6_goes fe_X6_goes h0 (by decide) rfl rfl rfl (uu_goes hs (d := d - 1) (by omega) hI p0 p1 (kc := 2) (ks := 12) (Nat.le_refl _) (Nat.le_refl _)) (by omega) hkc hks (st := [.ref o]) (Nat.le_of_ble_eq_true rfl) rfl (kr_X (kr_J fun v w1 hI1 => ?_)) (kx_X fun E w1 hx => ?_)
  · obtain ⟨S2, hA, hI1⟩ := hI1
    refine J_i2l (pc := 7) dL_goes_7 ?_
    obtain ⟨_, fs, h24, hl24⟩ := hI1.lo
    obtain ⟨f1, f2, rfl⟩ := two hl24
    refine J_putN (pc := 8) (k := 0) dL_goes_8 kC8 (by decide) ff_L_13 rfl rfl h24 (by decide : (0 : Nat) < 2) (fun w2 hln2 hw2 hne2 => ?_)
    refine J_goto (pc := 11) (tgt := 18) dL_goes_11 (by decide) ?_
    refine J_iconst (pc := 18) (v := nI 0) dL_goes_18 (by decide) ?_
    exact J_iret (pc := 19) dL_goes_19 rfl ⟨0, v, S2, hA, rfl, hI1.out hl24 hw2 hne2, fun _ => ⟨f2, hw2⟩⟩
  · obtain ⟨hE, hI1⟩ := hx
    obtain ⟨hE, hA⟩ := hE
    subst hE
    exact JX_catch1 rfl (by decide) (by decide) fc_L_25 fcast_IndexOutOfBoundsException (Or.inr ⟨4, dL_goes_14, by decide, 1, dL_goes_16, rfl, dL_goes_17⟩) rfl ⟨1, 0, S, hA, rfl, hI1, fun h => absurd h (by decide)⟩
set_option maxRecDepth 100000 in
set_option maxHeartbeats 4000000 in
theorem c_L_text {X : jX} (hs : X.1.stackTraces = false) {d : Nat} (hd : 42 ≤ d) (hXO : XO X) {o : Nat} {S S' : StX} {w : List jC} (hI : LI o S S' w) (p0 : Int32) {kc ks : Nat} (hkc : 40 ≤ kc) (hks : 1500 ≤ ks) : jMet X mL_text d kc ks [.ref 0, .int p0, .ref o] w (pI (fun _ => True) (LI o S S')) := by
  refine jMet_of hs (by decide +kernel) (Nat.le_of_ble_eq_true rfl) (L := [some (.ref 0), some (.int p0), some (.ref o), none]) rfl ?_
  obtain ⟨f0, h0⟩ := hI.c0
  refine J_aload_n (pc := 0) dL_text_0 rfl rfl rfl ?_
  refine J_aload_n (pc := 1) dL_text_1 rfl rfl rfl ?_
  refine J_iload_n (pc := 2) dL_text_2 rfl rfl ?_
  refine J_callV (pc := 3) (M := mL_text) (as := [.int p0]) dL_text_3 fw_X6_text fl_L_71 fm_X6_text fe_X6_text h0 (by decide) rfl rfl rfl (uu_text hs (d := d - 1) (by omega) hXO hI p0 (kc := 40) (ks := 1500) (Nat.le_refl _) (Nat.le_refl _)) (by omega) hkc hks (st := [.ref o]) (Nat.le_of_ble_eq_true rfl) rfl (kr_X (kr_A fun a w1 hI1 => ?_)) (kx_X fun E w1 hx => ?_)
  · obtain ⟨_, fs, h24, hl24⟩ := hI1.lo
    refine J_putN (pc := 6) (k := 1) dL_text_6 kC8 (by decide) ff_L_75 rfl rfl h24 (by omega) (fun w2 hln2 hw2 hne2 => ?_)
    refine J_goto (pc := 9) (tgt := 15) dL_text_9 (by decide) ?_
    refine J_iconst (pc := 15) (v := nI 0) dL_text_15 (by decide) ?_
    exact J_iret (pc := 16) dL_text_16 rfl ⟨trivial, hI1.out hl24 hw2 hne2⟩
  · obtain ⟨hE, hI1⟩ := hx
    subst hE
    exact JX_catch1 rfl (by decide) (by decide) fc_L_25 fcast_IndexOutOfBoundsException (Or.inl ⟨3, dL_text_12, by decide, 1, dL_text_13, rfl, dL_text_14⟩) rfl ⟨trivial, hI1⟩
set_option maxRecDepth 100000 in
set_option maxHeartbeats 4000000 in
theorem c_L_rings {X : jX} (hs : X.1.stackTraces = false) {d : Nat} (hd : 42 ≤ d) (hXO : XO X) {o : Nat} {S S' : StX} {w : List jC} (hI : LI o S S' w) (p0 : Int32) {kc ks : Nat} (hkc : 40 ≤ kc) (hks : 1500 ≤ ks) : jMet X mL_rings d kc ks [.ref 0, .int p0, .ref o] w (pI (fun _ => True) (LI o S S')) := by
  refine jMet_of hs (by decide +kernel) (Nat.le_of_ble_eq_true rfl) (L := [some (.ref 0), some (.int p0), some (.ref o), none]) rfl ?_
  obtain ⟨f0, h0⟩ := hI.c0
  refine J_aload_n (pc := 0) dL_rings_0 rfl rfl rfl ?_
  refine J_aload_n (pc := 1) dL_rings_1 rfl rfl rfl ?_
  refine J_iload_n (pc := 2) dL_rings_2 rfl rfl ?_
  refine J_callV (pc := 3) (M := mL_rings) (as := [.int p0]) dL_rings_3 fw_X6_rings fl_L_79 fm_X6_rings fe_X6_rings h0 (by decide) rfl rfl rfl (uu_rings hs (d := d - 1) (by omega) hXO hI p0 (kc := 40) (ks := 1500) (Nat.le_refl _) (Nat.le_refl _)) (by omega) hkc hks (st := [.ref o]) (Nat.le_of_ble_eq_true rfl) rfl (kr_X (kr_A fun a w1 hI1 => ?_)) (kx_X fun E w1 hx => ?_)
  · obtain ⟨_, fs, h24, hl24⟩ := hI1.lo
    refine J_putN (pc := 6) (k := 1) dL_rings_6 kC8 (by decide) ff_L_75 rfl rfl h24 (by omega) (fun w2 hln2 hw2 hne2 => ?_)
    refine J_goto (pc := 9) (tgt := 15) dL_rings_9 (by decide) ?_
    refine J_iconst (pc := 15) (v := nI 0) dL_rings_15 (by decide) ?_
    exact J_iret (pc := 16) dL_rings_16 rfl ⟨trivial, hI1.out hl24 hw2 hne2⟩
  · obtain ⟨hE, hI1⟩ := hx
    subst hE
    exact JX_catch1 rfl (by decide) (by decide) fc_L_25 fcast_IndexOutOfBoundsException (Or.inl ⟨3, dL_rings_12, by decide, 1, dL_rings_13, rfl, dL_rings_14⟩) rfl ⟨trivial, hI1⟩
set_option maxRecDepth 100000 in
set_option maxHeartbeats 4000000 in
theorem c_L_ringText {X : jX} (hs : X.1.stackTraces = false) {d : Nat} (hd : 42 ≤ d) (hXO : XO X) {o : Nat} {S S' : StX} {w : List jC} (hI : LI o S S' w) (p0 : Int32) (p1 : Int32) {kc ks : Nat} (hkc : 40 ≤ kc) (hks : 1500 ≤ ks) : jMet X mL_ringText d kc ks [.ref 0, .int p0, .int p1, .ref o] w (pI (fun _ => True) (LI o S S')) := by
  refine jMet_of hs (by decide +kernel) (Nat.le_of_ble_eq_true rfl) (L := [some (.ref 0), some (.int p0), some (.int p1), some (.ref o), none]) rfl ?_
  obtain ⟨f0, h0⟩ := hI.c0
  refine J_aload_n (pc := 0) dL_ringText_0 rfl rfl rfl ?_
  refine J_aload_n (pc := 1) dL_ringText_1 rfl rfl rfl ?_
  refine J_iload_n (pc := 2) dL_ringText_2 rfl rfl ?_
  refine J_iload_n (pc := 3) dL_ringText_3 rfl rfl ?_
  refine J_callV (pc := 4) (M := mL_ringText) (as := [.int p0, .int p1]) dL_ringText_4 fw_X6_ringText fl_L_82 fm_X6_ringText fe_X6_ringText h0 (by decide) rfl rfl rfl (uu_ringText hs (d := d - 1) (by omega) hXO hI p0 p1 (kc := 40) (ks := 1500) (Nat.le_refl _) (Nat.le_refl _)) (by omega) hkc hks (st := [.ref o]) (Nat.le_of_ble_eq_true rfl) rfl (kr_X (kr_A fun a w1 hI1 => ?_)) (kx_X fun E w1 hx => ?_)
  · obtain ⟨_, fs, h24, hl24⟩ := hI1.lo
    refine J_putN (pc := 7) (k := 1) dL_ringText_7 kC8 (by decide) ff_L_75 rfl rfl h24 (by omega) (fun w2 hln2 hw2 hne2 => ?_)
    refine J_goto (pc := 10) (tgt := 17) dL_ringText_10 (by decide) ?_
    refine J_iconst (pc := 17) (v := nI 0) dL_ringText_17 (by decide) ?_
    exact J_iret (pc := 18) dL_ringText_18 rfl ⟨trivial, hI1.out hl24 hw2 hne2⟩
  · obtain ⟨hE, hI1⟩ := hx
    subst hE
    exact JX_catch1 rfl (by decide) (by decide) fc_L_25 fcast_IndexOutOfBoundsException (Or.inr ⟨4, dL_ringText_13, by decide, 1, dL_ringText_15, rfl, dL_ringText_16⟩) rfl ⟨trivial, hI1⟩
set_option maxRecDepth 100000 in
set_option maxHeartbeats 4000000 in
theorem c_L_order {X : jX} (hs : X.1.stackTraces = false) {d : Nat} (hd : 42 ≤ d) {o : Nat} {S S' : StX} {w : List jC} (hI : LI o S S' w) (p0 : Int32) {kc ks : Nat} (hkc : 1 ≤ kc) (hks : 6 ≤ ks) : jMet X mL_order d kc ks [.ref 0, .int p0, .ref o] w (pJ (fun v w' => ∃ (k : Nat) (x : Int32) (S2 : StX), AG (isN p0 6) (True) (Dorder S p0) S k x S2 ∧ v = nI k ∧ LI o S2 S' w' ∧ (k = 0 → ∃ s, w'[o]? = some (.inr (8, [.long x.toInt64, s]))))) := by
  refine jMet_of hs (by decide +kernel) (Nat.le_of_ble_eq_true rfl) (L := [some (.ref 0), some (.int p0), some (.ref o), none]) rfl ?_
  obtain ⟨f0, h0⟩ := hI.c0
  refine J_aload_n (pc := 0) dL_order_0 rfl rfl rfl ?_
  refine J_aload_n (pc := 1) dL_order_1 rfl rfl rfl ?_
  refine J_iload_n (pc := 2) dL_order_2 rfl rfl ?_
  refine J_callV (pc := 3) (M := mL_order) (as := [.int p0]) dL_order_3 fw_X6_order fl_L_86 fm_X6_order fe_X6_order h0 (by decide) rfl rfl rfl (uu_order hs (d := d - 1) (by omega) hI p0 (kc := 1) (ks := 6) (Nat.le_refl _) (Nat.le_refl _)) (by omega) hkc hks (st := [.ref o]) (Nat.le_of_ble_eq_true rfl) rfl (kr_X (kr_J fun v w1 hI1 => ?_)) (kx_X fun E w1 hx => ?_)
  · obtain ⟨S2, hA, hI1⟩ := hI1
    refine J_i2l (pc := 6) dL_order_6 ?_
    obtain ⟨_, fs, h24, hl24⟩ := hI1.lo
    obtain ⟨f1, f2, rfl⟩ := two hl24
    refine J_putN (pc := 7) (k := 0) dL_order_7 kC8 (by decide) ff_L_13 rfl rfl h24 (by decide : (0 : Nat) < 2) (fun w2 hln2 hw2 hne2 => ?_)
    refine J_goto (pc := 10) (tgt := 16) dL_order_10 (by decide) ?_
    refine J_iconst (pc := 16) (v := nI 0) dL_order_16 (by decide) ?_
    exact J_iret (pc := 17) dL_order_17 rfl ⟨0, v, S2, hA, rfl, hI1.out hl24 hw2 hne2, fun _ => ⟨f2, hw2⟩⟩
  · obtain ⟨hE, hI1⟩ := hx
    obtain ⟨hE, hA⟩ := hE
    subst hE
    exact JX_catch1 rfl (by decide) (by decide) fc_L_25 fcast_IndexOutOfBoundsException (Or.inl ⟨3, dL_order_13, by decide, 1, dL_order_14, rfl, dL_order_15⟩) rfl ⟨1, 0, S, hA, rfl, hI1, fun h => absurd h (by decide)⟩
set_option maxRecDepth 100000 in
set_option maxHeartbeats 4000000 in
theorem c_L_sign {X : jX} (hs : X.1.stackTraces = false) {d : Nat} (hd : 42 ≤ d) {o : Nat} {S S' : StX} {w : List jC} (hI : LI o S S' w) (p0 : Int32) {kc ks : Nat} (hkc : 1 ≤ kc) (hks : 6 ≤ ks) : jMet X mL_sign d kc ks [.ref 0, .int p0, .ref o] w (pJ (fun v w' => ∃ (k : Nat) (x : Int32) (S2 : StX), AG (isN p0 6) (True) (Dsign S p0) S k x S2 ∧ v = nI k ∧ LI o S2 S' w' ∧ (k = 0 → ∃ s, w'[o]? = some (.inr (8, [.long x.toInt64, s]))))) := by
  refine jMet_of hs (by decide +kernel) (Nat.le_of_ble_eq_true rfl) (L := [some (.ref 0), some (.int p0), some (.ref o), none]) rfl ?_
  obtain ⟨f0, h0⟩ := hI.c0
  refine J_aload_n (pc := 0) dL_sign_0 rfl rfl rfl ?_
  refine J_aload_n (pc := 1) dL_sign_1 rfl rfl rfl ?_
  refine J_iload_n (pc := 2) dL_sign_2 rfl rfl ?_
  refine J_callV (pc := 3) (M := mL_sign) (as := [.int p0]) dL_sign_3 fw_X6_sign fl_L_89 fm_X6_sign fe_X6_sign h0 (by decide) rfl rfl rfl (uu_sign hs (d := d - 1) (by omega) hI p0 (kc := 1) (ks := 6) (Nat.le_refl _) (Nat.le_refl _)) (by omega) hkc hks (st := [.ref o]) (Nat.le_of_ble_eq_true rfl) rfl (kr_X (kr_J fun v w1 hI1 => ?_)) (kx_X fun E w1 hx => ?_)
  · obtain ⟨S2, hA, hI1⟩ := hI1
    refine J_i2l (pc := 6) dL_sign_6 ?_
    obtain ⟨_, fs, h24, hl24⟩ := hI1.lo
    obtain ⟨f1, f2, rfl⟩ := two hl24
    refine J_putN (pc := 7) (k := 0) dL_sign_7 kC8 (by decide) ff_L_13 rfl rfl h24 (by decide : (0 : Nat) < 2) (fun w2 hln2 hw2 hne2 => ?_)
    refine J_goto (pc := 10) (tgt := 16) dL_sign_10 (by decide) ?_
    refine J_iconst (pc := 16) (v := nI 0) dL_sign_16 (by decide) ?_
    exact J_iret (pc := 17) dL_sign_17 rfl ⟨0, v, S2, hA, rfl, hI1.out hl24 hw2 hne2, fun _ => ⟨f2, hw2⟩⟩
  · obtain ⟨hE, hI1⟩ := hx
    obtain ⟨hE, hA⟩ := hE
    subst hE
    exact JX_catch1 rfl (by decide) (by decide) fc_L_25 fcast_IndexOutOfBoundsException (Or.inl ⟨3, dL_sign_13, by decide, 1, dL_sign_14, rfl, dL_sign_15⟩) rfl ⟨1, 0, S, hA, rfl, hI1, fun h => absurd h (by decide)⟩
end
