/-! the reference's calls, in one form -/
set_option maxRecDepth 100000 in
set_option maxHeartbeats 4000000 in
theorem vv_points {X : jX} (hs : X.1.stackTraces = false) {d : Nat} (hd : 40 ≤ d) {o nc nr : Nat} {q m : Int32} {w : List jC} (hI : LI o nc nr q m w) (p0 : Int32) {kc ks : Nat} : jMet X mX8_points d kc ks [.ref 19, .int p0] w (pJ (fun v w' => ∃ (k : Nat) (x : Int32) (n' : Nat), AP p0 nr k x n' ∧ (k = 0 → v = x) ∧ LIt o nc n' q m (nI k) w' ∧ w'[o]? = w[o]?)) := by
  obtain ⟨hC, ⟨mv, rw, nx, b, bt, kn, en, dn, rf, th, hR, h1, h2, gm, gr, gx, hP, hK, h24⟩, hO⟩ := hI
  have hb := hR.2.2.2.2.2.2
  refine uJ (c_X8_points_att hs (d := d) (by omega) hR h1 h2 gm gr gx p0 hP hK) (fun v w' hv h => ?_)
  obtain ⟨n', mv', kn', dn', th', hR', hF, gm', hp0, hp1, hp2, hp3, hp4⟩ := h
  have hL := LI.ref hC hO h24 hb hR' hF hp0 hp1 gm' gr gx hp2 hp3
  have hOo : w'[o]? = w[o]? := by
    obtain ⟨o0, fs, o1, o2⟩ := hO
    exact (hF.at o1 (by omega) (fun e => h24 e.symm)).trans o1.symm
  rcases hp4 with ⟨k, k1, k2, e, e2, e3⟩ | ⟨h, e2, e3⟩
  · subst e3
    rcases hv with ⟨_, hv⟩ | ⟨j, hv, _⟩
    · exact absurd e (hv k k1 k2)
    · exact ⟨0, v, n', Or.inl ⟨k, k1, k2, e, e2, rfl, hv⟩, fun _ => rfl, ⟨hL, _, _, _, _, _, _, _, _, _, _, _, hR'⟩, hOo⟩
  · subst e3
    exact ⟨1, v, n', Or.inr ⟨h, e2, rfl⟩, fun _ => rfl, ⟨hL, _, _, _, _, _, _, _, _, _, _, _, hR'⟩, hOo⟩
set_option maxRecDepth 100000 in
set_option maxHeartbeats 4000000 in
theorem vv_thrown {X : jX} (hs : X.1.stackTraces = false) {d : Nat} {o nc nr : Nat} {q m t : Int32} {w : List jC} (hI : LIt o nc nr q m t w) {kc ks : Nat} : jMet X mX8_thrown d kc ks [.ref 19] w (pI (fun v => v = t) (fun w' => w' = w)) := by
  refine jMet_of hs (by decide +kernel) (Nat.le_of_ble_eq_true rfl) (L := [some (.ref 19)]) rfl ?_
  obtain ⟨_, n, mv, rw, nx, b, bt, kn, en, dn, rf, kk, hR⟩ := hI
  refine J_aload_n (pc := 0) dX8_thrown_0 rfl rfl rfl ?_
  refine J_get (pc := 1) (k := 10) dX8_thrown_1 kC9 (by decide) ff_X8_32 hR.1 rfl ?_
  exact J_iret (pc := 4) dX8_thrown_4 rfl ⟨rfl, rfl⟩
set_option maxRecDepth 100000 in
set_option maxHeartbeats 4000000 in
theorem vv_lay {X : jX} (hs : X.1.stackTraces = false) {d : Nat} (hd : 40 ≤ d) {o nc nr : Nat} {q m : Int32} {w : List jC} (hI : LI o nc nr q m w) (p0 : Int32) (p1 : Int32) {kc ks : Nat} : jMet X mX8_lay d kc ks [.ref 19, .int p0, .int p1] w (pI (fun _ => True) (LI o nc nr q m)) := by
  obtain ⟨hC, ⟨mv, rw, nx, b, bt, kn, en, dn, rf, th, hR, h1, h2, gm, gr, gx, hP, hK, h24⟩, hO⟩ := hI
  have hb := hR.2.2.2.2.2.2
  refine uI0 (c_X8_lay hs (d := d) (by omega) hR h1 h2 gm gr gx p0 p1 hP hK) (fun w' h => ?_)
  obtain ⟨mv', rw', kn', dn', th', hR', hF, gm', gr', hp0, hp1⟩ := h
  exact LI.ref hC hO h24 hb hR' hF h1 h2 gm' gr' gx hp0 hp1
set_option maxRecDepth 100000 in
set_option maxHeartbeats 4000000 in
theorem vv_exchange {X : jX} (hs : X.1.stackTraces = false) {d : Nat} (hd : 40 ≤ d) {o nc nr : Nat} {q m : Int32} {w : List jC} (hI : LI o nc nr q m w) (p0 : Int32) (p1 : Int32) (p2 : Int32) {kc ks : Nat} : jMet X mX8_exchange d kc ks [.ref 19, .int p0, .int p1, .int p2] w (pI (fun _ => True) (LI o nc nr q m)) := by
  obtain ⟨hC, ⟨mv, rw, nx, b, bt, kn, en, dn, rf, th, hR, h1, h2, gm, gr, gx, hP, hK, h24⟩, hO⟩ := hI
  have hb := hR.2.2.2.2.2.2
  refine uI0 (c_X8_exchange hs (d := d) (by omega) hR h1 h2 gm gr gx p0 p1 p2 hP hK) (fun w' h => ?_)
  obtain ⟨mv', rw', nx', kn', dn', th', hR', hF, gm', gr', gx', hp0, hp1⟩ := h
  exact LI.ref hC hO h24 hb hR' hF h1 h2 gm' gr' gx' hp0 hp1
set_option maxRecDepth 100000 in
set_option maxHeartbeats 4000000 in
theorem vv_ring {X : jX} (hs : X.1.stackTraces = false) {d : Nat} (hd : 40 ≤ d) {o nc nr : Nat} {q m : Int32} {w : List jC} (hI : LI o nc nr q m w) (p0 : Int32) (p1 : Int32) (p2 : Int32) (p3 : Int32) {kc ks : Nat} : jMet X mX8_ring d kc ks [.ref 19, .int p0, .int p1, .int p2, .int p3] w (pI (fun _ => True) (LI o nc nr q m)) := by
  obtain ⟨hC, ⟨mv, rw, nx, b, bt, kn, en, dn, rf, th, hR, h1, h2, gm, gr, gx, hP, hK, h24⟩, hO⟩ := hI
  have hb := hR.2.2.2.2.2.2
  refine uI0 (c_X8_ring hs (d := d) (by omega) hR h1 h2 gm gr gx p0 p1 p2 p3 hP hK) (fun w' h => ?_)
  obtain ⟨mv', rw', nx', kn', dn', th', hR', hF, gm', gr', gx', hp0, hp1⟩ := h
  exact LI.ref hC hO h24 hb hR' hF h1 h2 gm' gr' gx' hp0 hp1
set_option maxRecDepth 100000 in
set_option maxHeartbeats 4000000 in
theorem vv_turn {X : jX} (hs : X.1.stackTraces = false) {d : Nat} (hd : 40 ≤ d) {o nc nr : Nat} {q m : Int32} {w : List jC} (hI : LI o nc nr q m w) (p0 : Int32) (p1 : Int32) {kc ks : Nat} : jMet X mX8_turn d kc ks [.ref 19, .int p0, .int p1] w (pI (fun _ => True) (LI o nc nr q m)) := by
  obtain ⟨hC, ⟨mv, rw, nx, b, bt, kn, en, dn, rf, th, hR, h1, h2, gm, gr, gx, hP, hK, h24⟩, hO⟩ := hI
  have hb := hR.2.2.2.2.2.2
  refine uI0 (c_X8_turn hs (d := d) (by omega) hR h1 h2 gm gr gx p0 p1 hP hK) (fun w' h => ?_)
  obtain ⟨mv', rw', nx', kn', dn', th', hR', hF, gm', gr', gx', hp0, hp1⟩ := h
  exact LI.ref hC hO h24 hb hR' hF h1 h2 gm' gr' gx' hp0 hp1
set_option maxRecDepth 100000 in
set_option maxHeartbeats 4000000 in
theorem vv_mirror {X : jX} (hs : X.1.stackTraces = false) {d : Nat} (hd : 40 ≤ d) {o nc nr : Nat} {q m : Int32} {w : List jC} (hI : LI o nc nr q m w) (p0 : Int32) {kc ks : Nat} : jMet X mX8_mirror d kc ks [.ref 19, .int p0] w (pI (fun _ => True) (LI o nc nr q m)) := by
  obtain ⟨hC, ⟨mv, rw, nx, b, bt, kn, en, dn, rf, th, hR, h1, h2, gm, gr, gx, hP, hK, h24⟩, hO⟩ := hI
  have hb := hR.2.2.2.2.2.2
  refine uI0 (c_X8_mirror hs (d := d) (by omega) hR h1 h2 gm gr gx p0 hP hK) (fun w' h => ?_)
  obtain ⟨mv', rw', nx', kn', dn', th', hR', hF, gm', gr', gx', hp0, hp1⟩ := h
  exact LI.ref hC hO h24 hb hR' hF h1 h2 gm' gr' gx' hp0 hp1
set_option maxRecDepth 100000 in
set_option maxHeartbeats 4000000 in
theorem vv_copy {X : jX} (hs : X.1.stackTraces = false) {d : Nat} (hd : 40 ≤ d) {o nc nr : Nat} {q m : Int32} {w : List jC} (hI : LI o nc nr q m w) (p0 : Int32) (p1 : Int32) {kc ks : Nat} : jMet X mX8_copy d kc ks [.ref 19, .int p0, .int p1] w (pI (fun _ => True) (LI o nc nr q m)) := by
  obtain ⟨hC, ⟨mv, rw, nx, b, bt, kn, en, dn, rf, th, hR, h1, h2, gm, gr, gx, hP, hK, h24⟩, hO⟩ := hI
  have hb := hR.2.2.2.2.2.2
  refine uI0 (c_X8_copy hs (d := d) (by omega) hR h1 h2 gm gr gx p0 p1 hP hK) (fun w' h => ?_)
  obtain ⟨mv', nx', kn', dn', th', hR', hF, gm', gx', hp0, hp1⟩ := h
  exact LI.ref hC hO h24 hb hR' hF h1 h2 gm' gr gx' hp0 hp1
set_option maxRecDepth 100000 in
set_option maxHeartbeats 4000000 in
theorem vv_swap {X : jX} (hs : X.1.stackTraces = false) {d : Nat} (hd : 40 ≤ d) {o nc nr : Nat} {q m : Int32} {w : List jC} (hI : LI o nc nr q m w) (p0 : Int32) (p1 : Int32) {kc ks : Nat} : jMet X mX8_swap d kc ks [.ref 19, .int p0, .int p1] w (pI (fun _ => True) (LI o nc nr q m)) := by
  obtain ⟨hC, ⟨mv, rw, nx, b, bt, kn, en, dn, rf, th, hR, h1, h2, gm, gr, gx, hP, hK, h24⟩, hO⟩ := hI
  have hb := hR.2.2.2.2.2.2
  refine uI0 (c_X8_swap hs (d := d) (by omega) hR h1 h2 gm gr gx p0 p1 hP hK) (fun w' h => ?_)
  obtain ⟨mv', kn', dn', th', hR', hF, gm', hp0, hp1⟩ := h
  exact LI.ref hC hO h24 hb hR' hF h1 h2 gm' gr gx hp0 hp1
set_option maxRecDepth 100000 in
set_option maxHeartbeats 4000000 in
theorem vv_then {X : jX} (hs : X.1.stackTraces = false) {d : Nat} (hd : 40 ≤ d) {o nc nr : Nat} {q m : Int32} {w : List jC} (hI : LI o nc nr q m w) (p0 : Int32) (p1 : Int32) (p2 : Int32) {kc ks : Nat} : jMet X mX8_then d kc ks [.ref 19, .int p0, .int p1, .int p2] w (pI (fun _ => True) (LI o nc nr q m)) := by
  obtain ⟨hC, ⟨mv, rw, nx, b, bt, kn, en, dn, rf, th, hR, h1, h2, gm, gr, gx, hP, hK, h24⟩, hO⟩ := hI
  have hb := hR.2.2.2.2.2.2
  refine uI0 (c_X8_then hs (d := d) (by omega) hR h1 h2 gm gr gx p0 p1 p2 hP hK) (fun w' h => ?_)
  obtain ⟨mv', nx', kn', dn', th', hR', hF, gm', gx', hp0, hp1⟩ := h
  exact LI.ref hC hO h24 hb hR' hF h1 h2 gm' gr gx' hp0 hp1
set_option maxRecDepth 100000 in
set_option maxHeartbeats 4000000 in
theorem vv_undo {X : jX} (hs : X.1.stackTraces = false) {d : Nat} (hd : 40 ≤ d) {o nc nr : Nat} {q m : Int32} {w : List jC} (hI : LI o nc nr q m w) (p0 : Int32) (p1 : Int32) {kc ks : Nat} : jMet X mX8_undo d kc ks [.ref 19, .int p0, .int p1] w (pI (fun _ => True) (LI o nc nr q m)) := by
  obtain ⟨hC, ⟨mv, rw, nx, b, bt, kn, en, dn, rf, th, hR, h1, h2, gm, gr, gx, hP, hK, h24⟩, hO⟩ := hI
  have hb := hR.2.2.2.2.2.2
  refine uI0 (c_X8_undo hs (d := d) (by omega) hR h1 h2 gm gr gx p0 p1 hP hK) (fun w' h => ?_)
  obtain ⟨mv', nx', kn', dn', th', hR', hF, gm', gx', hp0, hp1⟩ := h
  exact LI.ref hC hO h24 hb hR' hF h1 h2 gm' gr gx' hp0 hp1
set_option maxRecDepth 100000 in
set_option maxHeartbeats 4000000 in
theorem vv_power {X : jX} (hs : X.1.stackTraces = false) {d : Nat} (hd : 40 ≤ d) {o nc nr : Nat} {q m : Int32} {w : List jC} (hI : LI o nc nr q m w) (p0 : Int32) (p1 : Int32) (p2 : Int32) {kc ks : Nat} : jMet X mX8_power d kc ks [.ref 19, .int p0, .int p1, .int p2] w (pI (fun _ => True) (LI o nc nr q m)) := by
  obtain ⟨hC, ⟨mv, rw, nx, b, bt, kn, en, dn, rf, th, hR, h1, h2, gm, gr, gx, hP, hK, h24⟩, hO⟩ := hI
  have hb := hR.2.2.2.2.2.2
  refine uI0 (c_X8_power hs (d := d) (by omega) hR h1 h2 gm gr gx p0 p1 p2 hP hK) (fun w' h => ?_)
  obtain ⟨mv', nx', kn', dn', th', hR', hF, gm', gx', hp0, hp1⟩ := h
  exact LI.ref hC hO h24 hb hR' hF h1 h2 gm' gr gx' hp0 hp1
set_option maxRecDepth 100000 in
set_option maxHeartbeats 4000000 in
theorem vv_rename {X : jX} (hs : X.1.stackTraces = false) {d : Nat} (hd : 40 ≤ d) {o nc nr : Nat} {q m : Int32} {w : List jC} (hI : LI o nc nr q m w) (p0 : Int32) (p1 : Int32) (p2 : Int32) {kc ks : Nat} : jMet X mX8_rename d kc ks [.ref 19, .int p0, .int p1, .int p2] w (pI (fun _ => True) (LI o nc nr q m)) := by
  obtain ⟨hC, ⟨mv, rw, nx, b, bt, kn, en, dn, rf, th, hR, h1, h2, gm, gr, gx, hP, hK, h24⟩, hO⟩ := hI
  have hb := hR.2.2.2.2.2.2
  refine uI0 (c_X8_rename hs (d := d) (by omega) hR h1 h2 gm gr gx p0 p1 p2 hP hK) (fun w' h => ?_)
  obtain ⟨mv', nx', kn', dn', th', hR', hF, gm', gx', hp0, hp1⟩ := h
  exact LI.ref hC hO h24 hb hR' hF h1 h2 gm' gr gx' hp0 hp1
set_option maxRecDepth 100000 in
set_option maxHeartbeats 4000000 in
theorem vv_match {X : jX} (hs : X.1.stackTraces = false) {d : Nat} (hd : 40 ≤ d) {o nc nr : Nat} {q m : Int32} {w : List jC} (hI : LI o nc nr q m w) (p0 : Int32) (p1 : Int32) (p2 : Int32) {kc ks : Nat} : jMet X mX8_match d kc ks [.ref 19, .int p0, .int p1, .int p2] w (pI (fun _ => True) (LI o nc nr q m)) := by
  obtain ⟨hC, ⟨mv, rw, nx, b, bt, kn, en, dn, rf, th, hR, h1, h2, gm, gr, gx, hP, hK, h24⟩, hO⟩ := hI
  have hb := hR.2.2.2.2.2.2
  refine uI0 (c_X8_match hs (d := d) (by omega) hR h1 h2 gm gr gx p0 p1 p2 hP hK) (fun w' h => ?_)
  obtain ⟨mv', rw', kn', dn', rf', th', hR', hF, gm', gr', hp0, hp1⟩ := h
  exact LI.ref hC hO h24 hb hR' hF h1 h2 gm' gr' gx hp0 hp1
set_option maxRecDepth 100000 in
set_option maxHeartbeats 4000000 in
theorem vv_nth {X : jX} (hs : X.1.stackTraces = false) {d : Nat} (hd : 40 ≤ d) {o nc nr : Nat} {q m : Int32} {w : List jC} (hI : LI o nc nr q m w) (p0 : Int32) (p1 : Int32) (p2 : Int32) (p3 : Int32) {kc ks : Nat} (hkc : 15 ≤ kc) (hks : 2068 ≤ ks) : jMet X mX8_nth d kc ks [.ref 19, .int p0, .int p1, .int p2, .int p3] w (pI (fun _ => True) (LI o nc nr q m)) := by
  obtain ⟨hC, ⟨mv, rw, nx, b, bt, kn, en, dn, rf, th, hR, h1, h2, gm, gr, gx, hP, hK, h24⟩, hO⟩ := hI
  have hb := hR.2.2.2.2.2.2
  refine uI0 (c_X8_nth hs (d := d) (by omega) hR h1 h2 gm gr gx p0 p1 p2 p3 hP hK hkc hks) (fun w' h => ?_)
  obtain ⟨mv', rw', nx', b', bt', kn', en', dn', rf', th', hR', hF, gm', gr', gx', hp0, hp1⟩ := h
  exact LI.ref hC hO h24 hb hR' hF h1 h2 gm' gr' gx' hp0 hp1
set_option maxRecDepth 100000 in
set_option maxHeartbeats 4000000 in
theorem vv_count {X : jX} (hs : X.1.stackTraces = false) {d : Nat} (hd : 40 ≤ d) {o nc nr : Nat} {q m : Int32} {w : List jC} (hI : LI o nc nr q m w) {kc ks : Nat} : jMet X mX8_count d kc ks [.ref 19] w (pI (fun _ => True) (LI o nc nr q m)) := by
  obtain ⟨hC, ⟨mv, rw, nx, b, bt, kn, en, dn, rf, th, hR, h1, h2, gm, gr, gx, hP, hK, h24⟩, hO⟩ := hI
  have hb := hR.2.2.2.2.2.2
  refine uI0 (c_X8_count hs (d := d) (by omega) hR h1 h2 gm gr gx) (fun w' h => ?_)
  obtain ⟨hR', hF⟩ := h
  exact LI.ref hC hO h24 hb hR' hF h1 h2 gm gr gx hP hK
set_option maxRecDepth 100000 in
set_option maxHeartbeats 4000000 in
theorem vv_number {X : jX} (hs : X.1.stackTraces = false) {d : Nat} (hd : 40 ≤ d) {o nc nr : Nat} {q m : Int32} {w : List jC} (hI : LI o nc nr q m w) (p0 : Int32) {kc ks : Nat} : jMet X mX8_number d kc ks [.ref 19, .int p0] w (pI (fun _ => True) (LI o nc nr q m)) := by
  obtain ⟨hC, ⟨mv, rw, nx, b, bt, kn, en, dn, rf, th, hR, h1, h2, gm, gr, gx, hP, hK, h24⟩, hO⟩ := hI
  have hb := hR.2.2.2.2.2.2
  refine uI0 (c_X8_number hs (d := d) (by omega) hR h1 h2 gm gr gx p0) (fun w' h => ?_)
  obtain ⟨th', hR', hF⟩ := h
  exact LI.ref hC hO h24 hb hR' hF h1 h2 gm gr gx hP hK
set_option maxRecDepth 100000 in
set_option maxHeartbeats 4000000 in
theorem vv_goes {X : jX} (hs : X.1.stackTraces = false) {d : Nat} (hd : 40 ≤ d) {o nc nr : Nat} {q m : Int32} {w : List jC} (hI : LI o nc nr q m w) (p0 : Int32) (p1 : Int32) {kc ks : Nat} : jMet X mX8_goes d kc ks [.ref 19, .int p0, .int p1] w (pI (fun _ => True) (LI o nc nr q m)) := by
  obtain ⟨hC, ⟨mv, rw, nx, b, bt, kn, en, dn, rf, th, hR, h1, h2, gm, gr, gx, hP, hK, h24⟩, hO⟩ := hI
  have hb := hR.2.2.2.2.2.2
  refine uI0 (c_X8_goes hs (d := d) (by omega) hR h1 h2 gm gr gx p0 p1) (fun w' h => ?_)
  obtain ⟨th', hR', hF⟩ := h
  exact LI.ref hC hO h24 hb hR' hF h1 h2 gm gr gx hP hK
set_option maxRecDepth 100000 in
set_option maxHeartbeats 4000000 in
theorem vv_text {X : jX} (hs : X.1.stackTraces = false) {d : Nat} (hd : 40 ≤ d) (hXO : XO X) {o nc nr : Nat} {q m : Int32} {w : List jC} (hI : LI o nc nr q m w) (p0 : Int32) {kc ks : Nat} (hkc : 40 ≤ kc) (hks : 1500 ≤ ks) : jMet X mX8_text d kc ks [.ref 19, .int p0] w (pS (fun w' => LI o nc nr q m w')) := by
  obtain ⟨hC, ⟨mv, rw, nx, b, bt, kn, en, dn, rf, th, hR, h1, h2, gm, gr, gx, hP, hK, h24⟩, hO⟩ := hI
  have hb := hR.2.2.2.2.2.2
  refine uS0 (c_X8_text hs (d := d) (by omega) hXO hR h1 h2 gm gr gx p0 hkc hks) (fun w' h => ?_)
  obtain ⟨th', hR', hF⟩ := h
  exact LI.ref hC hO h24 hb hR' hF h1 h2 gm gr gx hP hK
set_option maxRecDepth 100000 in
set_option maxHeartbeats 4000000 in
theorem vv_rings {X : jX} (hs : X.1.stackTraces = false) {d : Nat} (hd : 40 ≤ d) (hXO : XO X) {o nc nr : Nat} {q m : Int32} {w : List jC} (hI : LI o nc nr q m w) (p0 : Int32) {kc ks : Nat} (hkc : 40 ≤ kc) (hks : 1500 ≤ ks) : jMet X mX8_rings d kc ks [.ref 19, .int p0] w (pS (fun w' => LI o nc nr q m w')) := by
  obtain ⟨hC, ⟨mv, rw, nx, b, bt, kn, en, dn, rf, th, hR, h1, h2, gm, gr, gx, hP, hK, h24⟩, hO⟩ := hI
  have hb := hR.2.2.2.2.2.2
  refine uS0 (c_X8_rings hs (d := d) (by omega) hXO hR h1 h2 gm gr gx p0 hP hkc hks) (fun w' h => ?_)
  obtain ⟨th', hR', hF⟩ := h
  exact LI.ref hC hO h24 hb hR' hF h1 h2 gm gr gx hP hK
set_option maxRecDepth 100000 in
set_option maxHeartbeats 4000000 in
theorem vv_ringText {X : jX} (hs : X.1.stackTraces = false) {d : Nat} (hd : 40 ≤ d) (hXO : XO X) {o nc nr : Nat} {q m : Int32} {w : List jC} (hI : LI o nc nr q m w) (p0 : Int32) (p1 : Int32) {kc ks : Nat} (hkc : 40 ≤ kc) (hks : 1500 ≤ ks) : jMet X mX8_ringText d kc ks [.ref 19, .int p0, .int p1] w (pS (fun w' => LI o nc nr q m w')) := by
  obtain ⟨hC, ⟨mv, rw, nx, b, bt, kn, en, dn, rf, th, hR, h1, h2, gm, gr, gx, hP, hK, h24⟩, hO⟩ := hI
  have hb := hR.2.2.2.2.2.2
  refine uS0 (c_X8_ringText hs (d := d) (by omega) hXO hR h1 h2 gm gr gx p0 p1 hP hkc hks) (fun w' h => ?_)
  obtain ⟨th', hR', hF⟩ := h
  exact LI.ref hC hO h24 hb hR' hF h1 h2 gm gr gx hP hK
set_option maxRecDepth 100000 in
set_option maxHeartbeats 4000000 in
theorem vv_order {X : jX} (hs : X.1.stackTraces = false) {d : Nat} (hd : 40 ≤ d) {o nc nr : Nat} {q m : Int32} {w : List jC} (hI : LI o nc nr q m w) (p0 : Int32) {kc ks : Nat} : jMet X mX8_order d kc ks [.ref 19, .int p0] w (pI (fun _ => True) (LI o nc nr q m)) := by
  obtain ⟨hC, ⟨mv, rw, nx, b, bt, kn, en, dn, rf, th, hR, h1, h2, gm, gr, gx, hP, hK, h24⟩, hO⟩ := hI
  have hb := hR.2.2.2.2.2.2
  refine uI0 (c_X8_order hs (d := d) (by omega) hR h1 h2 gm gr gx p0 hP) (fun w' h => ?_)
  obtain ⟨th', hR', hF⟩ := h
  exact LI.ref hC hO h24 hb hR' hF h1 h2 gm gr gx hP hK
set_option maxRecDepth 100000 in
set_option maxHeartbeats 4000000 in
theorem vv_sign {X : jX} (hs : X.1.stackTraces = false) {d : Nat} (hd : 40 ≤ d) {o nc nr : Nat} {q m : Int32} {w : List jC} (hI : LI o nc nr q m w) (p0 : Int32) {kc ks : Nat} : jMet X mX8_sign d kc ks [.ref 19, .int p0] w (pI (fun _ => True) (LI o nc nr q m)) := by
  obtain ⟨hC, ⟨mv, rw, nx, b, bt, kn, en, dn, rf, th, hR, h1, h2, gm, gr, gx, hP, hK, h24⟩, hO⟩ := hI
  have hb := hR.2.2.2.2.2.2
  refine uI0 (c_X8_sign hs (d := d) (by omega) hR h1 h2 gm gr gx p0) (fun w' h => ?_)
  obtain ⟨th', hR', hF⟩ := h
  exact LI.ref hC hO h24 hb hR' hF h1 h2 gm gr gx hP hK
set_option maxRecDepth 100000 in
set_option maxHeartbeats 4000000 in
theorem vv_stays {X : jX} (hs : X.1.stackTraces = false) {d : Nat} (hd : 40 ≤ d) {o nc nr : Nat} {q m : Int32} {w : List jC} (hI : LI o nc nr q m w) (p0 : Int32) {kc ks : Nat} : jMet X mX8_stays d kc ks [.ref 19, .int p0] w (pI (fun _ => True) (LI o nc nr q m)) := by
  obtain ⟨hC, ⟨mv, rw, nx, b, bt, kn, en, dn, rf, th, hR, h1, h2, gm, gr, gx, hP, hK, h24⟩, hO⟩ := hI
  have hb := hR.2.2.2.2.2.2
  refine uI0 (c_X8_stays hs (d := d) (by omega) hR h1 h2 gm gr gx p0) (fun w' h => ?_)
  obtain ⟨th', hR', hF⟩ := h
  exact LI.ref hC hO h24 hb hR' hF h1 h2 gm gr gx hP hK
set_option maxRecDepth 100000 in
set_option maxHeartbeats 4000000 in
theorem vv_areAlike {X : jX} (hs : X.1.stackTraces = false) {d : Nat} (hd : 40 ≤ d) {o nc nr : Nat} {q m : Int32} {w : List jC} (hI : LI o nc nr q m w) (p0 : Int32) (p1 : Int32) {kc ks : Nat} : jMet X mX8_areAlike d kc ks [.ref 19, .int p0, .int p1] w (pI (fun _ => True) (LI o nc nr q m)) := by
  obtain ⟨hC, ⟨mv, rw, nx, b, bt, kn, en, dn, rf, th, hR, h1, h2, gm, gr, gx, hP, hK, h24⟩, hO⟩ := hI
  have hb := hR.2.2.2.2.2.2
  refine uI0 (c_X8_areAlike hs (d := d) (by omega) hR h1 h2 gm gr gx p0 p1 hP) (fun w' h => ?_)
  obtain ⟨th', hR', hF⟩ := h
  exact LI.ref hC hO h24 hb hR' hF h1 h2 gm gr gx hP hK
set_option maxRecDepth 100000 in
set_option maxHeartbeats 4000000 in
theorem vv_commute {X : jX} (hs : X.1.stackTraces = false) {d : Nat} (hd : 40 ≤ d) {o nc nr : Nat} {q m : Int32} {w : List jC} (hI : LI o nc nr q m w) (p0 : Int32) (p1 : Int32) {kc ks : Nat} : jMet X mX8_commute d kc ks [.ref 19, .int p0, .int p1] w (pI (fun _ => True) (LI o nc nr q m)) := by
  obtain ⟨hC, ⟨mv, rw, nx, b, bt, kn, en, dn, rf, th, hR, h1, h2, gm, gr, gx, hP, hK, h24⟩, hO⟩ := hI
  have hb := hR.2.2.2.2.2.2
  refine uI0 (c_X8_commute hs (d := d) (by omega) hR h1 h2 gm gr gx p0 p1) (fun w' h => ?_)
  obtain ⟨th', hR', hF⟩ := h
  exact LI.ref hC hO h24 hb hR' hF h1 h2 gm gr gx hP hK
set_option maxRecDepth 100000 in
set_option maxHeartbeats 4000000 in
theorem vv_size {X : jX} (hs : X.1.stackTraces = false) {d : Nat} (hd : 40 ≤ d) {o nc nr : Nat} {q m : Int32} {w : List jC} (hI : LI o nc nr q m w) (p0 : Int32) (p1 : Int32) {kc ks : Nat} (hkc : 13 ≤ kc) (hks : 2054 ≤ ks) : jMet X mX8_size d kc ks [.ref 19, .int p0, .int p1] w (pI (fun _ => True) (LI o nc nr q m)) := by
  obtain ⟨hC, ⟨mv, rw, nx, b, bt, kn, en, dn, rf, th, hR, h1, h2, gm, gr, gx, hP, hK, h24⟩, hO⟩ := hI
  have hb := hR.2.2.2.2.2.2
  refine uI0 (c_X8_size hs (d := d) (by omega) hR h1 h2 gm gr gx p0 p1 hP hK hkc hks) (fun w' h => ?_)
  obtain ⟨rw', nx', b', bt', kn', en', th', hR', hF, gr', gx', hp0⟩ := h
  exact LI.ref hC hO h24 hb hR' hF h1 h2 gm gr' gx' hP hp0
set_option maxRecDepth 100000 in
set_option maxHeartbeats 4000000 in
theorem vv_reach {X : jX} (hs : X.1.stackTraces = false) {d : Nat} (hd : 40 ≤ d) {o nc nr : Nat} {q m : Int32} {w : List jC} (hI : LI o nc nr q m w) (p0 : Int32) (p1 : Int32) (p2 : Int32) {kc ks : Nat} (hkc : 13 ≤ kc) (hks : 2054 ≤ ks) : jMet X mX8_reach d kc ks [.ref 19, .int p0, .int p1, .int p2] w (pI (fun _ => True) (LI o nc nr q m)) := by
  obtain ⟨hC, ⟨mv, rw, nx, b, bt, kn, en, dn, rf, th, hR, h1, h2, gm, gr, gx, hP, hK, h24⟩, hO⟩ := hI
  have hb := hR.2.2.2.2.2.2
  refine uI0 (c_X8_reach hs (d := d) (by omega) hR h1 h2 gm gr gx p0 p1 p2 hP hK hkc hks) (fun w' h => ?_)
  obtain ⟨rw', nx', b', bt', kn', en', th', hR', hF, gr', gx', hp0⟩ := h
  exact LI.ref hC hO h24 hb hR' hF h1 h2 gm gr' gx' hP hp0
set_option maxRecDepth 100000 in
set_option maxHeartbeats 4000000 in
theorem vv_isIn {X : jX} (hs : X.1.stackTraces = false) {d : Nat} (hd : 40 ≤ d) {o nc nr : Nat} {q m : Int32} {w : List jC} (hI : LI o nc nr q m w) (p0 : Int32) (p1 : Int32) (p2 : Int32) {kc ks : Nat} (hkc : 13 ≤ kc) (hks : 2054 ≤ ks) : jMet X mX8_isIn d kc ks [.ref 19, .int p0, .int p1, .int p2] w (pI (fun _ => True) (LI o nc nr q m)) := by
  obtain ⟨hC, ⟨mv, rw, nx, b, bt, kn, en, dn, rf, th, hR, h1, h2, gm, gr, gx, hP, hK, h24⟩, hO⟩ := hI
  have hb := hR.2.2.2.2.2.2
  refine uI0 (c_X8_isIn hs (d := d) (by omega) hR h1 h2 gm gr gx p0 p1 p2 hP hK hkc hks) (fun w' h => ?_)
  obtain ⟨rw', nx', b', bt', kn', en', th', hR', hF, gr', gx', hp0⟩ := h
  exact LI.ref hC hO h24 hb hR' hF h1 h2 gm gr' gx' hP hp0
set_option maxRecDepth 100000 in
set_option maxHeartbeats 4000000 in
theorem vv_rank {X : jX} (hs : X.1.stackTraces = false) {d : Nat} (hd : 40 ≤ d) {o nc nr : Nat} {q m : Int32} {w : List jC} (hI : LI o nc nr q m w) (p0 : Int32) (p1 : Int32) (p2 : Int32) {kc ks : Nat} (hkc : 13 ≤ kc) (hks : 2054 ≤ ks) : jMet X mX8_rank d kc ks [.ref 19, .int p0, .int p1, .int p2] w (pI (fun _ => True) (LI o nc nr q m)) := by
  obtain ⟨hC, ⟨mv, rw, nx, b, bt, kn, en, dn, rf, th, hR, h1, h2, gm, gr, gx, hP, hK, h24⟩, hO⟩ := hI
  have hb := hR.2.2.2.2.2.2
  refine uI0 (c_X8_rank hs (d := d) (by omega) hR h1 h2 gm gr gx p0 p1 p2 hP hK hkc hks) (fun w' h => ?_)
  obtain ⟨rw', nx', b', bt', kn', en', th', hR', hF, gr', gx', hp0⟩ := h
  exact LI.ref hC hO h24 hb hR' hF h1 h2 gm gr' gx' hP hp0
set_option maxRecDepth 100000 in
set_option maxHeartbeats 4000000 in
theorem vv_list {X : jX} (hs : X.1.stackTraces = false) {d : Nat} (hd : 40 ≤ d) (hXO : XO X) {o nc nr : Nat} {q m : Int32} {w : List jC} (hI : LI o nc nr q m w) (p0 : Int32) (p1 : Int32) {kc ks : Nat} (hkc : 55 ≤ kc) (hks : 3600 ≤ ks) : jMet X mX8_list d kc ks [.ref 19, .int p0, .int p1] w (pS (fun w' => LI o nc nr q m w')) := by
  obtain ⟨hC, ⟨mv, rw, nx, b, bt, kn, en, dn, rf, th, hR, h1, h2, gm, gr, gx, hP, hK, h24⟩, hO⟩ := hI
  have hb := hR.2.2.2.2.2.2
  refine uS0 (c_X8_list hs (d := d) (by omega) hXO hR h1 h2 gm gr gx p0 p1 hP hK hkc hks) (fun w' h => ?_)
  obtain ⟨rw', nx', b', bt', kn', en', th', hR', hF, gr', gx', hK'⟩ := h
  exact LI.ref hC hO h24 hb hR' hF h1 h2 gm gr' gx' hP hK'
set_option maxRecDepth 100000 in
set_option maxHeartbeats 4000000 in
theorem vv_comes {X : jX} (hs : X.1.stackTraces = false) {d : Nat} (hd : 40 ≤ d) {o nc nr : Nat} {q m : Int32} {w : List jC} (hI : LI o nc nr q m w) (p0 : Int32) (p1 : Int32) {kc ks : Nat} : jMet X mX8_comes d kc ks [.ref 19, .int p0, .int p1] w (pI (fun _ => True) (LI o nc nr q m)) := by
  obtain ⟨hC, ⟨mv, rw, nx, b, bt, kn, en, dn, rf, th, hR, h1, h2, gm, gr, gx, hP, hK, h24⟩, hO⟩ := hI
  have hb := hR.2.2.2.2.2.2
  refine uI0 (c_X8_comes hs (d := d) (by omega) hR h1 h2 gm gr gx p0 p1) (fun w' h => ?_)
  obtain ⟨th', hR', hF⟩ := h
  exact LI.ref hC hO h24 hb hR' hF h1 h2 gm gr gx hP hK
set_option maxRecDepth 100000 in
set_option maxHeartbeats 4000000 in
theorem vv_pieces {X : jX} (hs : X.1.stackTraces = false) {d : Nat} (hd : 40 ≤ d) {o nc nr : Nat} {q m : Int32} {w : List jC} (hI : LI o nc nr q m w) (p0 : Int32) {kc ks : Nat} : jMet X mX8_pieces d kc ks [.ref 19, .int p0] w (pI (fun _ => True) (LI o nc nr q m)) := by
  obtain ⟨hC, ⟨mv, rw, nx, b, bt, kn, en, dn, rf, th, hR, h1, h2, gm, gr, gx, hP, hK, h24⟩, hO⟩ := hI
  have hb := hR.2.2.2.2.2.2
  refine uI0 (c_X8_pieces hs (d := d) (by omega) hR h1 h2 gm gr gx p0) (fun w' h => ?_)
  obtain ⟨th', hR', hF⟩ := h
  exact LI.ref hC hO h24 hb hR' hF h1 h2 gm gr gx hP hK
set_option maxRecDepth 100000 in
set_option maxHeartbeats 4000000 in
theorem vv_withOrder {X : jX} (hs : X.1.stackTraces = false) {d : Nat} (hd : 40 ≤ d) {o nc nr : Nat} {q m : Int32} {w : List jC} (hI : LI o nc nr q m w) (p0 : Int32) (p1 : Int32) {kc ks : Nat} (hkc : 13 ≤ kc) (hks : 2054 ≤ ks) : jMet X mX8_withOrder d kc ks [.ref 19, .int p0, .int p1] w (pI (fun _ => True) (LI o nc nr q m)) := by
  obtain ⟨hC, ⟨mv, rw, nx, b, bt, kn, en, dn, rf, th, hR, h1, h2, gm, gr, gx, hP, hK, h24⟩, hO⟩ := hI
  have hb := hR.2.2.2.2.2.2
  refine uI0 (c_X8_withOrder hs (d := d) (by omega) hR h1 h2 gm gr gx p0 p1 hP hK hkc hks) (fun w' h => ?_)
  obtain ⟨rw', nx', b', bt', kn', en', th', hR', hF, gr', gx', hp0⟩ := h
  exact LI.ref hC hO h24 hb hR' hF h1 h2 gm gr' gx' hP hp0
set_option maxRecDepth 100000 in
set_option maxHeartbeats 4000000 in
theorem vv_even {X : jX} (hs : X.1.stackTraces = false) {d : Nat} (hd : 40 ≤ d) {o nc nr : Nat} {q m : Int32} {w : List jC} (hI : LI o nc nr q m w) (p0 : Int32) {kc ks : Nat} (hkc : 13 ≤ kc) (hks : 2054 ≤ ks) : jMet X mX8_even d kc ks [.ref 19, .int p0] w (pI (fun _ => True) (LI o nc nr q m)) := by
  obtain ⟨hC, ⟨mv, rw, nx, b, bt, kn, en, dn, rf, th, hR, h1, h2, gm, gr, gx, hP, hK, h24⟩, hO⟩ := hI
  have hb := hR.2.2.2.2.2.2
  refine uI0 (c_X8_even hs (d := d) (by omega) hR h1 h2 gm gr gx p0 hP hK hkc hks) (fun w' h => ?_)
  obtain ⟨rw', nx', b', bt', kn', en', th', hR', hF, gr', gx', hp0⟩ := h
  exact LI.ref hC hO h24 hb hR' hF h1 h2 gm gr' gx' hP hp0
set_option maxRecDepth 100000 in
set_option maxHeartbeats 4000000 in
theorem vv_colourings {X : jX} (hs : X.1.stackTraces = false) {d : Nat} (hd : 40 ≤ d) {o nc nr : Nat} {q m : Int32} {w : List jC} (hI : LI o nc nr q m w) (p0 : Int32) (p1 : Int32) (p2 : Int32) {kc ks : Nat} (hkc : 15 ≤ kc) (hks : 6428 ≤ ks) : jMet X mX8_colourings d kc ks [.ref 19, .int p0, .int p1, .int p2] w (pI (fun _ => True) (LI o nc nr q m)) := by
  obtain ⟨hC, ⟨mv, rw, nx, b, bt, kn, en, dn, rf, th, hR, h1, h2, gm, gr, gx, hP, hK, h24⟩, hO⟩ := hI
  have hb := hR.2.2.2.2.2.2
  refine uI0 (c_X8_colourings hs (d := d) (by omega) hR h1 h2 gm gr gx p0 p1 p2 hP hK hkc hks) (fun w' h => ?_)
  obtain ⟨rw', nx', b', bt', kn', en', th', hR', hF, gr', gx', hp0⟩ := h
  exact LI.ref hC hO h24 hb hR' hF h1 h2 gm gr' gx' hP hp0
set_option maxRecDepth 100000 in
set_option maxHeartbeats 4000000 in
theorem vv_isPart {X : jX} (hs : X.1.stackTraces = false) {d : Nat} (hd : 40 ≤ d) {o nc nr : Nat} {q m : Int32} {w : List jC} (hI : LI o nc nr q m w) (p0 : Int32) (p1 : Int32) {kc ks : Nat} (hkc : 78 ≤ kc) (hks : 12324 ≤ ks) : jMet X mX8_isPart d kc ks [.ref 19, .int p0, .int p1] w (pI (fun _ => True) (LI o nc nr q m)) := by
  obtain ⟨hC, ⟨mv, rw, nx, b, bt, kn, en, dn, rf, th, hR, h1, h2, gm, gr, gx, hP, hK, h24⟩, hO⟩ := hI
  have hb := hR.2.2.2.2.2.2
  refine uI0 (c_X8_isPart hs (d := d) (by omega) hR h1 h2 gm gr gx p0 p1 hP hK hkc hks) (fun w' h => ?_)
  obtain ⟨rw', nx', b', bt', kn', en', th', hR', hF, gr', gx', hp0⟩ := h
  exact LI.ref hC hO h24 hb hR' hF h1 h2 gm gr' gx' hP hp0
set_option maxRecDepth 100000 in
set_option maxHeartbeats 4000000 in
theorem vv_shares {X : jX} (hs : X.1.stackTraces = false) {d : Nat} (hd : 40 ≤ d) {o nc nr : Nat} {q m : Int32} {w : List jC} (hI : LI o nc nr q m w) (p0 : Int32) (p1 : Int32) {kc ks : Nat} (hkc : 104 ≤ kc) (hks : 16432 ≤ ks) : jMet X mX8_shares d kc ks [.ref 19, .int p0, .int p1] w (pI (fun _ => True) (LI o nc nr q m)) := by
  obtain ⟨hC, ⟨mv, rw, nx, b, bt, kn, en, dn, rf, th, hR, h1, h2, gm, gr, gx, hP, hK, h24⟩, hO⟩ := hI
  have hb := hR.2.2.2.2.2.2
  refine uI0 (c_X8_shares hs (d := d) (by omega) hR h1 h2 gm gr gx p0 p1 hP hK hkc hks) (fun w' h => ?_)
  obtain ⟨rw', nx', b', bt', kn', en', th', hR', hF, gr', gx', hp0⟩ := h
  exact LI.ref hC hO h24 hb hR' hF h1 h2 gm gr' gx' hP hp0
set_option maxRecDepth 100000 in
set_option maxHeartbeats 4000000 in
theorem vv_share {X : jX} (hs : X.1.stackTraces = false) {d : Nat} (hd : 40 ≤ d) {o nc nr : Nat} {q m : Int32} {w : List jC} (hI : LI o nc nr q m w) (p0 : Int32) (p1 : Int32) {kc ks : Nat} (hkc : 13 ≤ kc) (hks : 2054 ≤ ks) : jMet X mX8_share d kc ks [.ref 19, .int p0, .int p1] w (pI (fun _ => True) (LI o nc nr q m)) := by
  obtain ⟨hC, ⟨mv, rw, nx, b, bt, kn, en, dn, rf, th, hR, h1, h2, gm, gr, gx, hP, hK, h24⟩, hO⟩ := hI
  have hb := hR.2.2.2.2.2.2
  refine uI0 (c_X8_share hs (d := d) (by omega) hR h1 h2 gm gr gx p0 p1 hP hK hkc hks) (fun w' h => ?_)
  obtain ⟨rw', nx', b', bt', kn', en', th', hR', hF, gr', gx', hp0⟩ := h
  exact LI.ref hC hO h24 hb hR' hF h1 h2 gm gr' gx' hP hp0
set_option maxRecDepth 100000 in
set_option maxHeartbeats 4000000 in
theorem vv_together {X : jX} (hs : X.1.stackTraces = false) {d : Nat} (hd : 40 ≤ d) {o nc nr : Nat} {q m : Int32} {w : List jC} (hI : LI o nc nr q m w) (p0 : Int32) (p1 : Int32) (p2 : Int32) {kc ks : Nat} : jMet X mX8_together d kc ks [.ref 19, .int p0, .int p1, .int p2] w (pI (fun _ => True) (LI o nc nr q m)) := by
  obtain ⟨hC, ⟨mv, rw, nx, b, bt, kn, en, dn, rf, th, hR, h1, h2, gm, gr, gx, hP, hK, h24⟩, hO⟩ := hI
  have hb := hR.2.2.2.2.2.2
  refine uI0 (c_X8_together hs (d := d) (by omega) hR h1 h2 gm gr gx p0 p1 p2 hP) (fun w' h => ?_)
  obtain ⟨rw', th', hR', hF, gr'⟩ := h
  exact LI.ref hC hO h24 hb hR' hF h1 h2 gm gr' gx hP hK
set_option maxRecDepth 100000 in
set_option maxHeartbeats 4000000 in
theorem vv_blocks {X : jX} (hs : X.1.stackTraces = false) {d : Nat} (hd : 40 ≤ d) {o nc nr : Nat} {q m : Int32} {w : List jC} (hI : LI o nc nr q m w) (p0 : Int32) (p1 : Int32) (p2 : Int32) {kc ks : Nat} : jMet X mX8_blocks d kc ks [.ref 19, .int p0, .int p1, .int p2] w (pI (fun _ => True) (LI o nc nr q m)) := by
  obtain ⟨hC, ⟨mv, rw, nx, b, bt, kn, en, dn, rf, th, hR, h1, h2, gm, gr, gx, hP, hK, h24⟩, hO⟩ := hI
  have hb := hR.2.2.2.2.2.2
  refine uI0 (c_X8_blocks hs (d := d) (by omega) hR h1 h2 gm gr gx p0 p1 p2 hP) (fun w' h => ?_)
  obtain ⟨rw', th', hR', hF, gr'⟩ := h
  exact LI.ref hC hO h24 hb hR' hF h1 h2 gm gr' gx hP hK
set_option maxRecDepth 100000 in
set_option maxHeartbeats 4000000 in
theorem vv_isTwofold {X : jX} (hs : X.1.stackTraces = false) {d : Nat} (hd : 40 ≤ d) {o nc nr : Nat} {q m : Int32} {w : List jC} (hI : LI o nc nr q m w) (p0 : Int32) {kc ks : Nat} (hkc : 1 ≤ kc) (hks : 49 ≤ ks) : jMet X mX8_isTwofold d kc ks [.ref 19, .int p0] w (pI (fun _ => True) (LI o nc nr q m)) := by
  obtain ⟨hC, ⟨mv, rw, nx, b, bt, kn, en, dn, rf, th, hR, h1, h2, gm, gr, gx, hP, hK, h24⟩, hO⟩ := hI
  have hb := hR.2.2.2.2.2.2
  refine uI0 (c_X8_isTwofold hs (d := d) (by omega) hR h1 h2 gm gr gx p0 hkc hks) (fun w' h => ?_)
  obtain ⟨th', hR', hF⟩ := h
  exact LI.ref hC hO h24 hb hR' hF h1 h2 gm gr gx hP hK
set_option maxRecDepth 100000 in
set_option maxHeartbeats 4000000 in
theorem vv_enough {X : jX} (hs : X.1.stackTraces = false) {d : Nat} (hd : 40 ≤ d) {o nc nr : Nat} {q m : Int32} {w : List jC} (hI : LI o nc nr q m w) (p0 : Int32) {kc ks : Nat} (hkc : 13 ≤ kc) (hks : 2054 ≤ ks) : jMet X mX8_enough d kc ks [.ref 19, .int p0] w (pI (fun _ => True) (LI o nc nr q m)) := by
  obtain ⟨hC, ⟨mv, rw, nx, b, bt, kn, en, dn, rf, th, hR, h1, h2, gm, gr, gx, hP, hK, h24⟩, hO⟩ := hI
  have hb := hR.2.2.2.2.2.2
  refine uI0 (c_X8_enough hs (d := d) (by omega) hR h1 h2 gm gr gx p0 hP hK hkc hks) (fun w' h => ?_)
  obtain ⟨rw', nx', b', bt', kn', en', th', hR', hF, gr', gx', hp0⟩ := h
  exact LI.ref hC hO h24 hb hR' hF h1 h2 gm gr' gx' hP hp0
set_option maxRecDepth 100000 in
set_option maxHeartbeats 4000000 in
theorem vv_house {X : jX} (hs : X.1.stackTraces = false) {d : Nat} (hd : 40 ≤ d) {o nc nr : Nat} {q m : Int32} {w : List jC} (hI : LI o nc nr q m w) (p0 : Int32) {kc ks : Nat} : jMet X mX8_house d kc ks [.ref 19, .int p0] w (pI (fun _ => True) (LI o nc nr q m)) := by
  obtain ⟨hC, ⟨mv, rw, nx, b, bt, kn, en, dn, rf, th, hR, h1, h2, gm, gr, gx, hP, hK, h24⟩, hO⟩ := hI
  have hb := hR.2.2.2.2.2.2
  refine uI0 (c_X8_house hs (d := d) (by omega) hR h1 h2 gm gr gx p0) (fun w' h => ?_)
  obtain ⟨th', hR', hF⟩ := h
  exact LI.ref hC hO h24 hb hR' hF h1 h2 gm gr gx hP hK
set_option maxRecDepth 100000 in
set_option maxHeartbeats 4000000 in
theorem vv_knock {X : jX} (hs : X.1.stackTraces = false) {d : Nat} (hd : 40 ≤ d) {o nc nr : Nat} {q m : Int32} {w : List jC} (hI : LI o nc nr q m w) {kc ks : Nat} : jMet X mX8_knock d kc ks [.ref 19] w (pI (fun v => v = m + nI 1) (LI o nc nr q (m + nI 1))) := by
  obtain ⟨hC, ⟨mv, rw, nx, b, bt, kn, en, dn, rf, th, hR, h1, h2, gm, gr, gx, hP, hK, h24⟩, hO⟩ := hI
  have hb := hR.2.2.2.2.2.2
  refine uI1 (c_X8_knock hs (d := d) (by omega) hR h1 h2 gm gr gx) (fun v h => h) (fun w' h => ?_)
  obtain ⟨hR', hF⟩ := h
  exact LI.ref hC hO h24 hb hR' hF h1 h2 gm gr gx hP hK
set_option maxRecDepth 100000 in
set_option maxHeartbeats 4000000 in
theorem vv_isSound {X : jX} (hs : X.1.stackTraces = false) {d : Nat} (hd : 40 ≤ d) {o nc nr : Nat} {q m : Int32} {w : List jC} (hI : LI o nc nr q m w) {kc ks : Nat} (hkc : 15 ≤ kc) (hks : 6428 ≤ ks) : jMet X mX8_isSound d kc ks [.ref 19] w (pI (fun _ => True) (LI o nc nr q m)) := by
  obtain ⟨hC, ⟨mv, rw, nx, b, bt, kn, en, dn, rf, th, hR, h1, h2, gm, gr, gx, hP, hK, h24⟩, hO⟩ := hI
  have hb := hR.2.2.2.2.2.2
  refine uI0 (c_X8_isSound hs (d := d) (by omega) hR h1 h2 gm gr gx hP hK hkc hks) (fun w' h => ?_)
  obtain ⟨rw', nx', b', bt', kn', en', th', hR', hF, gr', gx', hp0⟩ := h
  exact LI.ref hC hO h24 hb hR' hF h1 h2 gm gr' gx' hP hp0
set_option maxRecDepth 100000 in
set_option maxHeartbeats 4000000 in
theorem vv_digest {X : jX} (hs : X.1.stackTraces = false) {d : Nat} (hd : 40 ≤ d) (hXO : XO X) {o nc nr : Nat} {q m : Int32} {w : List jC} (hI : LI o nc nr q m w) {kc ks : Nat} (hkc : 330 ≤ kc) (hks : 26000 ≤ ks) : jMet X mX8_digest d kc ks [.ref 19] w (pL (fun _ => True) (LI o nc nr q m)) := by
  obtain ⟨hC, ⟨mv, rw, nx, b, bt, kn, en, dn, rf, th, hR, h1, h2, gm, gr, gx, hP, hK, h24⟩, hO⟩ := hI
  have hb := hR.2.2.2.2.2.2
  refine uL0 (c_X8_digest hs (d := d) (by omega) hXO hR h1 h2 gm gr gx hP hK hkc hks) (fun w' h => ?_)
  obtain ⟨rw', nx', b', bt', kn', en', th', hR', hF, gr', gx', hp0⟩ := h
  exact LI.ref hC hO h24 hb hR' hF h1 h2 gm gr' gx' hP hp0
