/-! contracts of the class -/
set_option maxRecDepth 100000 in
set_option maxHeartbeats 4000000 in
theorem c_X6_exchange {X : jX} (hs : X.1.stackTraces = false) {d : Nat} (hd : 12 ≤ d) {n : Nat} {e r q : Int32} (hn1 : 2 ≤ n) (hn2 : n ≤ 7) {w : List jC} (hS : SH (rX n e r q) w) (p0 : Int32) (p1 : Int32) (p2 : Int32) {kc ks : Nat} (hkc : 3 ≤ kc) (hks : 18 ≤ ks) : jMet X mX6_exchange d kc ks [.ref 0, .int p0, .int p1, .int p2] w (pX (pI (fun _ => True) (fun w' => rT n q w w')) (fun E w' => (E = "java/lang/IndexOutOfBoundsException") ∧ rT n q w w')) := by
  refine jMet_of hs (by decide +kernel) (Nat.le_of_ble_eq_true rfl) (L := [some (.ref 0), some (.int p0), some (.int p1), some (.int p2), none]) rfl ?_
  have hG : Fr kX w w := Fr.rf
  refine J_iload_n (pc := 0) dX6_exchange_0 rfl rfl ?_
  refine J_callS (pc := 1) (M := mX6_exchange) (as := [.int p0]) dX6_exchange_1 fw_X6_needCell fl_X6_67 fs_X6_needCell rfl (c_X6_needCell hs (d := d - 1) (by omega) (w := w) p0 (kc := 1) (ks := 6) (Nat.le_refl _) (Nat.le_refl _)) (by omega) (by omega) (by omega) (st := []) (Nat.le_of_ble_eq_true rfl) rfl (kr_X (kr_V fun w1 hw1 => ?_)) (kx_X fun E1 w1 hx1 => ?_)
  · obtain ⟨hq1, hp1⟩ := hw1
    obtain rfl := hq1.symm
    obtain ⟨b1, hb1, rfl⟩ := hp1
    refine J_aload_n (pc := 4) dX6_exchange_4 rfl rfl rfl ?_
    refine J_iload_n (pc := 5) dX6_exchange_5 rfl rfl ?_
    obtain ⟨_, hc3, rfl⟩ := hS 0 _ rfl
    refine J_callV (pc := 6) (M := mX6_exchange) (as := [.int p1]) dX6_exchange_6 fw_X6_needPoint fl_X6_86 fm_X6_needPoint fe_X6_needPoint hc3 (by decide) rfl rfl rfl (c_X6_needPoint hs (d := d - 1) (by omega) (e := e) (r := r) (q := q) hn1 hn2 hS (w := w) p1 (kc := 1) (ks := 6) (Nat.le_refl _) (Nat.le_refl _)) (by omega) (by omega) (by omega) (st := []) (Nat.le_of_ble_eq_true rfl) rfl (kr_X (kr_V fun w2 hw2 => ?_)) (kx_X fun E2 w2 hx2 => ?_)
    · obtain ⟨hq2, hp2⟩ := hw2
      obtain rfl := hq2.symm
      obtain ⟨b2, hb2, rfl⟩ := hp2
      refine J_aload_n (pc := 9) dX6_exchange_9 rfl rfl rfl ?_
      refine J_iload_n (pc := 10) dX6_exchange_10 rfl rfl ?_
      refine J_callV (pc := 11) (M := mX6_exchange) (as := [.int p2]) dX6_exchange_11 fw_X6_needPoint fl_X6_86 fm_X6_needPoint fe_X6_needPoint hc3 (by decide) rfl rfl rfl (c_X6_needPoint hs (d := d - 1) (by omega) (e := e) (r := r) (q := q) hn1 hn2 hS (w := w) p2 (kc := 1) (ks := 6) (Nat.le_refl _) (Nat.le_refl _)) (by omega) (by omega) (by omega) (st := []) (Nat.le_of_ble_eq_true rfl) rfl (kr_X (kr_V fun w4 hw4 => ?_)) (kx_X fun E4 w4 hx4 => ?_)
      · obtain ⟨hq4, hp4⟩ := hw4
        obtain rfl := hq4.symm
        obtain ⟨b4, hb4, rfl⟩ := hp4
        refine J_ldc (pc := 14) (v := nI 1754760) dX6_exchange_14 (by have := fk_X6_56; exact this) ?_
        refine J_iload_n (pc := 16) dX6_exchange_16 rfl rfl ?_
        refine J_iload_n (pc := 17) dX6_exchange_17 rfl rfl ?_
        refine J_callS0 (pc := 18) (M := mX6_exchange) (as := [.int (nI 1754760), .int (nI b2), .int (nI b4)]) dX6_exchange_18 fw_X2_with fl_X6_89 fs_X2_with rfl (c_X2_with hs (d := d - 1) (by omega) (w := w) (nI 1754760) (nI b2) (nI b4) (kc := 0) (ks := 0)) (by omega) (st := []) (Nat.le_of_ble_eq_true rfl) rfl (kr_P fun v5 hv5 => ?_) kx_I
        refine J_iload_n (pc := 21) dX6_exchange_21 rfl rfl ?_
        refine J_iload_n (pc := 22) dX6_exchange_22 rfl rfl ?_
        refine J_callS0 (pc := 23) (M := mX6_exchange) (as := [.int v5, .int (nI b4), .int (nI b2)]) dX6_exchange_23 fw_X2_with fl_X6_89 fs_X2_with rfl (c_X2_with hs (d := d - 1) (by omega) (w := w) v5 (nI b4) (nI b2) (kc := 0) (ks := 0)) (by omega) (st := []) (Nat.le_of_ble_eq_true rfl) rfl (kr_P fun v6 hv6 => ?_) kx_I
        refine J_istore (pc := 26) dX6_exchange_26 (by decide) rfl ?_
        show J X mX6_exchange d (kc - 1 - 1 - 1) (ks - 6 - 6 - 6) 28 [some (.ref 0), some (.int (nI b1)), some (.int (nI b2)), some (.int (nI b4)), some (.int v6)] [] w _
        refine J_aload_n (pc := 28) dX6_exchange_28 rfl rfl rfl ?_
        refine J_iload_n (pc := 29) dX6_exchange_29 rfl rfl ?_
        refine J_aload_n (pc := 30) dX6_exchange_30 rfl rfl rfl ?_
        refine J_get (pc := 31) (k := 0) dX6_exchange_31 kC7 (by decide) ff_X6_9 hc3 rfl ?_
        refine J_iload_n (pc := 34) dX6_exchange_34 rfl rfl ?_
        obtain ⟨_, hc7, xs7, rfl, hl7⟩ := hS 1 _ rfl
        refine J_iald (pc := 35) dX6_exchange_35 hc7 (nI_in (by omega) (by omega)) (J_absI fun x8 => ?_)
        refine J_iload (pc := 36) dX6_exchange_36 rfl ?_
        refine J_callS0 (pc := 38) (M := mX6_exchange) (as := [.int x8, .int v6]) dX6_exchange_38 fw_X2_both fl_X6_93 fs_X2_both rfl (c_X2_both hs (d := d - 1) (by omega) (w := w) x8 v6 (kc := 0) (ks := 0)) (by omega) (st := [.int (nI b1), .ref 0]) (Nat.le_of_ble_eq_true rfl) rfl (kr_P fun v9 hv9 => ?_) kx_I
        refine J_callV0 (pc := 41) (M := mX6_exchange) (as := [.int (nI b1), .int v9]) dX6_exchange_41 fw_X6_keepForSign fl_X6_96 fm_X6_keepForSign fe_X6_keepForSign hc3 (by decide) rfl rfl rfl (c_X6_keepForSign hs (d := d - 1) (by omega) (e := e) (r := r) (q := q) hn1 hn2 hS (w := w) b1 v9 (by omega) (kc := 0) (ks := 0)) (by omega) (st := []) (Nat.le_of_ble_eq_true rfl) rfl (kr_I fun v10 w10 hv10 hw10 => ?_) kx_I
        obtain ⟨e10, r10, hS10, hF10⟩ := hw10
        have hG10 := hG.tr hF10
        exact J_iret (pc := 44) dX6_exchange_44 rfl ⟨trivial, ⟨_, _, hS10, hG10⟩⟩
      · exact JX_out (fun _ h => nomatch h) (by obtain ⟨h1, h2⟩ := hx4; exact ⟨h1, by subst h2; exact ⟨_, _, hS.push, hG.tr Fr.push⟩⟩)
    · exact JX_out (fun _ h => nomatch h) (by obtain ⟨h1, h2⟩ := hx2; exact ⟨h1, by subst h2; exact ⟨_, _, hS.push, hG.tr Fr.push⟩⟩)
  · exact JX_out (fun _ h => nomatch h) (by obtain ⟨h1, h2⟩ := hx1; exact ⟨h1, by subst h2; exact ⟨_, _, hS.push, hG.tr Fr.push⟩⟩)
set_option maxRecDepth 100000 in
set_option maxHeartbeats 4000000 in
theorem c_X6_ring {X : jX} (hs : X.1.stackTraces = false) {d : Nat} (hd : 12 ≤ d) {n : Nat} {e r q : Int32} (hn1 : 2 ≤ n) (hn2 : n ≤ 7) {w : List jC} (hS : SH (rX n e r q) w) (p0 : Int32) (p1 : Int32) (p2 : Int32) (p3 : Int32) {kc ks : Nat} (hkc : 5 ≤ kc) (hks : 30 ≤ ks) : jMet X mX6_ring d kc ks [.ref 0, .int p0, .int p1, .int p2, .int p3] w (pX (pI (fun _ => True) (fun w' => rT n q w w')) (fun E w' => (E = "java/lang/IndexOutOfBoundsException" ∨ E = "java/lang/IllegalArgumentException") ∧ rT n q w w')) := by
  refine jMet_of hs (by decide +kernel) (Nat.le_of_ble_eq_true rfl) (L := [some (.ref 0), some (.int p0), some (.int p1), some (.int p2), some (.int p3), none]) rfl ?_
  have hG : Fr kX w w := Fr.rf
  refine J_iload_n (pc := 0) dX6_ring_0 rfl rfl ?_
  refine J_callS (pc := 1) (M := mX6_ring) (as := [.int p0]) dX6_ring_1 fw_X6_needCell fl_X6_67 fs_X6_needCell rfl (c_X6_needCell hs (d := d - 1) (by omega) (w := w) p0 (kc := 1) (ks := 6) (Nat.le_refl _) (Nat.le_refl _)) (by omega) (by omega) (by omega) (st := []) (Nat.le_of_ble_eq_true rfl) rfl (kr_X (kr_V fun w1 hw1 => ?_)) (kx_X fun E1 w1 hx1 => ?_)
  · obtain ⟨hq1, hp1⟩ := hw1
    obtain rfl := hq1.symm
    obtain ⟨b1, hb1, rfl⟩ := hp1
    refine J_aload_n (pc := 4) dX6_ring_4 rfl rfl rfl ?_
    refine J_iload_n (pc := 5) dX6_ring_5 rfl rfl ?_
    obtain ⟨_, hc3, rfl⟩ := hS 0 _ rfl
    refine J_callV (pc := 6) (M := mX6_ring) (as := [.int p1]) dX6_ring_6 fw_X6_needPoint fl_X6_86 fm_X6_needPoint fe_X6_needPoint hc3 (by decide) rfl rfl rfl (c_X6_needPoint hs (d := d - 1) (by omega) (e := e) (r := r) (q := q) hn1 hn2 hS (w := w) p1 (kc := 1) (ks := 6) (Nat.le_refl _) (Nat.le_refl _)) (by omega) (by omega) (by omega) (st := []) (Nat.le_of_ble_eq_true rfl) rfl (kr_X (kr_V fun w2 hw2 => ?_)) (kx_X fun E2 w2 hx2 => ?_)
    · obtain ⟨hq2, hp2⟩ := hw2
      obtain rfl := hq2.symm
      obtain ⟨b2, hb2, rfl⟩ := hp2
      refine J_aload_n (pc := 9) dX6_ring_9 rfl rfl rfl ?_
      refine J_iload_n (pc := 10) dX6_ring_10 rfl rfl ?_
      refine J_callV (pc := 11) (M := mX6_ring) (as := [.int p2]) dX6_ring_11 fw_X6_needPoint fl_X6_86 fm_X6_needPoint fe_X6_needPoint hc3 (by decide) rfl rfl rfl (c_X6_needPoint hs (d := d - 1) (by omega) (e := e) (r := r) (q := q) hn1 hn2 hS (w := w) p2 (kc := 1) (ks := 6) (Nat.le_refl _) (Nat.le_refl _)) (by omega) (by omega) (by omega) (st := []) (Nat.le_of_ble_eq_true rfl) rfl (kr_X (kr_V fun w4 hw4 => ?_)) (kx_X fun E4 w4 hx4 => ?_)
      · obtain ⟨hq4, hp4⟩ := hw4
        obtain rfl := hq4.symm
        obtain ⟨b4, hb4, rfl⟩ := hp4
        refine J_aload_n (pc := 14) dX6_ring_14 rfl rfl rfl ?_
        refine J_iload (pc := 15) dX6_ring_15 rfl ?_
        refine J_callV (pc := 17) (M := mX6_ring) (as := [.int p3]) dX6_ring_17 fw_X6_needPoint fl_X6_86 fm_X6_needPoint fe_X6_needPoint hc3 (by decide) rfl rfl rfl (c_X6_needPoint hs (d := d - 1) (by omega) (e := e) (r := r) (q := q) hn1 hn2 hS (w := w) p3 (kc := 1) (ks := 6) (Nat.le_refl _) (Nat.le_refl _)) (by omega) (by omega) (by omega) (st := []) (Nat.le_of_ble_eq_true rfl) rfl (kr_X (kr_V fun w5 hw5 => ?_)) (kx_X fun E5 w5 hx5 => ?_)
        · obtain ⟨hq5, hp5⟩ := hw5
          obtain rfl := hq5.symm
          obtain ⟨b5, hb5, rfl⟩ := hp5
          refine J_iload_n (pc := 20) dX6_ring_20 rfl rfl ?_
          refine J_iload_n (pc := 21) dX6_ring_21 rfl rfl ?_
          refine J_icmp_eqN (pc := 22) (tgt := 41) dX6_ring_22 (by decide) (by omega) (by omega) (fun ht6 => ?_) (fun hf7 => ?_)
          · refine J_iconst (pc := 41) (v := nI 0) dX6_ring_41 (by decide) ?_
            refine J_callS (pc := 42) (M := mX6_ring) (as := [.int (nI 0)]) dX6_ring_42 fw_X6_need fl_X6_99 fs_X6_need rfl (c_X6_need hs (d := d - 1) (by omega) (w := w) 0 (by omega) (kc := 1) (ks := 6) (Nat.le_refl _) (Nat.le_refl _)) (by omega) (by omega) (by omega) (st := []) (Nat.le_of_ble_eq_true rfl) rfl (kr_X (kr_V fun w8 hw8 => ?_)) (kx_X fun E8 w8 hx8 => ?_)
            · exact absurd rfl hw8.2
            · exact JX_out (fun _ h => nomatch h) (by obtain ⟨h1, h2⟩ := hx8; exact ⟨Or.inr h1, by subst h2; exact ⟨_, _, hS.push, hG.tr Fr.push⟩⟩)
          · refine J_iload_n (pc := 25) dX6_ring_25 rfl rfl ?_
            refine J_iload (pc := 26) dX6_ring_26 rfl ?_
            refine J_icmp_eqN (pc := 28) (tgt := 41) dX6_ring_28 (by decide) (by omega) (by omega) (fun ht9 => ?_) (fun hf10 => ?_)
            · refine J_iconst (pc := 41) (v := nI 0) dX6_ring_41 (by decide) ?_
              refine J_callS (pc := 42) (M := mX6_ring) (as := [.int (nI 0)]) dX6_ring_42 fw_X6_need fl_X6_99 fs_X6_need rfl (c_X6_need hs (d := d - 1) (by omega) (w := w) 0 (by omega) (kc := 1) (ks := 6) (Nat.le_refl _) (Nat.le_refl _)) (by omega) (by omega) (by omega) (st := []) (Nat.le_of_ble_eq_true rfl) rfl (kr_X (kr_V fun w11 hw11 => ?_)) (kx_X fun E11 w11 hx11 => ?_)
              · exact absurd rfl hw11.2
              · exact JX_out (fun _ h => nomatch h) (by obtain ⟨h1, h2⟩ := hx11; exact ⟨Or.inr h1, by subst h2; exact ⟨_, _, hS.push, hG.tr Fr.push⟩⟩)
            · refine J_iload (pc := 31) dX6_ring_31 rfl ?_
              refine J_iload_n (pc := 33) dX6_ring_33 rfl rfl ?_
              refine J_icmp_eqN (pc := 34) (tgt := 41) dX6_ring_34 (by decide) (by omega) (by omega) (fun ht12 => ?_) (fun hf13 => ?_)
              · refine J_iconst (pc := 41) (v := nI 0) dX6_ring_41 (by decide) ?_
                refine J_callS (pc := 42) (M := mX6_ring) (as := [.int (nI 0)]) dX6_ring_42 fw_X6_need fl_X6_99 fs_X6_need rfl (c_X6_need hs (d := d - 1) (by omega) (w := w) 0 (by omega) (kc := 1) (ks := 6) (Nat.le_refl _) (Nat.le_refl _)) (by omega) (by omega) (by omega) (st := []) (Nat.le_of_ble_eq_true rfl) rfl (kr_X (kr_V fun w14 hw14 => ?_)) (kx_X fun E14 w14 hx14 => ?_)
                · exact absurd rfl hw14.2
                · exact JX_out (fun _ h => nomatch h) (by obtain ⟨h1, h2⟩ := hx14; exact ⟨Or.inr h1, by subst h2; exact ⟨_, _, hS.push, hG.tr Fr.push⟩⟩)
              · refine J_iconst (pc := 37) (v := nI 1) dX6_ring_37 (by decide) ?_
                refine J_goto (pc := 38) (tgt := 42) dX6_ring_38 (by decide) ?_
                refine J_callS (pc := 42) (M := mX6_ring) (as := [.int (nI 1)]) dX6_ring_42 fw_X6_need fl_X6_99 fs_X6_need rfl (c_X6_need hs (d := d - 1) (by omega) (w := w) 1 (by omega) (kc := 1) (ks := 6) (Nat.le_refl _) (Nat.le_refl _)) (by omega) (by omega) (by omega) (st := []) (Nat.le_of_ble_eq_true rfl) rfl (kr_X (kr_V fun w15 hw15 => ?_)) (kx_X fun E15 w15 hx15 => ?_)
                · obtain ⟨hq15, hp15⟩ := hw15
                  obtain rfl := hq15.symm
                  refine J_ldc (pc := 45) (v := nI 1754760) dX6_ring_45 (by have := fk_X6_56; exact this) ?_
                  refine J_iload_n (pc := 47) dX6_ring_47 rfl rfl ?_
                  refine J_iload_n (pc := 48) dX6_ring_48 rfl rfl ?_
                  refine J_callS0 (pc := 49) (M := mX6_ring) (as := [.int (nI 1754760), .int (nI b2), .int (nI b4)]) dX6_ring_49 fw_X2_with fl_X6_89 fs_X2_with rfl (c_X2_with hs (d := d - 1) (by omega) (w := w) (nI 1754760) (nI b2) (nI b4) (kc := 0) (ks := 0)) (by omega) (st := []) (Nat.le_of_ble_eq_true rfl) rfl (kr_P fun v16 hv16 => ?_) kx_I
                  refine J_iload_n (pc := 52) dX6_ring_52 rfl rfl ?_
                  refine J_iload (pc := 53) dX6_ring_53 rfl ?_
                  refine J_callS0 (pc := 55) (M := mX6_ring) (as := [.int v16, .int (nI b4), .int (nI b5)]) dX6_ring_55 fw_X2_with fl_X6_89 fs_X2_with rfl (c_X2_with hs (d := d - 1) (by omega) (w := w) v16 (nI b4) (nI b5) (kc := 0) (ks := 0)) (by omega) (st := []) (Nat.le_of_ble_eq_true rfl) rfl (kr_P fun v17 hv17 => ?_) kx_I
                  refine J_iload (pc := 58) dX6_ring_58 rfl ?_
                  refine J_iload_n (pc := 60) dX6_ring_60 rfl rfl ?_
                  refine J_callS0 (pc := 61) (M := mX6_ring) (as := [.int v17, .int (nI b5), .int (nI b2)]) dX6_ring_61 fw_X2_with fl_X6_89 fs_X2_with rfl (c_X2_with hs (d := d - 1) (by omega) (w := w) v17 (nI b5) (nI b2) (kc := 0) (ks := 0)) (by omega) (st := []) (Nat.le_of_ble_eq_true rfl) rfl (kr_P fun v18 hv18 => ?_) kx_I
                  refine J_istore (pc := 64) dX6_ring_64 (by decide) rfl ?_
                  show J X mX6_ring d (kc - 1 - 1 - 1 - 1 - 1) (ks - 6 - 6 - 6 - 6 - 6) 66 [some (.ref 0), some (.int (nI b1)), some (.int (nI b2)), some (.int (nI b4)), some (.int (nI b5)), some (.int v18)] [] w _
                  refine J_aload_n (pc := 66) dX6_ring_66 rfl rfl rfl ?_
                  refine J_iload_n (pc := 67) dX6_ring_67 rfl rfl ?_
                  refine J_aload_n (pc := 68) dX6_ring_68 rfl rfl rfl ?_
                  refine J_get (pc := 69) (k := 0) dX6_ring_69 kC7 (by decide) ff_X6_9 hc3 rfl ?_
                  refine J_iload_n (pc := 72) dX6_ring_72 rfl rfl ?_
                  obtain ⟨_, hc19, xs19, rfl, hl19⟩ := hS 1 _ rfl
                  refine J_iald (pc := 73) dX6_ring_73 hc19 (nI_in (by omega) (by omega)) (J_absI fun x20 => ?_)
                  refine J_iload (pc := 74) dX6_ring_74 rfl ?_
                  refine J_callS0 (pc := 76) (M := mX6_ring) (as := [.int x20, .int v18]) dX6_ring_76 fw_X2_both fl_X6_93 fs_X2_both rfl (c_X2_both hs (d := d - 1) (by omega) (w := w) x20 v18 (kc := 0) (ks := 0)) (by omega) (st := [.int (nI b1), .ref 0]) (Nat.le_of_ble_eq_true rfl) rfl (kr_P fun v21 hv21 => ?_) kx_I
                  refine J_callV0 (pc := 79) (M := mX6_ring) (as := [.int (nI b1), .int v21]) dX6_ring_79 fw_X6_keepForSign fl_X6_96 fm_X6_keepForSign fe_X6_keepForSign hc3 (by decide) rfl rfl rfl (c_X6_keepForSign hs (d := d - 1) (by omega) (e := e) (r := r) (q := q) hn1 hn2 hS (w := w) b1 v21 (by omega) (kc := 0) (ks := 0)) (by omega) (st := []) (Nat.le_of_ble_eq_true rfl) rfl (kr_I fun v22 w22 hv22 hw22 => ?_) kx_I
                  obtain ⟨e22, r22, hS22, hF22⟩ := hw22
                  have hG22 := hG.tr hF22
                  exact J_iret (pc := 82) dX6_ring_82 rfl ⟨trivial, ⟨_, _, hS22, hG22⟩⟩
                · exact JX_out (fun _ h => nomatch h) (by obtain ⟨h1, h2⟩ := hx15; exact ⟨Or.inr h1, by subst h2; exact ⟨_, _, hS.push, hG.tr Fr.push⟩⟩)
        · exact JX_out (fun _ h => nomatch h) (by obtain ⟨h1, h2⟩ := hx5; exact ⟨Or.inl h1, by subst h2; exact ⟨_, _, hS.push, hG.tr Fr.push⟩⟩)
      · exact JX_out (fun _ h => nomatch h) (by obtain ⟨h1, h2⟩ := hx4; exact ⟨Or.inl h1, by subst h2; exact ⟨_, _, hS.push, hG.tr Fr.push⟩⟩)
    · exact JX_out (fun _ h => nomatch h) (by obtain ⟨h1, h2⟩ := hx2; exact ⟨Or.inl h1, by subst h2; exact ⟨_, _, hS.push, hG.tr Fr.push⟩⟩)
  · exact JX_out (fun _ h => nomatch h) (by obtain ⟨h1, h2⟩ := hx1; exact ⟨Or.inl h1, by subst h2; exact ⟨_, _, hS.push, hG.tr Fr.push⟩⟩)
