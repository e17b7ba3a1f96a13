/-! contracts of the reference: rspec2 -/
set_option maxRecDepth 100000 in
set_option maxHeartbeats 4000000 in
theorem c_J6_numberOfTrailingZeros_0f7a4 {X : jX} (hs : X.1.stackTraces = false) {d : Nat} (hd : 0 ≤ d) {w : List jC} (a : Int32) (hy0 : ¬ a = 0) {kc ks : Nat} : jMet X mJ6_numberOfTrailingZeros_0f7a4 d kc ks [.int a] w (pI (fun v => ∃ k : Nat, v = nI k ∧ k < 32 ∧ a.toBitVec.getLsbD k = true) (fun w' => w' = w)) := by
  refine jMet_of hs (by decide +kernel) (Nat.le_of_ble_eq_true rfl) (L := [some (.int a), none]) rfl ?_
  obtain ⟨t, m, ht, hb, he, hm, hz⟩ := tz_of hy0
  refine J_iload_n (pc := 0) dJ6_numberOfTrailingZeros_0f7a4_0 rfl rfl ?_
  refine J_iconst (pc := 1) (v := (-1)) dJ6_numberOfTrailingZeros_0f7a4_1 (by decide) ?_
  refine J_ixor (pc := 2) dJ6_numberOfTrailingZeros_0f7a4_2 ?_
  refine J_iload_n (pc := 3) dJ6_numberOfTrailingZeros_0f7a4_3 rfl rfl ?_
  refine J_iconst (pc := 4) (v := nI 1) dJ6_numberOfTrailingZeros_0f7a4_4 (by decide) ?_
  refine J_isub (pc := 5) dJ6_numberOfTrailingZeros_0f7a4_5 ?_
  refine J_iand (pc := 6) dJ6_numberOfTrailingZeros_0f7a4_6 ?_
  refine J_istore_n (pc := 7) dJ6_numberOfTrailingZeros_0f7a4_7 rfl (by decide) rfl ?_
  show J X mJ6_numberOfTrailingZeros_0f7a4 d kc ks 8 [some (.int ((a ^^^ (-1)) &&& (a - nI 1))), none] [] w _
  rw [he]
  refine J_iload_n (pc := 8) dJ6_numberOfTrailingZeros_0f7a4_8 rfl rfl ?_
  refine J_if_gtN (pc := 9) (tgt := 17) dJ6_numberOfTrailingZeros_0f7a4_9 (by decide) (by omega) (fun ht1 => ?_) (fun hf2 => ?_)
  · refine J_iconst (pc := 17) (v := nI 1) dJ6_numberOfTrailingZeros_0f7a4_17 (by decide) ?_
    refine J_istore_n (pc := 18) dJ6_numberOfTrailingZeros_0f7a4_18 rfl (by decide) rfl ?_
    show J X mJ6_numberOfTrailingZeros_0f7a4 d kc ks 19 [some (.int (nI m)), some (.int (nI 1))] [] w _
    refine J_iload_n (pc := 19) dJ6_numberOfTrailingZeros_0f7a4_19 rfl rfl ?_
    refine J_ldcw (pc := 20) (v := nI 65536) dJ6_numberOfTrailingZeros_0f7a4_20 (by have := fk_J6_264; exact this) ?_
    refine J_icmp_leN (pc := 23) (tgt := 34) dJ6_numberOfTrailingZeros_0f7a4_23 (by decide) (by omega) (by omega) (fun ht3 => ?_) (fun hf4 => ?_)
    · refine J_iload_n (pc := 34) dJ6_numberOfTrailingZeros_0f7a4_34 rfl rfl ?_
      refine J_sipush (pc := 35) (v := nI 256) dJ6_numberOfTrailingZeros_0f7a4_35 (by decide) ?_
      refine J_icmp_leN (pc := 38) (tgt := 49) dJ6_numberOfTrailingZeros_0f7a4_38 (by decide) (by omega) (by omega) (fun ht5 => ?_) (fun hf6 => ?_)
      · refine J_iload_n (pc := 49) dJ6_numberOfTrailingZeros_0f7a4_49 rfl rfl ?_
        refine J_bipush (pc := 50) (v := nI 16) dJ6_numberOfTrailingZeros_0f7a4_50 (by decide) ?_
        refine J_icmp_leN (pc := 52) (tgt := 62) dJ6_numberOfTrailingZeros_0f7a4_52 (by decide) (by omega) (by omega) (fun ht7 => ?_) (fun hf8 => ?_)
        · refine J_iload_n (pc := 62) dJ6_numberOfTrailingZeros_0f7a4_62 rfl rfl ?_
          refine J_iconst (pc := 63) (v := nI 4) dJ6_numberOfTrailingZeros_0f7a4_63 (by decide) ?_
          refine J_icmp_leN (pc := 64) (tgt := 74) dJ6_numberOfTrailingZeros_0f7a4_64 (by decide) (by omega) (by omega) (fun ht9 => ?_) (fun hf10 => ?_)
          · refine J_iload_n (pc := 74) dJ6_numberOfTrailingZeros_0f7a4_74 rfl rfl ?_
            refine J_iload_n (pc := 75) dJ6_numberOfTrailingZeros_0f7a4_75 rfl rfl ?_
            refine J_iconst (pc := 76) (v := nI 1) dJ6_numberOfTrailingZeros_0f7a4_76 (by decide) ?_
            refine J_iushrN (pc := 77) dJ6_numberOfTrailingZeros_0f7a4_77 (by omega) (by decide) ?_
            have hm11 := Nat.div_le_self m (2 ^ 1)
            refine J_iaddN (pc := 78) dJ6_numberOfTrailingZeros_0f7a4_78 ?_
            exact J_iret (pc := 79) dJ6_numberOfTrailingZeros_0f7a4_79 rfl ⟨⟨1 + (m / 2 ^ 1), rfl, by have e : 1 + (m / 2 ^ 1) = t := (by rw [← hz]; unfold ntz; (first | rw [if_pos (by omega)] | rw [if_neg (by omega)]); unfold ntz0; (first | rw [if_pos (by omega)] | rw [if_neg (by omega)]); unfold ntz1; (first | rw [if_pos (by omega)] | rw [if_neg (by omega)]); unfold ntz2; (first | rw [if_pos (by omega)] | rw [if_neg (by omega)]); unfold ntz3; (first | rw [if_pos (by omega)] | rw [if_neg (by omega)]); unfold ntz4; rfl); rw [e]; exact ⟨ht, hb⟩⟩, rfl⟩
          · refine J_iincN (pc := 67) (b := 2) dJ6_numberOfTrailingZeros_0f7a4_67 rfl (by decide) (by decide) rfl ?_
            show J X mJ6_numberOfTrailingZeros_0f7a4 d kc ks 70 [some (.int (nI m)), some (.int (nI 3))] [] w _
            refine J_iload_n (pc := 70) dJ6_numberOfTrailingZeros_0f7a4_70 rfl rfl ?_
            refine J_iconst (pc := 71) (v := nI 2) dJ6_numberOfTrailingZeros_0f7a4_71 (by decide) ?_
            refine J_iushrN (pc := 72) dJ6_numberOfTrailingZeros_0f7a4_72 (by omega) (by decide) ?_
            have hm12 := Nat.div_le_self m (2 ^ 2)
            refine J_istore_n (pc := 73) dJ6_numberOfTrailingZeros_0f7a4_73 rfl (by decide) rfl ?_
            show J X mJ6_numberOfTrailingZeros_0f7a4 d kc ks 74 [some (.int (nI (m / 2 ^ 2))), some (.int (nI 3))] [] w _
            refine J_iload_n (pc := 74) dJ6_numberOfTrailingZeros_0f7a4_74 rfl rfl ?_
            refine J_iload_n (pc := 75) dJ6_numberOfTrailingZeros_0f7a4_75 rfl rfl ?_
            refine J_iconst (pc := 76) (v := nI 1) dJ6_numberOfTrailingZeros_0f7a4_76 (by decide) ?_
            refine J_iushrN (pc := 77) dJ6_numberOfTrailingZeros_0f7a4_77 (by omega) (by decide) ?_
            have hm13 := Nat.div_le_self (m / 2 ^ 2) (2 ^ 1)
            refine J_iaddN (pc := 78) dJ6_numberOfTrailingZeros_0f7a4_78 ?_
            exact J_iret (pc := 79) dJ6_numberOfTrailingZeros_0f7a4_79 rfl ⟨⟨3 + ((m / 2 ^ 2) / 2 ^ 1), rfl, by have e : 3 + ((m / 2 ^ 2) / 2 ^ 1) = t := (by rw [← hz]; unfold ntz; (first | rw [if_pos (by omega)] | rw [if_neg (by omega)]); unfold ntz0; (first | rw [if_pos (by omega)] | rw [if_neg (by omega)]); unfold ntz1; (first | rw [if_pos (by omega)] | rw [if_neg (by omega)]); unfold ntz2; (first | rw [if_pos (by omega)] | rw [if_neg (by omega)]); unfold ntz3; (first | rw [if_pos (by omega)] | rw [if_neg (by omega)]); unfold ntz4; rfl); rw [e]; exact ⟨ht, hb⟩⟩, rfl⟩
        · refine J_iincN (pc := 55) (b := 4) dJ6_numberOfTrailingZeros_0f7a4_55 rfl (by decide) (by decide) rfl ?_
          show J X mJ6_numberOfTrailingZeros_0f7a4 d kc ks 58 [some (.int (nI m)), some (.int (nI 5))] [] w _
          refine J_iload_n (pc := 58) dJ6_numberOfTrailingZeros_0f7a4_58 rfl rfl ?_
          refine J_iconst (pc := 59) (v := nI 4) dJ6_numberOfTrailingZeros_0f7a4_59 (by decide) ?_
          refine J_iushrN (pc := 60) dJ6_numberOfTrailingZeros_0f7a4_60 (by omega) (by decide) ?_
          have hm14 := Nat.div_le_self m (2 ^ 4)
          refine J_istore_n (pc := 61) dJ6_numberOfTrailingZeros_0f7a4_61 rfl (by decide) rfl ?_
          show J X mJ6_numberOfTrailingZeros_0f7a4 d kc ks 62 [some (.int (nI (m / 2 ^ 4))), some (.int (nI 5))] [] w _
          refine J_iload_n (pc := 62) dJ6_numberOfTrailingZeros_0f7a4_62 rfl rfl ?_
          refine J_iconst (pc := 63) (v := nI 4) dJ6_numberOfTrailingZeros_0f7a4_63 (by decide) ?_
          refine J_icmp_leN (pc := 64) (tgt := 74) dJ6_numberOfTrailingZeros_0f7a4_64 (by decide) (by omega) (by omega) (fun ht15 => ?_) (fun hf16 => ?_)
          · refine J_iload_n (pc := 74) dJ6_numberOfTrailingZeros_0f7a4_74 rfl rfl ?_
            refine J_iload_n (pc := 75) dJ6_numberOfTrailingZeros_0f7a4_75 rfl rfl ?_
            refine J_iconst (pc := 76) (v := nI 1) dJ6_numberOfTrailingZeros_0f7a4_76 (by decide) ?_
            refine J_iushrN (pc := 77) dJ6_numberOfTrailingZeros_0f7a4_77 (by omega) (by decide) ?_
            have hm17 := Nat.div_le_self (m / 2 ^ 4) (2 ^ 1)
            refine J_iaddN (pc := 78) dJ6_numberOfTrailingZeros_0f7a4_78 ?_
            exact J_iret (pc := 79) dJ6_numberOfTrailingZeros_0f7a4_79 rfl ⟨⟨5 + ((m / 2 ^ 4) / 2 ^ 1), rfl, by have e : 5 + ((m / 2 ^ 4) / 2 ^ 1) = t := (by rw [← hz]; unfold ntz; (first | rw [if_pos (by omega)] | rw [if_neg (by omega)]); unfold ntz0; (first | rw [if_pos (by omega)] | rw [if_neg (by omega)]); unfold ntz1; (first | rw [if_pos (by omega)] | rw [if_neg (by omega)]); unfold ntz2; (first | rw [if_pos (by omega)] | rw [if_neg (by omega)]); unfold ntz3; (first | rw [if_pos (by omega)] | rw [if_neg (by omega)]); unfold ntz4; rfl); rw [e]; exact ⟨ht, hb⟩⟩, rfl⟩
          · refine J_iincN (pc := 67) (b := 2) dJ6_numberOfTrailingZeros_0f7a4_67 rfl (by decide) (by decide) rfl ?_
            show J X mJ6_numberOfTrailingZeros_0f7a4 d kc ks 70 [some (.int (nI (m / 2 ^ 4))), some (.int (nI 7))] [] w _
            refine J_iload_n (pc := 70) dJ6_numberOfTrailingZeros_0f7a4_70 rfl rfl ?_
            refine J_iconst (pc := 71) (v := nI 2) dJ6_numberOfTrailingZeros_0f7a4_71 (by decide) ?_
            refine J_iushrN (pc := 72) dJ6_numberOfTrailingZeros_0f7a4_72 (by omega) (by decide) ?_
            have hm18 := Nat.div_le_self (m / 2 ^ 4) (2 ^ 2)
            refine J_istore_n (pc := 73) dJ6_numberOfTrailingZeros_0f7a4_73 rfl (by decide) rfl ?_
            show J X mJ6_numberOfTrailingZeros_0f7a4 d kc ks 74 [some (.int (nI ((m / 2 ^ 4) / 2 ^ 2))), some (.int (nI 7))] [] w _
            refine J_iload_n (pc := 74) dJ6_numberOfTrailingZeros_0f7a4_74 rfl rfl ?_
            refine J_iload_n (pc := 75) dJ6_numberOfTrailingZeros_0f7a4_75 rfl rfl ?_
            refine J_iconst (pc := 76) (v := nI 1) dJ6_numberOfTrailingZeros_0f7a4_76 (by decide) ?_
            refine J_iushrN (pc := 77) dJ6_numberOfTrailingZeros_0f7a4_77 (by omega) (by decide) ?_
            have hm19 := Nat.div_le_self ((m / 2 ^ 4) / 2 ^ 2) (2 ^ 1)
            refine J_iaddN (pc := 78) dJ6_numberOfTrailingZeros_0f7a4_78 ?_
            exact J_iret (pc := 79) dJ6_numberOfTrailingZeros_0f7a4_79 rfl ⟨⟨7 + (((m / 2 ^ 4) / 2 ^ 2) / 2 ^ 1), rfl, by have e : 7 + (((m / 2 ^ 4) / 2 ^ 2) / 2 ^ 1) = t := (by rw [← hz]; unfold ntz; (first | rw [if_pos (by omega)] | rw [if_neg (by omega)]); unfold ntz0; (first | rw [if_pos (by omega)] | rw [if_neg (by omega)]); unfold ntz1; (first | rw [if_pos (by omega)] | rw [if_neg (by omega)]); unfold ntz2; (first | rw [if_pos (by omega)] | rw [if_neg (by omega)]); unfold ntz3; (first | rw [if_pos (by omega)] | rw [if_neg (by omega)]); unfold ntz4; rfl); rw [e]; exact ⟨ht, hb⟩⟩, rfl⟩
      · refine J_iincN (pc := 41) (b := 8) dJ6_numberOfTrailingZeros_0f7a4_41 rfl (by decide) (by decide) rfl ?_
        show J X mJ6_numberOfTrailingZeros_0f7a4 d kc ks 44 [some (.int (nI m)), some (.int (nI 9))] [] w _
        refine J_iload_n (pc := 44) dJ6_numberOfTrailingZeros_0f7a4_44 rfl rfl ?_
        refine J_bipush (pc := 45) (v := nI 8) dJ6_numberOfTrailingZeros_0f7a4_45 (by decide) ?_
        refine J_iushrN (pc := 47) dJ6_numberOfTrailingZeros_0f7a4_47 (by omega) (by decide) ?_
        have hm20 := Nat.div_le_self m (2 ^ 8)
        refine J_istore_n (pc := 48) dJ6_numberOfTrailingZeros_0f7a4_48 rfl (by decide) rfl ?_
        show J X mJ6_numberOfTrailingZeros_0f7a4 d kc ks 49 [some (.int (nI (m / 2 ^ 8))), some (.int (nI 9))] [] w _
        refine J_iload_n (pc := 49) dJ6_numberOfTrailingZeros_0f7a4_49 rfl rfl ?_
        refine J_bipush (pc := 50) (v := nI 16) dJ6_numberOfTrailingZeros_0f7a4_50 (by decide) ?_
        refine J_icmp_leN (pc := 52) (tgt := 62) dJ6_numberOfTrailingZeros_0f7a4_52 (by decide) (by omega) (by omega) (fun ht21 => ?_) (fun hf22 => ?_)
        · refine J_iload_n (pc := 62) dJ6_numberOfTrailingZeros_0f7a4_62 rfl rfl ?_
          refine J_iconst (pc := 63) (v := nI 4) dJ6_numberOfTrailingZeros_0f7a4_63 (by decide) ?_
          refine J_icmp_leN (pc := 64) (tgt := 74) dJ6_numberOfTrailingZeros_0f7a4_64 (by decide) (by omega) (by omega) (fun ht23 => ?_) (fun hf24 => ?_)
          · refine J_iload_n (pc := 74) dJ6_numberOfTrailingZeros_0f7a4_74 rfl rfl ?_
            refine J_iload_n (pc := 75) dJ6_numberOfTrailingZeros_0f7a4_75 rfl rfl ?_
            refine J_iconst (pc := 76) (v := nI 1) dJ6_numberOfTrailingZeros_0f7a4_76 (by decide) ?_
            refine J_iushrN (pc := 77) dJ6_numberOfTrailingZeros_0f7a4_77 (by omega) (by decide) ?_
            have hm25 := Nat.div_le_self (m / 2 ^ 8) (2 ^ 1)
            refine J_iaddN (pc := 78) dJ6_numberOfTrailingZeros_0f7a4_78 ?_
            exact J_iret (pc := 79) dJ6_numberOfTrailingZeros_0f7a4_79 rfl ⟨⟨9 + ((m / 2 ^ 8) / 2 ^ 1), rfl, by have e : 9 + ((m / 2 ^ 8) / 2 ^ 1) = t := (by rw [← hz]; unfold ntz; (first | rw [if_pos (by omega)] | rw [if_neg (by omega)]); unfold ntz0; (first | rw [if_pos (by omega)] | rw [if_neg (by omega)]); unfold ntz1; (first | rw [if_pos (by omega)] | rw [if_neg (by omega)]); unfold ntz2; (first | rw [if_pos (by omega)] | rw [if_neg (by omega)]); unfold ntz3; (first | rw [if_pos (by omega)] | rw [if_neg (by omega)]); unfold ntz4; rfl); rw [e]; exact ⟨ht, hb⟩⟩, rfl⟩
          · refine J_iincN (pc := 67) (b := 2) dJ6_numberOfTrailingZeros_0f7a4_67 rfl (by decide) (by decide) rfl ?_
            show J X mJ6_numberOfTrailingZeros_0f7a4 d kc ks 70 [some (.int (nI (m / 2 ^ 8))), some (.int (nI 11))] [] w _
            refine J_iload_n (pc := 70) dJ6_numberOfTrailingZeros_0f7a4_70 rfl rfl ?_
            refine J_iconst (pc := 71) (v := nI 2) dJ6_numberOfTrailingZeros_0f7a4_71 (by decide) ?_
            refine J_iushrN (pc := 72) dJ6_numberOfTrailingZeros_0f7a4_72 (by omega) (by decide) ?_
            have hm26 := Nat.div_le_self (m / 2 ^ 8) (2 ^ 2)
            refine J_istore_n (pc := 73) dJ6_numberOfTrailingZeros_0f7a4_73 rfl (by decide) rfl ?_
            show J X mJ6_numberOfTrailingZeros_0f7a4 d kc ks 74 [some (.int (nI ((m / 2 ^ 8) / 2 ^ 2))), some (.int (nI 11))] [] w _
            refine J_iload_n (pc := 74) dJ6_numberOfTrailingZeros_0f7a4_74 rfl rfl ?_
            refine J_iload_n (pc := 75) dJ6_numberOfTrailingZeros_0f7a4_75 rfl rfl ?_
            refine J_iconst (pc := 76) (v := nI 1) dJ6_numberOfTrailingZeros_0f7a4_76 (by decide) ?_
            refine J_iushrN (pc := 77) dJ6_numberOfTrailingZeros_0f7a4_77 (by omega) (by decide) ?_
            have hm27 := Nat.div_le_self ((m / 2 ^ 8) / 2 ^ 2) (2 ^ 1)
            refine J_iaddN (pc := 78) dJ6_numberOfTrailingZeros_0f7a4_78 ?_
            exact J_iret (pc := 79) dJ6_numberOfTrailingZeros_0f7a4_79 rfl ⟨⟨11 + (((m / 2 ^ 8) / 2 ^ 2) / 2 ^ 1), rfl, by have e : 11 + (((m / 2 ^ 8) / 2 ^ 2) / 2 ^ 1) = t := (by rw [← hz]; unfold ntz; (first | rw [if_pos (by omega)] | rw [if_neg (by omega)]); unfold ntz0; (first | rw [if_pos (by omega)] | rw [if_neg (by omega)]); unfold ntz1; (first | rw [if_pos (by omega)] | rw [if_neg (by omega)]); unfold ntz2; (first | rw [if_pos (by omega)] | rw [if_neg (by omega)]); unfold ntz3; (first | rw [if_pos (by omega)] | rw [if_neg (by omega)]); unfold ntz4; rfl); rw [e]; exact ⟨ht, hb⟩⟩, rfl⟩
        · refine J_iincN (pc := 55) (b := 4) dJ6_numberOfTrailingZeros_0f7a4_55 rfl (by decide) (by decide) rfl ?_
          show J X mJ6_numberOfTrailingZeros_0f7a4 d kc ks 58 [some (.int (nI (m / 2 ^ 8))), some (.int (nI 13))] [] w _
          refine J_iload_n (pc := 58) dJ6_numberOfTrailingZeros_0f7a4_58 rfl rfl ?_
          refine J_iconst (pc := 59) (v := nI 4) dJ6_numberOfTrailingZeros_0f7a4_59 (by decide) ?_
          refine J_iushrN (pc := 60) dJ6_numberOfTrailingZeros_0f7a4_60 (by omega) (by decide) ?_
          have hm28 := Nat.div_le_self (m / 2 ^ 8) (2 ^ 4)
          refine J_istore_n (pc := 61) dJ6_numberOfTrailingZeros_0f7a4_61 rfl (by decide) rfl ?_
          show J X mJ6_numberOfTrailingZeros_0f7a4 d kc ks 62 [some (.int (nI ((m / 2 ^ 8) / 2 ^ 4))), some (.int (nI 13))] [] w _
          refine J_iload_n (pc := 62) dJ6_numberOfTrailingZeros_0f7a4_62 rfl rfl ?_
          refine J_iconst (pc := 63) (v := nI 4) dJ6_numberOfTrailingZeros_0f7a4_63 (by decide) ?_
          refine J_icmp_leN (pc := 64) (tgt := 74) dJ6_numberOfTrailingZeros_0f7a4_64 (by decide) (by omega) (by omega) (fun ht29 => ?_) (fun hf30 => ?_)
          · refine J_iload_n (pc := 74) dJ6_numberOfTrailingZeros_0f7a4_74 rfl rfl ?_
            refine J_iload_n (pc := 75) dJ6_numberOfTrailingZeros_0f7a4_75 rfl rfl ?_
            refine J_iconst (pc := 76) (v := nI 1) dJ6_numberOfTrailingZeros_0f7a4_76 (by decide) ?_
            refine J_iushrN (pc := 77) dJ6_numberOfTrailingZeros_0f7a4_77 (by omega) (by decide) ?_
            have hm31 := Nat.div_le_self ((m / 2 ^ 8) / 2 ^ 4) (2 ^ 1)
            refine J_iaddN (pc := 78) dJ6_numberOfTrailingZeros_0f7a4_78 ?_
            exact J_iret (pc := 79) dJ6_numberOfTrailingZeros_0f7a4_79 rfl ⟨⟨13 + (((m / 2 ^ 8) / 2 ^ 4) / 2 ^ 1), rfl, by have e : 13 + (((m / 2 ^ 8) / 2 ^ 4) / 2 ^ 1) = t := (by rw [← hz]; unfold ntz; (first | rw [if_pos (by omega)] | rw [if_neg (by omega)]); unfold ntz0; (first | rw [if_pos (by omega)] | rw [if_neg (by omega)]); unfold ntz1; (first | rw [if_pos (by omega)] | rw [if_neg (by omega)]); unfold ntz2; (first | rw [if_pos (by omega)] | rw [if_neg (by omega)]); unfold ntz3; (first | rw [if_pos (by omega)] | rw [if_neg (by omega)]); unfold ntz4; rfl); rw [e]; exact ⟨ht, hb⟩⟩, rfl⟩
          · refine J_iincN (pc := 67) (b := 2) dJ6_numberOfTrailingZeros_0f7a4_67 rfl (by decide) (by decide) rfl ?_
            show J X mJ6_numberOfTrailingZeros_0f7a4 d kc ks 70 [some (.int (nI ((m / 2 ^ 8) / 2 ^ 4))), some (.int (nI 15))] [] w _
            refine J_iload_n (pc := 70) dJ6_numberOfTrailingZeros_0f7a4_70 rfl rfl ?_
            refine J_iconst (pc := 71) (v := nI 2) dJ6_numberOfTrailingZeros_0f7a4_71 (by decide) ?_
            refine J_iushrN (pc := 72) dJ6_numberOfTrailingZeros_0f7a4_72 (by omega) (by decide) ?_
            have hm32 := Nat.div_le_self ((m / 2 ^ 8) / 2 ^ 4) (2 ^ 2)
            refine J_istore_n (pc := 73) dJ6_numberOfTrailingZeros_0f7a4_73 rfl (by decide) rfl ?_
            show J X mJ6_numberOfTrailingZeros_0f7a4 d kc ks 74 [some (.int (nI (((m / 2 ^ 8) / 2 ^ 4) / 2 ^ 2))), some (.int (nI 15))] [] w _
            refine J_iload_n (pc := 74) dJ6_numberOfTrailingZeros_0f7a4_74 rfl rfl ?_
            refine J_iload_n (pc := 75) dJ6_numberOfTrailingZeros_0f7a4_75 rfl rfl ?_
            refine J_iconst (pc := 76) (v := nI 1) dJ6_numberOfTrailingZeros_0f7a4_76 (by decide) ?_
            refine J_iushrN (pc := 77) dJ6_numberOfTrailingZeros_0f7a4_77 (by omega) (by decide) ?_
            have hm33 := Nat.div_le_self (((m / 2 ^ 8) / 2 ^ 4) / 2 ^ 2) (2 ^ 1)
            refine J_iaddN (pc := 78) dJ6_numberOfTrailingZeros_0f7a4_78 ?_
            exact J_iret (pc := 79) dJ6_numberOfTrailingZeros_0f7a4_79 rfl ⟨⟨15 + ((((m / 2 ^ 8) / 2 ^ 4) / 2 ^ 2) / 2 ^ 1), rfl, by have e : 15 + ((((m / 2 ^ 8) / 2 ^ 4) / 2 ^ 2) / 2 ^ 1) = t := (by rw [← hz]; unfold ntz; (first | rw [if_pos (by omega)] | rw [if_neg (by omega)]); unfold ntz0; (first | rw [if_pos (by omega)] | rw [if_neg (by omega)]); unfold ntz1; (first | rw [if_pos (by omega)] | rw [if_neg (by omega)]); unfold ntz2; (first | rw [if_pos (by omega)] | rw [if_neg (by omega)]); unfold ntz3; (first | rw [if_pos (by omega)] | rw [if_neg (by omega)]); unfold ntz4; rfl); rw [e]; exact ⟨ht, hb⟩⟩, rfl⟩
    · refine J_iincN (pc := 26) (b := 16) dJ6_numberOfTrailingZeros_0f7a4_26 rfl (by decide) (by decide) rfl ?_
      show J X mJ6_numberOfTrailingZeros_0f7a4 d kc ks 29 [some (.int (nI m)), some (.int (nI 17))] [] w _
      refine J_iload_n (pc := 29) dJ6_numberOfTrailingZeros_0f7a4_29 rfl rfl ?_
      refine J_bipush (pc := 30) (v := nI 16) dJ6_numberOfTrailingZeros_0f7a4_30 (by decide) ?_
      refine J_iushrN (pc := 32) dJ6_numberOfTrailingZeros_0f7a4_32 (by omega) (by decide) ?_
      have hm34 := Nat.div_le_self m (2 ^ 16)
      refine J_istore_n (pc := 33) dJ6_numberOfTrailingZeros_0f7a4_33 rfl (by decide) rfl ?_
      show J X mJ6_numberOfTrailingZeros_0f7a4 d kc ks 34 [some (.int (nI (m / 2 ^ 16))), some (.int (nI 17))] [] w _
      refine J_iload_n (pc := 34) dJ6_numberOfTrailingZeros_0f7a4_34 rfl rfl ?_
      refine J_sipush (pc := 35) (v := nI 256) dJ6_numberOfTrailingZeros_0f7a4_35 (by decide) ?_
      refine J_icmp_leN (pc := 38) (tgt := 49) dJ6_numberOfTrailingZeros_0f7a4_38 (by decide) (by omega) (by omega) (fun ht35 => ?_) (fun hf36 => ?_)
      · refine J_iload_n (pc := 49) dJ6_numberOfTrailingZeros_0f7a4_49 rfl rfl ?_
        refine J_bipush (pc := 50) (v := nI 16) dJ6_numberOfTrailingZeros_0f7a4_50 (by decide) ?_
        refine J_icmp_leN (pc := 52) (tgt := 62) dJ6_numberOfTrailingZeros_0f7a4_52 (by decide) (by omega) (by omega) (fun ht37 => ?_) (fun hf38 => ?_)
        · refine J_iload_n (pc := 62) dJ6_numberOfTrailingZeros_0f7a4_62 rfl rfl ?_
          refine J_iconst (pc := 63) (v := nI 4) dJ6_numberOfTrailingZeros_0f7a4_63 (by decide) ?_
          refine J_icmp_leN (pc := 64) (tgt := 74) dJ6_numberOfTrailingZeros_0f7a4_64 (by decide) (by omega) (by omega) (fun ht39 => ?_) (fun hf40 => ?_)
          · refine J_iload_n (pc := 74) dJ6_numberOfTrailingZeros_0f7a4_74 rfl rfl ?_
            refine J_iload_n (pc := 75) dJ6_numberOfTrailingZeros_0f7a4_75 rfl rfl ?_
            refine J_iconst (pc := 76) (v := nI 1) dJ6_numberOfTrailingZeros_0f7a4_76 (by decide) ?_
            refine J_iushrN (pc := 77) dJ6_numberOfTrailingZeros_0f7a4_77 (by omega) (by decide) ?_
            have hm41 := Nat.div_le_self (m / 2 ^ 16) (2 ^ 1)
            refine J_iaddN (pc := 78) dJ6_numberOfTrailingZeros_0f7a4_78 ?_
            exact J_iret (pc := 79) dJ6_numberOfTrailingZeros_0f7a4_79 rfl ⟨⟨17 + ((m / 2 ^ 16) / 2 ^ 1), rfl, by have e : 17 + ((m / 2 ^ 16) / 2 ^ 1) = t := (by rw [← hz]; unfold ntz; (first | rw [if_pos (by omega)] | rw [if_neg (by omega)]); unfold ntz0; (first | rw [if_pos (by omega)] | rw [if_neg (by omega)]); unfold ntz1; (first | rw [if_pos (by omega)] | rw [if_neg (by omega)]); unfold ntz2; (first | rw [if_pos (by omega)] | rw [if_neg (by omega)]); unfold ntz3; (first | rw [if_pos (by omega)] | rw [if_neg (by omega)]); unfold ntz4; rfl); rw [e]; exact ⟨ht, hb⟩⟩, rfl⟩
          · refine J_iincN (pc := 67) (b := 2) dJ6_numberOfTrailingZeros_0f7a4_67 rfl (by decide) (by decide) rfl ?_
            show J X mJ6_numberOfTrailingZeros_0f7a4 d kc ks 70 [some (.int (nI (m / 2 ^ 16))), some (.int (nI 19))] [] w _
            refine J_iload_n (pc := 70) dJ6_numberOfTrailingZeros_0f7a4_70 rfl rfl ?_
            refine J_iconst (pc := 71) (v := nI 2) dJ6_numberOfTrailingZeros_0f7a4_71 (by decide) ?_
            refine J_iushrN (pc := 72) dJ6_numberOfTrailingZeros_0f7a4_72 (by omega) (by decide) ?_
            have hm42 := Nat.div_le_self (m / 2 ^ 16) (2 ^ 2)
            refine J_istore_n (pc := 73) dJ6_numberOfTrailingZeros_0f7a4_73 rfl (by decide) rfl ?_
            show J X mJ6_numberOfTrailingZeros_0f7a4 d kc ks 74 [some (.int (nI ((m / 2 ^ 16) / 2 ^ 2))), some (.int (nI 19))] [] w _
            refine J_iload_n (pc := 74) dJ6_numberOfTrailingZeros_0f7a4_74 rfl rfl ?_
            refine J_iload_n (pc := 75) dJ6_numberOfTrailingZeros_0f7a4_75 rfl rfl ?_
            refine J_iconst (pc := 76) (v := nI 1) dJ6_numberOfTrailingZeros_0f7a4_76 (by decide) ?_
            refine J_iushrN (pc := 77) dJ6_numberOfTrailingZeros_0f7a4_77 (by omega) (by decide) ?_
            have hm43 := Nat.div_le_self ((m / 2 ^ 16) / 2 ^ 2) (2 ^ 1)
            refine J_iaddN (pc := 78) dJ6_numberOfTrailingZeros_0f7a4_78 ?_
            exact J_iret (pc := 79) dJ6_numberOfTrailingZeros_0f7a4_79 rfl ⟨⟨19 + (((m / 2 ^ 16) / 2 ^ 2) / 2 ^ 1), rfl, by have e : 19 + (((m / 2 ^ 16) / 2 ^ 2) / 2 ^ 1) = t := (by rw [← hz]; unfold ntz; (first | rw [if_pos (by omega)] | rw [if_neg (by omega)]); unfold ntz0; (first | rw [if_pos (by omega)] | rw [if_neg (by omega)]); unfold ntz1; (first | rw [if_pos (by omega)] | rw [if_neg (by omega)]); unfold ntz2; (first | rw [if_pos (by omega)] | rw [if_neg (by omega)]); unfold ntz3; (first | rw [if_pos (by omega)] | rw [if_neg (by omega)]); unfold ntz4; rfl); rw [e]; exact ⟨ht, hb⟩⟩, rfl⟩
        · refine J_iincN (pc := 55) (b := 4) dJ6_numberOfTrailingZeros_0f7a4_55 rfl (by decide) (by decide) rfl ?_
          show J X mJ6_numberOfTrailingZeros_0f7a4 d kc ks 58 [some (.int (nI (m / 2 ^ 16))), some (.int (nI 21))] [] w _
          refine J_iload_n (pc := 58) dJ6_numberOfTrailingZeros_0f7a4_58 rfl rfl ?_
          refine J_iconst (pc := 59) (v := nI 4) dJ6_numberOfTrailingZeros_0f7a4_59 (by decide) ?_
          refine J_iushrN (pc := 60) dJ6_numberOfTrailingZeros_0f7a4_60 (by omega) (by decide) ?_
          have hm44 := Nat.div_le_self (m / 2 ^ 16) (2 ^ 4)
          refine J_istore_n (pc := 61) dJ6_numberOfTrailingZeros_0f7a4_61 rfl (by decide) rfl ?_
          show J X mJ6_numberOfTrailingZeros_0f7a4 d kc ks 62 [some (.int (nI ((m / 2 ^ 16) / 2 ^ 4))), some (.int (nI 21))] [] w _
          refine J_iload_n (pc := 62) dJ6_numberOfTrailingZeros_0f7a4_62 rfl rfl ?_
          refine J_iconst (pc := 63) (v := nI 4) dJ6_numberOfTrailingZeros_0f7a4_63 (by decide) ?_
          refine J_icmp_leN (pc := 64) (tgt := 74) dJ6_numberOfTrailingZeros_0f7a4_64 (by decide) (by omega) (by omega) (fun ht45 => ?_) (fun hf46 => ?_)
          · refine J_iload_n (pc := 74) dJ6_numberOfTrailingZeros_0f7a4_74 rfl rfl ?_
            refine J_iload_n (pc := 75) dJ6_numberOfTrailingZeros_0f7a4_75 rfl rfl ?_
            refine J_iconst (pc := 76) (v := nI 1) dJ6_numberOfTrailingZeros_0f7a4_76 (by decide) ?_
            refine J_iushrN (pc := 77) dJ6_numberOfTrailingZeros_0f7a4_77 (by omega) (by decide) ?_
            have hm47 := Nat.div_le_self ((m / 2 ^ 16) / 2 ^ 4) (2 ^ 1)
            refine J_iaddN (pc := 78) dJ6_numberOfTrailingZeros_0f7a4_78 ?_
            exact J_iret (pc := 79) dJ6_numberOfTrailingZeros_0f7a4_79 rfl ⟨⟨21 + (((m / 2 ^ 16) / 2 ^ 4) / 2 ^ 1), rfl, by have e : 21 + (((m / 2 ^ 16) / 2 ^ 4) / 2 ^ 1) = t := (by rw [← hz]; unfold ntz; (first | rw [if_pos (by omega)] | rw [if_neg (by omega)]); unfold ntz0; (first | rw [if_pos (by omega)] | rw [if_neg (by omega)]); unfold ntz1; (first | rw [if_pos (by omega)] | rw [if_neg (by omega)]); unfold ntz2; (first | rw [if_pos (by omega)] | rw [if_neg (by omega)]); unfold ntz3; (first | rw [if_pos (by omega)] | rw [if_neg (by omega)]); unfold ntz4; rfl); rw [e]; exact ⟨ht, hb⟩⟩, rfl⟩
          · refine J_iincN (pc := 67) (b := 2) dJ6_numberOfTrailingZeros_0f7a4_67 rfl (by decide) (by decide) rfl ?_
            show J X mJ6_numberOfTrailingZeros_0f7a4 d kc ks 70 [some (.int (nI ((m / 2 ^ 16) / 2 ^ 4))), some (.int (nI 23))] [] w _
            refine J_iload_n (pc := 70) dJ6_numberOfTrailingZeros_0f7a4_70 rfl rfl ?_
            refine J_iconst (pc := 71) (v := nI 2) dJ6_numberOfTrailingZeros_0f7a4_71 (by decide) ?_
            refine J_iushrN (pc := 72) dJ6_numberOfTrailingZeros_0f7a4_72 (by omega) (by decide) ?_
            have hm48 := Nat.div_le_self ((m / 2 ^ 16) / 2 ^ 4) (2 ^ 2)
            refine J_istore_n (pc := 73) dJ6_numberOfTrailingZeros_0f7a4_73 rfl (by decide) rfl ?_
            show J X mJ6_numberOfTrailingZeros_0f7a4 d kc ks 74 [some (.int (nI (((m / 2 ^ 16) / 2 ^ 4) / 2 ^ 2))), some (.int (nI 23))] [] w _
            refine J_iload_n (pc := 74) dJ6_numberOfTrailingZeros_0f7a4_74 rfl rfl ?_
            refine J_iload_n (pc := 75) dJ6_numberOfTrailingZeros_0f7a4_75 rfl rfl ?_
            refine J_iconst (pc := 76) (v := nI 1) dJ6_numberOfTrailingZeros_0f7a4_76 (by decide) ?_
            refine J_iushrN (pc := 77) dJ6_numberOfTrailingZeros_0f7a4_77 (by omega) (by decide) ?_
            have hm49 := Nat.div_le_self (((m / 2 ^ 16) / 2 ^ 4) / 2 ^ 2) (2 ^ 1)
            refine J_iaddN (pc := 78) dJ6_numberOfTrailingZeros_0f7a4_78 ?_
            exact J_iret (pc := 79) dJ6_numberOfTrailingZeros_0f7a4_79 rfl ⟨⟨23 + ((((m / 2 ^ 16) / 2 ^ 4) / 2 ^ 2) / 2 ^ 1), rfl, by have e : 23 + ((((m / 2 ^ 16) / 2 ^ 4) / 2 ^ 2) / 2 ^ 1) = t := (by rw [← hz]; unfold ntz; (first | rw [if_pos (by omega)] | rw [if_neg (by omega)]); unfold ntz0; (first | rw [if_pos (by omega)] | rw [if_neg (by omega)]); unfold ntz1; (first | rw [if_pos (by omega)] | rw [if_neg (by omega)]); unfold ntz2; (first | rw [if_pos (by omega)] | rw [if_neg (by omega)]); unfold ntz3; (first | rw [if_pos (by omega)] | rw [if_neg (by omega)]); unfold ntz4; rfl); rw [e]; exact ⟨ht, hb⟩⟩, rfl⟩
      · refine J_iincN (pc := 41) (b := 8) dJ6_numberOfTrailingZeros_0f7a4_41 rfl (by decide) (by decide) rfl ?_
        show J X mJ6_numberOfTrailingZeros_0f7a4 d kc ks 44 [some (.int (nI (m / 2 ^ 16))), some (.int (nI 25))] [] w _
        refine J_iload_n (pc := 44) dJ6_numberOfTrailingZeros_0f7a4_44 rfl rfl ?_
        refine J_bipush (pc := 45) (v := nI 8) dJ6_numberOfTrailingZeros_0f7a4_45 (by decide) ?_
        refine J_iushrN (pc := 47) dJ6_numberOfTrailingZeros_0f7a4_47 (by omega) (by decide) ?_
        have hm50 := Nat.div_le_self (m / 2 ^ 16) (2 ^ 8)
        refine J_istore_n (pc := 48) dJ6_numberOfTrailingZeros_0f7a4_48 rfl (by decide) rfl ?_
        show J X mJ6_numberOfTrailingZeros_0f7a4 d kc ks 49 [some (.int (nI ((m / 2 ^ 16) / 2 ^ 8))), some (.int (nI 25))] [] w _
        refine J_iload_n (pc := 49) dJ6_numberOfTrailingZeros_0f7a4_49 rfl rfl ?_
        refine J_bipush (pc := 50) (v := nI 16) dJ6_numberOfTrailingZeros_0f7a4_50 (by decide) ?_
        refine J_icmp_leN (pc := 52) (tgt := 62) dJ6_numberOfTrailingZeros_0f7a4_52 (by decide) (by omega) (by omega) (fun ht51 => ?_) (fun hf52 => ?_)
        · refine J_iload_n (pc := 62) dJ6_numberOfTrailingZeros_0f7a4_62 rfl rfl ?_
          refine J_iconst (pc := 63) (v := nI 4) dJ6_numberOfTrailingZeros_0f7a4_63 (by decide) ?_
          refine J_icmp_leN (pc := 64) (tgt := 74) dJ6_numberOfTrailingZeros_0f7a4_64 (by decide) (by omega) (by omega) (fun ht53 => ?_) (fun hf54 => ?_)
          · refine J_iload_n (pc := 74) dJ6_numberOfTrailingZeros_0f7a4_74 rfl rfl ?_
            refine J_iload_n (pc := 75) dJ6_numberOfTrailingZeros_0f7a4_75 rfl rfl ?_
            refine J_iconst (pc := 76) (v := nI 1) dJ6_numberOfTrailingZeros_0f7a4_76 (by decide) ?_
            refine J_iushrN (pc := 77) dJ6_numberOfTrailingZeros_0f7a4_77 (by omega) (by decide) ?_
            have hm55 := Nat.div_le_self ((m / 2 ^ 16) / 2 ^ 8) (2 ^ 1)
            refine J_iaddN (pc := 78) dJ6_numberOfTrailingZeros_0f7a4_78 ?_
            exact J_iret (pc := 79) dJ6_numberOfTrailingZeros_0f7a4_79 rfl ⟨⟨25 + (((m / 2 ^ 16) / 2 ^ 8) / 2 ^ 1), rfl, by have e : 25 + (((m / 2 ^ 16) / 2 ^ 8) / 2 ^ 1) = t := (by rw [← hz]; unfold ntz; (first | rw [if_pos (by omega)] | rw [if_neg (by omega)]); unfold ntz0; (first | rw [if_pos (by omega)] | rw [if_neg (by omega)]); unfold ntz1; (first | rw [if_pos (by omega)] | rw [if_neg (by omega)]); unfold ntz2; (first | rw [if_pos (by omega)] | rw [if_neg (by omega)]); unfold ntz3; (first | rw [if_pos (by omega)] | rw [if_neg (by omega)]); unfold ntz4; rfl); rw [e]; exact ⟨ht, hb⟩⟩, rfl⟩
          · refine J_iincN (pc := 67) (b := 2) dJ6_numberOfTrailingZeros_0f7a4_67 rfl (by decide) (by decide) rfl ?_
            show J X mJ6_numberOfTrailingZeros_0f7a4 d kc ks 70 [some (.int (nI ((m / 2 ^ 16) / 2 ^ 8))), some (.int (nI 27))] [] w _
            refine J_iload_n (pc := 70) dJ6_numberOfTrailingZeros_0f7a4_70 rfl rfl ?_
            refine J_iconst (pc := 71) (v := nI 2) dJ6_numberOfTrailingZeros_0f7a4_71 (by decide) ?_
            refine J_iushrN (pc := 72) dJ6_numberOfTrailingZeros_0f7a4_72 (by omega) (by decide) ?_
            have hm56 := Nat.div_le_self ((m / 2 ^ 16) / 2 ^ 8) (2 ^ 2)
            refine J_istore_n (pc := 73) dJ6_numberOfTrailingZeros_0f7a4_73 rfl (by decide) rfl ?_
            show J X mJ6_numberOfTrailingZeros_0f7a4 d kc ks 74 [some (.int (nI (((m / 2 ^ 16) / 2 ^ 8) / 2 ^ 2))), some (.int (nI 27))] [] w _
            refine J_iload_n (pc := 74) dJ6_numberOfTrailingZeros_0f7a4_74 rfl rfl ?_
            refine J_iload_n (pc := 75) dJ6_numberOfTrailingZeros_0f7a4_75 rfl rfl ?_
            refine J_iconst (pc := 76) (v := nI 1) dJ6_numberOfTrailingZeros_0f7a4_76 (by decide) ?_
            refine J_iushrN (pc := 77) dJ6_numberOfTrailingZeros_0f7a4_77 (by omega) (by decide) ?_
            have hm57 := Nat.div_le_self (((m / 2 ^ 16) / 2 ^ 8) / 2 ^ 2) (2 ^ 1)
            refine J_iaddN (pc := 78) dJ6_numberOfTrailingZeros_0f7a4_78 ?_
            exact J_iret (pc := 79) dJ6_numberOfTrailingZeros_0f7a4_79 rfl ⟨⟨27 + ((((m / 2 ^ 16) / 2 ^ 8) / 2 ^ 2) / 2 ^ 1), rfl, by have e : 27 + ((((m / 2 ^ 16) / 2 ^ 8) / 2 ^ 2) / 2 ^ 1) = t := (by rw [← hz]; unfold ntz; (first | rw [if_pos (by omega)] | rw [if_neg (by omega)]); unfold ntz0; (first | rw [if_pos (by omega)] | rw [if_neg (by omega)]); unfold ntz1; (first | rw [if_pos (by omega)] | rw [if_neg (by omega)]); unfold ntz2; (first | rw [if_pos (by omega)] | rw [if_neg (by omega)]); unfold ntz3; (first | rw [if_pos (by omega)] | rw [if_neg (by omega)]); unfold ntz4; rfl); rw [e]; exact ⟨ht, hb⟩⟩, rfl⟩
        · refine J_iincN (pc := 55) (b := 4) dJ6_numberOfTrailingZeros_0f7a4_55 rfl (by decide) (by decide) rfl ?_
          show J X mJ6_numberOfTrailingZeros_0f7a4 d kc ks 58 [some (.int (nI ((m / 2 ^ 16) / 2 ^ 8))), some (.int (nI 29))] [] w _
          refine J_iload_n (pc := 58) dJ6_numberOfTrailingZeros_0f7a4_58 rfl rfl ?_
          refine J_iconst (pc := 59) (v := nI 4) dJ6_numberOfTrailingZeros_0f7a4_59 (by decide) ?_
          refine J_iushrN (pc := 60) dJ6_numberOfTrailingZeros_0f7a4_60 (by omega) (by decide) ?_
          have hm58 := Nat.div_le_self ((m / 2 ^ 16) / 2 ^ 8) (2 ^ 4)
          refine J_istore_n (pc := 61) dJ6_numberOfTrailingZeros_0f7a4_61 rfl (by decide) rfl ?_
          show J X mJ6_numberOfTrailingZeros_0f7a4 d kc ks 62 [some (.int (nI (((m / 2 ^ 16) / 2 ^ 8) / 2 ^ 4))), some (.int (nI 29))] [] w _
          refine J_iload_n (pc := 62) dJ6_numberOfTrailingZeros_0f7a4_62 rfl rfl ?_
          refine J_iconst (pc := 63) (v := nI 4) dJ6_numberOfTrailingZeros_0f7a4_63 (by decide) ?_
          refine J_icmp_leN (pc := 64) (tgt := 74) dJ6_numberOfTrailingZeros_0f7a4_64 (by decide) (by omega) (by omega) (fun ht59 => ?_) (fun hf60 => ?_)
          · refine J_iload_n (pc := 74) dJ6_numberOfTrailingZeros_0f7a4_74 rfl rfl ?_
            refine J_iload_n (pc := 75) dJ6_numberOfTrailingZeros_0f7a4_75 rfl rfl ?_
            refine J_iconst (pc := 76) (v := nI 1) dJ6_numberOfTrailingZeros_0f7a4_76 (by decide) ?_
            refine J_iushrN (pc := 77) dJ6_numberOfTrailingZeros_0f7a4_77 (by omega) (by decide) ?_
            have hm61 := Nat.div_le_self (((m / 2 ^ 16) / 2 ^ 8) / 2 ^ 4) (2 ^ 1)
            refine J_iaddN (pc := 78) dJ6_numberOfTrailingZeros_0f7a4_78 ?_
            exact J_iret (pc := 79) dJ6_numberOfTrailingZeros_0f7a4_79 rfl ⟨⟨29 + ((((m / 2 ^ 16) / 2 ^ 8) / 2 ^ 4) / 2 ^ 1), rfl, by have e : 29 + ((((m / 2 ^ 16) / 2 ^ 8) / 2 ^ 4) / 2 ^ 1) = t := (by rw [← hz]; unfold ntz; (first | rw [if_pos (by omega)] | rw [if_neg (by omega)]); unfold ntz0; (first | rw [if_pos (by omega)] | rw [if_neg (by omega)]); unfold ntz1; (first | rw [if_pos (by omega)] | rw [if_neg (by omega)]); unfold ntz2; (first | rw [if_pos (by omega)] | rw [if_neg (by omega)]); unfold ntz3; (first | rw [if_pos (by omega)] | rw [if_neg (by omega)]); unfold ntz4; rfl); rw [e]; exact ⟨ht, hb⟩⟩, rfl⟩
          · refine J_iincN (pc := 67) (b := 2) dJ6_numberOfTrailingZeros_0f7a4_67 rfl (by decide) (by decide) rfl ?_
            show J X mJ6_numberOfTrailingZeros_0f7a4 d kc ks 70 [some (.int (nI (((m / 2 ^ 16) / 2 ^ 8) / 2 ^ 4))), some (.int (nI 31))] [] w _
            refine J_iload_n (pc := 70) dJ6_numberOfTrailingZeros_0f7a4_70 rfl rfl ?_
            refine J_iconst (pc := 71) (v := nI 2) dJ6_numberOfTrailingZeros_0f7a4_71 (by decide) ?_
            refine J_iushrN (pc := 72) dJ6_numberOfTrailingZeros_0f7a4_72 (by omega) (by decide) ?_
            have hm62 := Nat.div_le_self (((m / 2 ^ 16) / 2 ^ 8) / 2 ^ 4) (2 ^ 2)
            refine J_istore_n (pc := 73) dJ6_numberOfTrailingZeros_0f7a4_73 rfl (by decide) rfl ?_
            show J X mJ6_numberOfTrailingZeros_0f7a4 d kc ks 74 [some (.int (nI ((((m / 2 ^ 16) / 2 ^ 8) / 2 ^ 4) / 2 ^ 2))), some (.int (nI 31))] [] w _
            refine J_iload_n (pc := 74) dJ6_numberOfTrailingZeros_0f7a4_74 rfl rfl ?_
            refine J_iload_n (pc := 75) dJ6_numberOfTrailingZeros_0f7a4_75 rfl rfl ?_
            refine J_iconst (pc := 76) (v := nI 1) dJ6_numberOfTrailingZeros_0f7a4_76 (by decide) ?_
            refine J_iushrN (pc := 77) dJ6_numberOfTrailingZeros_0f7a4_77 (by omega) (by decide) ?_
            have hm63 := Nat.div_le_self ((((m / 2 ^ 16) / 2 ^ 8) / 2 ^ 4) / 2 ^ 2) (2 ^ 1)
            refine J_iaddN (pc := 78) dJ6_numberOfTrailingZeros_0f7a4_78 ?_
            exact J_iret (pc := 79) dJ6_numberOfTrailingZeros_0f7a4_79 rfl ⟨⟨31 + (((((m / 2 ^ 16) / 2 ^ 8) / 2 ^ 4) / 2 ^ 2) / 2 ^ 1), rfl, by have e : 31 + (((((m / 2 ^ 16) / 2 ^ 8) / 2 ^ 4) / 2 ^ 2) / 2 ^ 1) = t := (by rw [← hz]; unfold ntz; (first | rw [if_pos (by omega)] | rw [if_neg (by omega)]); unfold ntz0; (first | rw [if_pos (by omega)] | rw [if_neg (by omega)]); unfold ntz1; (first | rw [if_pos (by omega)] | rw [if_neg (by omega)]); unfold ntz2; (first | rw [if_pos (by omega)] | rw [if_neg (by omega)]); unfold ntz3; (first | rw [if_pos (by omega)] | rw [if_neg (by omega)]); unfold ntz4; rfl); rw [e]; exact ⟨ht, hb⟩⟩, rfl⟩
  · obtain rfl : m = 0 := by assumption
    refine J_iload_n (pc := 12) dJ6_numberOfTrailingZeros_0f7a4_12 rfl rfl ?_
    refine J_bipush (pc := 13) (v := nI 32) dJ6_numberOfTrailingZeros_0f7a4_13 (by decide) ?_
    refine J_iand (pc := 15) dJ6_numberOfTrailingZeros_0f7a4_15 ?_
    rw [show nI 0 &&& nI 32 = nI 0 by decide]
    exact J_iret (pc := 16) dJ6_numberOfTrailingZeros_0f7a4_16 rfl ⟨⟨0, rfl, by have e : 0 = t := (by rw [← hz]; decide); rw [e]; exact ⟨ht, hb⟩⟩, rfl⟩
set_option maxRecDepth 100000 in
set_option maxHeartbeats 4000000 in
theorem c_J6_bitCount_0f7a4_atx {X : jX} (hs : X.1.stackTraces = false) {d : Nat} (hd : 0 ≤ d) {w : List jC} (a : Int32) {kc ks : Nat} : jMet X mJ6_bitCount_0f7a4 d kc ks [.int a] w (pI (fun v => v = nI (pc32 a)) (fun w' => w' = w)) := by
  refine jMet_of hs (by decide +kernel) (Nat.le_of_ble_eq_true rfl) (L := [some (.int a)]) rfl ?_
  obtain ⟨x, hx, rfl⟩ : ∃ x, x < 2 ^ 32 ∧ a = nI x := ⟨_, a.toBitVec.isLt, nI_self a⟩
  obtain ⟨hle, y, hy, hy28, hfin⟩ := bc_all hx
  refine J_iload_n (pc := 0) dJ6_bitCount_0f7a4_0 rfl rfl ?_
  refine J_iload_n (pc := 1) dJ6_bitCount_0f7a4_1 rfl rfl ?_
  refine J_iconst (pc := 2) (v := nI 1) dJ6_bitCount_0f7a4_2 (by decide) ?_
  refine J_iushrM (pc := 3) dJ6_bitCount_0f7a4_3 (by omega) (by decide) ?_
  have hm1 := Nat.div_le_self x (2 ^ 1)
  refine J_ldcw (pc := 4) (v := nI 1431655765) dJ6_bitCount_0f7a4_4 (by have := fk_J6_265; exact this) ?_
  have hm2 : (x / 2 ^ 1) &&& 1431655765 ≤ 1431655765 := Nat.and_le_right
  refine J_iandM (pc := 7) dJ6_bitCount_0f7a4_7 (by omega) (by decide) ?_
  refine J_isubN (pc := 8) dJ6_bitCount_0f7a4_8 (by omega) ?_
  refine J_istore_n (pc := 9) dJ6_bitCount_0f7a4_9 rfl (by decide) rfl ?_
  show J X mJ6_bitCount_0f7a4 d kc ks 10 [some (.int (nI (x - ((x / 2 ^ 1) &&& 1431655765))))] [] w _
  show J X mJ6_bitCount_0f7a4 d kc ks _ [some (.int (nI (bc1 x)))] [] w _
  have h10 : bc1 x ≤ x := Nat.sub_le _ _
  refine J_iload_n (pc := 10) dJ6_bitCount_0f7a4_10 rfl rfl ?_
  refine J_ldcw (pc := 11) (v := nI 858993459) dJ6_bitCount_0f7a4_11 (by have := fk_J6_266; exact this) ?_
  have hm3 : (bc1 x) &&& 858993459 ≤ 858993459 := Nat.and_le_right
  refine J_iandM (pc := 14) dJ6_bitCount_0f7a4_14 (by omega) (by decide) ?_
  refine J_iload_n (pc := 15) dJ6_bitCount_0f7a4_15 rfl rfl ?_
  refine J_iconst (pc := 16) (v := nI 2) dJ6_bitCount_0f7a4_16 (by decide) ?_
  refine J_iushrM (pc := 17) dJ6_bitCount_0f7a4_17 (by omega) (by decide) ?_
  have hm4 := Nat.div_le_self (bc1 x) (2 ^ 2)
  refine J_ldcw (pc := 18) (v := nI 858993459) dJ6_bitCount_0f7a4_18 (by have := fk_J6_266; exact this) ?_
  have hm5 : ((bc1 x) / 2 ^ 2) &&& 858993459 ≤ 858993459 := Nat.and_le_right
  refine J_iandM (pc := 21) dJ6_bitCount_0f7a4_21 (by omega) (by decide) ?_
  refine J_iaddN (pc := 22) dJ6_bitCount_0f7a4_22 ?_
  refine J_istore_n (pc := 23) dJ6_bitCount_0f7a4_23 rfl (by decide) rfl ?_
  show J X mJ6_bitCount_0f7a4 d kc ks 24 [some (.int (nI (((bc1 x) &&& 858993459) + (((bc1 x) / 2 ^ 2) &&& 858993459))))] [] w _
  show J X mJ6_bitCount_0f7a4 d kc ks _ [some (.int (nI (bc2 (bc1 x))))] [] w _
  have h24 : bc2 (bc1 x) ≤ 2000000000 := by unfold bc2; omega
  refine J_iload_n (pc := 24) dJ6_bitCount_0f7a4_24 rfl rfl ?_
  refine J_iload_n (pc := 25) dJ6_bitCount_0f7a4_25 rfl rfl ?_
  refine J_iconst (pc := 26) (v := nI 4) dJ6_bitCount_0f7a4_26 (by decide) ?_
  refine J_iushrM (pc := 27) dJ6_bitCount_0f7a4_27 (by omega) (by decide) ?_
  have hm6 := Nat.div_le_self (bc2 (bc1 x)) (2 ^ 4)
  refine J_iaddN (pc := 28) dJ6_bitCount_0f7a4_28 ?_
  refine J_ldcw (pc := 29) (v := nI 252645135) dJ6_bitCount_0f7a4_29 (by have := fk_J6_267; exact this) ?_
  have hm7 : (bc2 (bc1 x) + ((bc2 (bc1 x)) / 2 ^ 4)) &&& 252645135 ≤ 252645135 := Nat.and_le_right
  refine J_iandM (pc := 32) dJ6_bitCount_0f7a4_32 (by omega) (by decide) ?_
  refine J_istore_n (pc := 33) dJ6_bitCount_0f7a4_33 rfl (by decide) rfl ?_
  show J X mJ6_bitCount_0f7a4 d kc ks 34 [some (.int (nI ((bc2 (bc1 x) + ((bc2 (bc1 x)) / 2 ^ 4)) &&& 252645135)))] [] w _
  show J X mJ6_bitCount_0f7a4 d kc ks _ [some (.int (nI (bc3 (bc2 (bc1 x)))))] [] w _
  rw [hy]
  refine J_iload_n (pc := 34) dJ6_bitCount_0f7a4_34 rfl rfl ?_
  refine J_iload_n (pc := 35) dJ6_bitCount_0f7a4_35 rfl rfl ?_
  refine J_bipush (pc := 36) (v := nI 8) dJ6_bitCount_0f7a4_36 (by decide) ?_
  refine J_iushrM (pc := 38) dJ6_bitCount_0f7a4_38 (by omega) (by decide) ?_
  have hm8 := Nat.div_le_self y (2 ^ 8)
  refine J_iaddN (pc := 39) dJ6_bitCount_0f7a4_39 ?_
  refine J_istore_n (pc := 40) dJ6_bitCount_0f7a4_40 rfl (by decide) rfl ?_
  show J X mJ6_bitCount_0f7a4 d kc ks 41 [some (.int (nI (y + (y / 2 ^ 8))))] [] w _
  refine J_iload_n (pc := 41) dJ6_bitCount_0f7a4_41 rfl rfl ?_
  refine J_iload_n (pc := 42) dJ6_bitCount_0f7a4_42 rfl rfl ?_
  refine J_bipush (pc := 43) (v := nI 16) dJ6_bitCount_0f7a4_43 (by decide) ?_
  refine J_iushrM (pc := 45) dJ6_bitCount_0f7a4_45 (by omega) (by decide) ?_
  have hm9 := Nat.div_le_self (y + (y / 2 ^ 8)) (2 ^ 16)
  refine J_iaddN (pc := 46) dJ6_bitCount_0f7a4_46 ?_
  refine J_istore_n (pc := 47) dJ6_bitCount_0f7a4_47 rfl (by decide) rfl ?_
  show J X mJ6_bitCount_0f7a4 d kc ks 48 [some (.int (nI ((y + (y / 2 ^ 8)) + ((y + (y / 2 ^ 8)) / 2 ^ 16))))] [] w _
  refine J_iload_n (pc := 48) dJ6_bitCount_0f7a4_48 rfl rfl ?_
  refine J_bipush (pc := 49) (v := nI 63) dJ6_bitCount_0f7a4_49 (by decide) ?_
  refine J_iandN (pc := 51) 6 dJ6_bitCount_0f7a4_51 (by omega) (by decide) ?_
  exact J_iret (pc := 52) dJ6_bitCount_0f7a4_52 rfl ⟨(congrArg nI (by rw [pc32_nI hx]; exact hfin)), rfl⟩
set_option maxRecDepth 100000 in
set_option maxHeartbeats 4000000 in
theorem c_X8_isBit {X : jX} (hs : X.1.stackTraces = false) {d : Nat} (hd : 0 ≤ d) {n : Nat} {mv rw nx : Nat → Nat} {b : Nat} {bt : List Int32} {kn en dn rf kk th : Int32} {w : List jC} (hR : RM n mv rw nx b bt kn en dn rf kk th w) (hn1 : 2 ≤ n) (hn2 : n ≤ 7) (gm : ∀ i, mv i < 7) (gr : ∀ i, rw i < 7) (gx : ∀ i, nx i < 7) (k : Nat) (hy0 : k < 5056) {kc ks : Nat} : jMet X mX8_isBit d kc ks [.ref 19, .int (nI k)] w (pI (fun v => (v = nI 0 ∧ bitL bt k = false) ∨ (v = nI 1 ∧ bitL bt k = true)) (fun w' => w' = w)) := by
  refine jMet_of hs (by decide +kernel) (Nat.le_of_ble_eq_true rfl) (L := [some (.ref 19), some (.int (nI k))]) rfl ?_
  have hfc := fc_7 hn2
  have hfp := fc_pos n
  obtain ⟨h19, h20, h21, h22, hbb, hbl, hb3⟩ := hR
  have hF : FR b b w w := FR.rf
  refine J_aload_n (pc := 0) dX8_isBit_0 rfl rfl rfl ?_
  refine J_get (pc := 1) (k := 4) dX8_isBit_1 kC9 (by decide) ff_X8_23 h19 rfl ?_
  refine J_iload_n (pc := 4) dX8_isBit_4 rfl rfl ?_
  refine J_iconst (pc := 5) (v := nI 5) dX8_isBit_5 (by decide) ?_
  refine J_ishrN (pc := 6) dX8_isBit_6 (by omega) (by omega) ?_
  refine J_iald (pc := 7) dX8_isBit_7 hbb (by rw [hbl]; exact nI_in (by omega) (by decide)) ?_
  refine J_iload_n (pc := 8) dX8_isBit_8 rfl rfl ?_
  refine J_bipush (pc := 9) (v := nI 31) dX8_isBit_9 (by decide) ?_
  have hm1 := Nat.mod_lt k (show 0 < 2 ^ 5 by decide)
  refine J_iandN (pc := 11) 5 dX8_isBit_11 (by omega) (by decide) ?_
  refine J_ishr (pc := 12) dX8_isBit_12 ?_
  refine J_iconst (pc := 13) (v := nI 1) dX8_isBit_13 (by decide) ?_
  refine J_iand (pc := 14) dX8_isBit_14 ?_
  refine J_iconst (pc := 15) (v := nI 1) dX8_isBit_15 (by decide) ?_
  refine J_icmp_ne (pc := 16) (tgt := 23) dX8_isBit_16 (by decide) (fun ht2 => ?_) (fun hf3 => ?_)
  · refine J_iconst (pc := 23) (v := nI 0) dX8_isBit_23 (by decide) ?_
    exact J_zret (pc := 24) dX8_isBit_24 rfl (nar_b (by first | decide | omega)) ⟨Or.inl ⟨rfl, (by cases e : bitL bt k; (rfl); (exact absurd ((bit_eq bt (k := k) (by omega)).mpr e) (by assumption)))⟩, rfl⟩
  · refine J_iconst (pc := 19) (v := nI 1) dX8_isBit_19 (by decide) ?_
    refine J_goto (pc := 20) (tgt := 24) dX8_isBit_20 (by decide) ?_
    exact J_zret (pc := 24) dX8_isBit_24 rfl (nar_b (by first | decide | omega)) ⟨Or.inr (⟨rfl, (by exact (bit_eq bt (k := k) (by omega)).mp (by assumption))⟩), rfl⟩
