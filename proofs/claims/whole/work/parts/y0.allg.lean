def kRr (P : GD) (r c : Nat) : Bool := Nat.beq (gR P) r && allB (fun b => allB (fun a => Nat.beq (gB P a b) (dgx c (b * (b - 1) / 2 + a)) && Nat.beq (gB P b a) (dgx c (b * (b - 1) / 2 + a))) b) r
theorem kR_ok {P : GD} {r c : Nat} (h : kRr P r c = true) : gR P = r ∧ ∀ a b, a < b → b < gR P → gB P a b = dgx c (b * (b - 1) / 2 + a) ∧ gB P b a = dgx c (b * (b - 1) / 2 + a) := by
  obtain ⟨h1, h2⟩ := and2 h
  have e := beq_eq h1
  refine ⟨e, fun a b ha hb => ?_⟩
  have q := and2 (allB_at (allB_at h2 b (by omega)) a ha)
  exact ⟨beq_eq q.1, beq_eq q.2⟩
theorem kR_0 : kRr (mkP dG_0) (rkL 0) (cdc 0) = true := by decide +kernel
theorem kR_1 : kRr (mkP dG_1) (rkL 1) (cdc 1) = true := by decide +kernel
theorem kR_2 : kRr (mkP dG_2) (rkL 2) (cdc 2) = true := by decide +kernel
theorem kR_3 : kRr (mkP dG_3) (rkL 3) (cdc 3) = true := by decide +kernel
theorem kR_4 : kRr (mkP dG_4) (rkL 4) (cdc 4) = true := by decide +kernel
theorem kR_5 : kRr (mkP dG_5) (rkL 5) (cdc 5) = true := by decide +kernel
theorem kR_6 : kRr (mkP dG_6) (rkL 6) (cdc 6) = true := by decide +kernel
theorem kR_7 : kRr (mkP dG_7) (rkL 7) (cdc 7) = true := by decide +kernel
theorem kR_8 : kRr (mkP dG_8) (rkL 8) (cdc 8) = true := by decide +kernel
theorem kR_9 : kRr (mkP dG_9) (rkL 9) (cdc 9) = true := by decide +kernel
theorem kR_10 : kRr (mkP dG_10) (rkL 10) (cdc 10) = true := by decide +kernel
theorem kR_11 : kRr (mkP dG_11) (rkL 11) (cdc 11) = true := by decide +kernel
theorem kR_12 : kRr (mkP dG_12) (rkL 12) (cdc 12) = true := by decide +kernel
theorem kR_13 : kRr (mkP dG_13) (rkL 13) (cdc 13) = true := by decide +kernel
theorem kR_14 : kRr (mkP dG_14) (rkL 14) (cdc 14) = true := by decide +kernel
theorem kR_15 : kRr (mkP dG_15) (rkL 15) (cdc 15) = true := by decide +kernel
theorem kR_16 : kRr (mkP dG_16) (rkL 16) (cdc 16) = true := by decide +kernel
theorem kR_17 : kRr (mkP dG_17) (rkL 17) (cdc 17) = true := by decide +kernel
theorem kR_18 : kRr (mkP dG_18) (rkL 18) (cdc 18) = true := by decide +kernel
theorem kR_19 : kRr (mkP dG_19) (rkL 19) (cdc 19) = true := by decide +kernel
theorem kR_20 : kRr (mkP dG_20) (rkL 20) (cdc 20) = true := by decide +kernel
theorem kR_21 : kRr (mkP dG_21) (rkL 21) (cdc 21) = true := by decide +kernel
theorem kR_22 : kRr (mkP dG_22) (rkL 22) (cdc 22) = true := by decide +kernel
theorem kR_23 : kRr (mkP dG_23) (rkL 23) (cdc 23) = true := by decide +kernel
theorem kR_24 : kRr (mkP dG_24) (rkL 24) (cdc 24) = true := by decide +kernel
theorem kR_25 : kRr (mkP dG_25) (rkL 25) (cdc 25) = true := by decide +kernel
theorem kR_26 : kRr (mkP dG_26) (rkL 26) (cdc 26) = true := by decide +kernel
theorem kR_27 : kRr (mkP dG_27) (rkL 27) (cdc 27) = true := by decide +kernel
theorem kR_28 : kRr (mkP dG_28) (rkL 28) (cdc 28) = true := by decide +kernel
theorem kR_29 : kRr (mkP dG_29) (rkL 29) (cdc 29) = true := by decide +kernel
theorem kR_30 : kRr (mkP dG_30) (rkL 30) (cdc 30) = true := by decide +kernel
theorem kR_31 : kRr (mkP dG_31) (rkL 31) (cdc 31) = true := by decide +kernel
theorem kR_32 : kRr (mkP dG_32) (rkL 32) (cdc 32) = true := by decide +kernel
theorem kR_33 : kRr (mkP dG_33) (rkL 33) (cdc 33) = true := by decide +kernel
theorem kR_34 : kRr (mkP dG_34) (rkL 34) (cdc 34) = true := by decide +kernel
theorem kR_35 : kRr (mkP dG_35) (rkL 35) (cdc 35) = true := by decide +kernel
theorem kR_36 : kRr (mkP dG_36) (rkL 36) (cdc 36) = true := by decide +kernel
theorem kR_37 : kRr (mkP dG_37) (rkL 37) (cdc 37) = true := by decide +kernel
theorem kR_38 : kRr (mkP dG_38) (rkL 38) (cdc 38) = true := by decide +kernel
theorem kR_39 : kRr (mkP dG_39) (rkL 39) (cdc 39) = true := by decide +kernel
theorem kR_40 : kRr (mkP dG_40) (rkL 40) (cdc 40) = true := by decide +kernel
theorem kR_41 : kRr (mkP dG_41) (rkL 41) (cdc 41) = true := by decide +kernel
theorem kR_42 : kRr (mkP dG_42) (rkL 42) (cdc 42) = true := by decide +kernel
theorem kR_43 : kRr (mkP dG_43) (rkL 43) (cdc 43) = true := by decide +kernel
theorem kR_44 : kRr (mkP dG_44) (rkL 44) (cdc 44) = true := by decide +kernel
theorem kR_45 : kRr (mkP dG_45) (rkL 45) (cdc 45) = true := by decide +kernel
theorem kR_46 : kRr (mkP dG_46) (rkL 46) (cdc 46) = true := by decide +kernel
theorem kR_47 : kRr (mkP dG_47) (rkL 47) (cdc 47) = true := by decide +kernel
theorem kR_48 : kRr (mkP dG_48) (rkL 48) (cdc 48) = true := by decide +kernel
theorem kR_49 : kRr (mkP dG_49) (rkL 49) (cdc 49) = true := by decide +kernel
theorem kR_50 : kRr (mkP dG_50) (rkL 50) (cdc 50) = true := by decide +kernel
theorem kR_51 : kRr (mkP dG_51) (rkL 51) (cdc 51) = true := by decide +kernel
theorem kR_52 : kRr (mkP dG_52) (rkL 52) (cdc 52) = true := by decide +kernel
theorem kR_53 : kRr (mkP dG_53) (rkL 53) (cdc 53) = true := by decide +kernel
theorem kR_54 : kRr (mkP dG_54) (rkL 54) (cdc 54) = true := by decide +kernel
theorem kR_55 : kRr (mkP dG_55) (rkL 55) (cdc 55) = true := by decide +kernel
theorem kR_56 : kRr (mkP dG_56) (rkL 56) (cdc 56) = true := by decide +kernel
theorem kR_57 : kRr (mkP dG_57) (rkL 57) (cdc 57) = true := by decide +kernel
theorem kR_58 : kRr (mkP dG_58) (rkL 58) (cdc 58) = true := by decide +kernel
theorem kR_59 : kRr (mkP dG_59) (rkL 59) (cdc 59) = true := by decide +kernel
theorem kR_60 : kRr (mkP dG_60) (rkL 60) (cdc 60) = true := by decide +kernel
theorem kR_61 : kRr (mkP dG_61) (rkL 61) (cdc 61) = true := by decide +kernel
theorem kR_62 : kRr (mkP dG_62) (rkL 62) (cdc 62) = true := by decide +kernel
theorem kR_63 : kRr (mkP dG_63) (rkL 63) (cdc 63) = true := by decide +kernel
theorem kR_64 : kRr (mkP dG_64) (rkL 64) (cdc 64) = true := by decide +kernel
theorem kR_65 : kRr (mkP dG_65) (rkL 65) (cdc 65) = true := by decide +kernel
theorem kR_66 : kRr (mkP dG_66) (rkL 66) (cdc 66) = true := by decide +kernel
theorem kR_67 : kRr (mkP dG_67) (rkL 67) (cdc 67) = true := by decide +kernel
theorem kR_68 : kRr (mkP dG_68) (rkL 68) (cdc 68) = true := by decide +kernel
theorem kR_69 : kRr (mkP dG_69) (rkL 69) (cdc 69) = true := by decide +kernel
theorem kR_70 : kRr (mkP dG_70) (rkL 70) (cdc 70) = true := by decide +kernel
theorem kR_71 : kRr (mkP dG_71) (rkL 71) (cdc 71) = true := by decide +kernel
theorem kR_72 : kRr (mkP dG_72) (rkL 72) (cdc 72) = true := by decide +kernel
theorem kR_73 : kRr (mkP dG_73) (rkL 73) (cdc 73) = true := by decide +kernel
theorem kR_74 : kRr (mkP dG_74) (rkL 74) (cdc 74) = true := by decide +kernel
theorem kR_75 : kRr (mkP dG_75) (rkL 75) (cdc 75) = true := by decide +kernel
theorem kR_76 : kRr (mkP dG_76) (rkL 76) (cdc 76) = true := by decide +kernel
theorem kR_77 : kRr (mkP dG_77) (rkL 77) (cdc 77) = true := by decide +kernel
theorem kR_78 : kRr (mkP dG_78) (rkL 78) (cdc 78) = true := by decide +kernel
theorem kR_79 : kRr (mkP dG_79) (rkL 79) (cdc 79) = true := by decide +kernel
theorem kR_80 : kRr (mkP dG_80) (rkL 80) (cdc 80) = true := by decide +kernel
theorem kR_81 : kRr (mkP dG_81) (rkL 81) (cdc 81) = true := by decide +kernel
theorem kR_82 : kRr (mkP dG_82) (rkL 82) (cdc 82) = true := by decide +kernel
theorem kR_83 : kRr (mkP dG_83) (rkL 83) (cdc 83) = true := by decide +kernel
theorem kR_84 : kRr (mkP dG_84) (rkL 84) (cdc 84) = true := by decide +kernel
theorem kR_85 : kRr (mkP dG_85) (rkL 85) (cdc 85) = true := by decide +kernel
theorem kR_86 : kRr (mkP dG_86) (rkL 86) (cdc 86) = true := by decide +kernel
theorem kR_87 : kRr (mkP dG_87) (rkL 87) (cdc 87) = true := by decide +kernel
theorem kR_88 : kRr (mkP dG_88) (rkL 88) (cdc 88) = true := by decide +kernel
theorem kR_89 : kRr (mkP dG_89) (rkL 89) (cdc 89) = true := by decide +kernel
theorem kR_90 : kRr (mkP dG_90) (rkL 90) (cdc 90) = true := by decide +kernel
theorem kR_91 : kRr (mkP dG_91) (rkL 91) (cdc 91) = true := by decide +kernel
theorem kR_92 : kRr (mkP dG_92) (rkL 92) (cdc 92) = true := by decide +kernel
theorem kR_93 : kRr (mkP dG_93) (rkL 93) (cdc 93) = true := by decide +kernel
theorem kR_94 : kRr (mkP dG_94) (rkL 94) (cdc 94) = true := by decide +kernel
theorem kR_95 : kRr (mkP dG_95) (rkL 95) (cdc 95) = true := by decide +kernel
theorem kR_96 : kRr (mkP dG_96) (rkL 96) (cdc 96) = true := by decide +kernel
theorem kR_97 : kRr (mkP dG_97) (rkL 97) (cdc 97) = true := by decide +kernel
theorem kR_98 : kRr (mkP dG_98) (rkL 98) (cdc 98) = true := by decide +kernel
theorem kR_99 : kRr (mkP dG_99) (rkL 99) (cdc 99) = true := by decide +kernel
theorem kR_100 : kRr (mkP dG_100) (rkL 100) (cdc 100) = true := by decide +kernel
theorem kR_101 : kRr (mkP dG_101) (rkL 101) (cdc 101) = true := by decide +kernel
theorem kR_102 : kRr (mkP dG_102) (rkL 102) (cdc 102) = true := by decide +kernel
theorem kR_103 : kRr (mkP dG_103) (rkL 103) (cdc 103) = true := by decide +kernel
theorem kR_104 : kRr (mkP dG_104) (rkL 104) (cdc 104) = true := by decide +kernel
theorem kR_105 : kRr (mkP dG_105) (rkL 105) (cdc 105) = true := by decide +kernel
theorem kR_106 : kRr (mkP dG_106) (rkL 106) (cdc 106) = true := by decide +kernel
theorem kR_107 : kRr (mkP dG_107) (rkL 107) (cdc 107) = true := by decide +kernel
theorem kR_108 : kRr (mkP dG_108) (rkL 108) (cdc 108) = true := by decide +kernel
theorem kR_109 : kRr (mkP dG_109) (rkL 109) (cdc 109) = true := by decide +kernel
theorem kR_110 : kRr (mkP dG_110) (rkL 110) (cdc 110) = true := by decide +kernel
theorem kR_111 : kRr (mkP dG_111) (rkL 111) (cdc 111) = true := by decide +kernel
theorem kR_112 : kRr (mkP dG_112) (rkL 112) (cdc 112) = true := by decide +kernel
theorem kR_113 : kRr (mkP dG_113) (rkL 113) (cdc 113) = true := by decide +kernel
theorem kR_114 : kRr (mkP dG_114) (rkL 114) (cdc 114) = true := by decide +kernel
theorem kR_115 : kRr (mkP dG_115) (rkL 115) (cdc 115) = true := by decide +kernel
theorem kR_116 : kRr (mkP dG_116) (rkL 116) (cdc 116) = true := by decide +kernel
theorem kR_117 : kRr (mkP dG_117) (rkL 117) (cdc 117) = true := by decide +kernel
theorem kR_118 : kRr (mkP dG_118) (rkL 118) (cdc 118) = true := by decide +kernel
theorem kR_119 : kRr (mkP dG_119) (rkL 119) (cdc 119) = true := by decide +kernel
theorem kR_120 : kRr (mkP dG_120) (rkL 120) (cdc 120) = true := by decide +kernel
def GX (i : Nat) : Prop := ∃ (P : GD) (T : PT), GOOD P T ∧ gR P = rkL i ∧ ∀ a b, a < b → b < gR P → gB P a b = dgx (cdc i) (b * (b - 1) / 2 + a) ∧ gB P b a = dgx (cdc i) (b * (b - 1) / 2 + a)
theorem gx_0 : GX 0 := ⟨mkP dG_0, _, ⟨GF_okQ kG_0 kM_0 kP_0, kFZ_ok kZ_0, hMv_of (kCh_ok kG_0).1 (kCh_ok kG_0).2.1 (kCh_ok kG_0).2.2.2.2.2.2.1 (kBd_ok kB_0)⟩, kR_ok kR_0⟩
theorem gx_1 : GX 1 := ⟨mkP dG_1, _, ⟨GF_okQ kG_1 kM_1 kP_1, kFZ_ok kZ_1, hMv_of (kCh_ok kG_1).1 (kCh_ok kG_1).2.1 (kCh_ok kG_1).2.2.2.2.2.2.1 (kBd_ok kB_1)⟩, kR_ok kR_1⟩
theorem gx_2 : GX 2 := ⟨mkP dG_2, _, ⟨GF_okQ kG_2 kM_2 kP_2, kFZ_ok kZ_2, hMv_of (kCh_ok kG_2).1 (kCh_ok kG_2).2.1 (kCh_ok kG_2).2.2.2.2.2.2.1 (kBd_ok kB_2)⟩, kR_ok kR_2⟩
theorem gx_3 : GX 3 := ⟨mkP dG_3, _, ⟨GF_okQ kG_3 kM_3 kP_3, kFZ_ok kZ_3, hMv_of (kCh_ok kG_3).1 (kCh_ok kG_3).2.1 (kCh_ok kG_3).2.2.2.2.2.2.1 (kBd_ok kB_3)⟩, kR_ok kR_3⟩
theorem gx_4 : GX 4 := ⟨mkP dG_4, _, ⟨GF_okQ kG_4 kM_4 kP_4, kFZ_ok kZ_4, hMv_of (kCh_ok kG_4).1 (kCh_ok kG_4).2.1 (kCh_ok kG_4).2.2.2.2.2.2.1 (kBd_ok kB_4)⟩, kR_ok kR_4⟩
theorem gx_5 : GX 5 := ⟨mkP dG_5, _, ⟨GF_okQ kG_5 kM_5 kP_5, kFZ_ok kZ_5, hMv_of (kCh_ok kG_5).1 (kCh_ok kG_5).2.1 (kCh_ok kG_5).2.2.2.2.2.2.1 (kBd_ok kB_5)⟩, kR_ok kR_5⟩
theorem gx_6 : GX 6 := ⟨mkP dG_6, _, ⟨GF_okQ kG_6 kM_6 kP_6, kFZ_ok kZ_6, hMv_of (kCh_ok kG_6).1 (kCh_ok kG_6).2.1 (kCh_ok kG_6).2.2.2.2.2.2.1 (kBd_ok kB_6)⟩, kR_ok kR_6⟩
theorem gx_7 : GX 7 := ⟨mkP dG_7, _, ⟨GF_okQ kG_7 kM_7 kP_7, kFZ_ok kZ_7, hMv_of (kCh_ok kG_7).1 (kCh_ok kG_7).2.1 (kCh_ok kG_7).2.2.2.2.2.2.1 (kBd_ok kB_7)⟩, kR_ok kR_7⟩
theorem gx_8 : GX 8 := ⟨mkP dG_8, _, ⟨GF_okQ kG_8 kM_8 kP_8, kFZ_ok kZ_8, hMv_of (kCh_ok kG_8).1 (kCh_ok kG_8).2.1 (kCh_ok kG_8).2.2.2.2.2.2.1 (kBd_ok kB_8)⟩, kR_ok kR_8⟩
theorem gx_9 : GX 9 := ⟨mkP dG_9, _, ⟨GF_okQ kG_9 kM_9 kP_9, kFZ_ok kZ_9, hMv_of (kCh_ok kG_9).1 (kCh_ok kG_9).2.1 (kCh_ok kG_9).2.2.2.2.2.2.1 (kBd_ok kB_9)⟩, kR_ok kR_9⟩
theorem gx_10 : GX 10 := ⟨mkP dG_10, _, ⟨GF_okQ kG_10 kM_10 kP_10, kFZ_ok kZ_10, hMv_of (kCh_ok kG_10).1 (kCh_ok kG_10).2.1 (kCh_ok kG_10).2.2.2.2.2.2.1 (kBd_ok kB_10)⟩, kR_ok kR_10⟩
theorem gx_11 : GX 11 := ⟨mkP dG_11, _, ⟨GF_okQ kG_11 kM_11 kP_11, kFZ_ok kZ_11, hMv_of (kCh_ok kG_11).1 (kCh_ok kG_11).2.1 (kCh_ok kG_11).2.2.2.2.2.2.1 (kBd_ok kB_11)⟩, kR_ok kR_11⟩
theorem gx_12 : GX 12 := ⟨mkP dG_12, _, ⟨GF_okQ kG_12 kM_12 kP_12, kFZ_ok kZ_12, hMv_of (kCh_ok kG_12).1 (kCh_ok kG_12).2.1 (kCh_ok kG_12).2.2.2.2.2.2.1 (kBd_ok kB_12)⟩, kR_ok kR_12⟩
theorem gx_13 : GX 13 := ⟨mkP dG_13, _, ⟨GF_okQ kG_13 kM_13 kP_13, kFZ_ok kZ_13, hMv_of (kCh_ok kG_13).1 (kCh_ok kG_13).2.1 (kCh_ok kG_13).2.2.2.2.2.2.1 (kBd_ok kB_13)⟩, kR_ok kR_13⟩
theorem gx_14 : GX 14 := ⟨mkP dG_14, _, ⟨GF_okQ kG_14 kM_14 kP_14, kFZ_ok kZ_14, hMv_of (kCh_ok kG_14).1 (kCh_ok kG_14).2.1 (kCh_ok kG_14).2.2.2.2.2.2.1 (kBd_ok kB_14)⟩, kR_ok kR_14⟩
theorem gx_15 : GX 15 := ⟨mkP dG_15, _, ⟨GF_okQ kG_15 kM_15 kP_15, kFZ_ok kZ_15, hMv_of (kCh_ok kG_15).1 (kCh_ok kG_15).2.1 (kCh_ok kG_15).2.2.2.2.2.2.1 (kBd_ok kB_15)⟩, kR_ok kR_15⟩
theorem gx_16 : GX 16 := ⟨mkP dG_16, _, ⟨GF_okQ kG_16 kM_16 kP_16, kFZ_ok kZ_16, hMv_of (kCh_ok kG_16).1 (kCh_ok kG_16).2.1 (kCh_ok kG_16).2.2.2.2.2.2.1 (kBd_ok kB_16)⟩, kR_ok kR_16⟩
theorem gx_17 : GX 17 := ⟨mkP dG_17, _, ⟨GF_okQ kG_17 kM_17 kP_17, kFZ_ok kZ_17, hMv_of (kCh_ok kG_17).1 (kCh_ok kG_17).2.1 (kCh_ok kG_17).2.2.2.2.2.2.1 (kBd_ok kB_17)⟩, kR_ok kR_17⟩
theorem gx_18 : GX 18 := ⟨mkP dG_18, _, ⟨GF_okQ kG_18 kM_18 kP_18, kFZ_ok kZ_18, hMv_of (kCh_ok kG_18).1 (kCh_ok kG_18).2.1 (kCh_ok kG_18).2.2.2.2.2.2.1 (kBd_ok kB_18)⟩, kR_ok kR_18⟩
theorem gx_19 : GX 19 := ⟨mkP dG_19, _, ⟨GF_okQ kG_19 kM_19 kP_19, kFZ_ok kZ_19, hMv_of (kCh_ok kG_19).1 (kCh_ok kG_19).2.1 (kCh_ok kG_19).2.2.2.2.2.2.1 (kBd_ok kB_19)⟩, kR_ok kR_19⟩
theorem gx_20 : GX 20 := ⟨mkP dG_20, _, ⟨GF_okQ kG_20 kM_20 kP_20, kFZ_ok kZ_20, hMv_of (kCh_ok kG_20).1 (kCh_ok kG_20).2.1 (kCh_ok kG_20).2.2.2.2.2.2.1 (kBd_ok kB_20)⟩, kR_ok kR_20⟩
theorem gx_21 : GX 21 := ⟨mkP dG_21, _, ⟨GF_okQ kG_21 kM_21 kP_21, kFZ_ok kZ_21, hMv_of (kCh_ok kG_21).1 (kCh_ok kG_21).2.1 (kCh_ok kG_21).2.2.2.2.2.2.1 (kBd_ok kB_21)⟩, kR_ok kR_21⟩
theorem gx_22 : GX 22 := ⟨mkP dG_22, _, ⟨GF_okQ kG_22 kM_22 kP_22, kFZ_ok kZ_22, hMv_of (kCh_ok kG_22).1 (kCh_ok kG_22).2.1 (kCh_ok kG_22).2.2.2.2.2.2.1 (kBd_ok kB_22)⟩, kR_ok kR_22⟩
theorem gx_23 : GX 23 := ⟨mkP dG_23, _, ⟨GF_okQ kG_23 kM_23 kP_23, kFZ_ok kZ_23, hMv_of (kCh_ok kG_23).1 (kCh_ok kG_23).2.1 (kCh_ok kG_23).2.2.2.2.2.2.1 (kBd_ok kB_23)⟩, kR_ok kR_23⟩
theorem gx_24 : GX 24 := ⟨mkP dG_24, _, ⟨GF_okQ kG_24 kM_24 kP_24, kFZ_ok kZ_24, hMv_of (kCh_ok kG_24).1 (kCh_ok kG_24).2.1 (kCh_ok kG_24).2.2.2.2.2.2.1 (kBd_ok kB_24)⟩, kR_ok kR_24⟩
theorem gx_25 : GX 25 := ⟨mkP dG_25, _, ⟨GF_okQ kG_25 kM_25 kP_25, kFZ_ok kZ_25, hMv_of (kCh_ok kG_25).1 (kCh_ok kG_25).2.1 (kCh_ok kG_25).2.2.2.2.2.2.1 (kBd_ok kB_25)⟩, kR_ok kR_25⟩
theorem gx_26 : GX 26 := ⟨mkP dG_26, _, ⟨GF_okQ kG_26 kM_26 kP_26, kFZ_ok kZ_26, hMv_of (kCh_ok kG_26).1 (kCh_ok kG_26).2.1 (kCh_ok kG_26).2.2.2.2.2.2.1 (kBd_ok kB_26)⟩, kR_ok kR_26⟩
theorem gx_27 : GX 27 := ⟨mkP dG_27, _, ⟨GF_okQ kG_27 kM_27 kP_27, kFZ_ok kZ_27, hMv_of (kCh_ok kG_27).1 (kCh_ok kG_27).2.1 (kCh_ok kG_27).2.2.2.2.2.2.1 (kBd_ok kB_27)⟩, kR_ok kR_27⟩
theorem gx_28 : GX 28 := ⟨mkP dG_28, _, ⟨GF_okQ kG_28 kM_28 kP_28, kFZ_ok kZ_28, hMv_of (kCh_ok kG_28).1 (kCh_ok kG_28).2.1 (kCh_ok kG_28).2.2.2.2.2.2.1 (kBd_ok kB_28)⟩, kR_ok kR_28⟩
theorem gx_29 : GX 29 := ⟨mkP dG_29, _, ⟨GF_okQ kG_29 kM_29 kP_29, kFZ_ok kZ_29, hMv_of (kCh_ok kG_29).1 (kCh_ok kG_29).2.1 (kCh_ok kG_29).2.2.2.2.2.2.1 (kBd_ok kB_29)⟩, kR_ok kR_29⟩
theorem gx_30 : GX 30 := ⟨mkP dG_30, _, ⟨GF_okQ kG_30 kM_30 kP_30, kFZ_ok kZ_30, hMv_of (kCh_ok kG_30).1 (kCh_ok kG_30).2.1 (kCh_ok kG_30).2.2.2.2.2.2.1 (kBd_ok kB_30)⟩, kR_ok kR_30⟩
theorem gx_31 : GX 31 := ⟨mkP dG_31, _, ⟨GF_okQ kG_31 kM_31 kP_31, kFZ_ok kZ_31, hMv_of (kCh_ok kG_31).1 (kCh_ok kG_31).2.1 (kCh_ok kG_31).2.2.2.2.2.2.1 (kBd_ok kB_31)⟩, kR_ok kR_31⟩
theorem gx_32 : GX 32 := ⟨mkP dG_32, _, ⟨GF_okQ kG_32 kM_32 kP_32, kFZ_ok kZ_32, hMv_of (kCh_ok kG_32).1 (kCh_ok kG_32).2.1 (kCh_ok kG_32).2.2.2.2.2.2.1 (kBd_ok kB_32)⟩, kR_ok kR_32⟩
theorem gx_33 : GX 33 := ⟨mkP dG_33, _, ⟨GF_okQ kG_33 kM_33 kP_33, kFZ_ok kZ_33, hMv_of (kCh_ok kG_33).1 (kCh_ok kG_33).2.1 (kCh_ok kG_33).2.2.2.2.2.2.1 (kBd_ok kB_33)⟩, kR_ok kR_33⟩
theorem gx_34 : GX 34 := ⟨mkP dG_34, _, ⟨GF_okQ kG_34 kM_34 kP_34, kFZ_ok kZ_34, hMv_of (kCh_ok kG_34).1 (kCh_ok kG_34).2.1 (kCh_ok kG_34).2.2.2.2.2.2.1 (kBd_ok kB_34)⟩, kR_ok kR_34⟩
theorem gx_35 : GX 35 := ⟨mkP dG_35, _, ⟨GF_okQ kG_35 kM_35 kP_35, kFZ_ok kZ_35, hMv_of (kCh_ok kG_35).1 (kCh_ok kG_35).2.1 (kCh_ok kG_35).2.2.2.2.2.2.1 (kBd_ok kB_35)⟩, kR_ok kR_35⟩
theorem gx_36 : GX 36 := ⟨mkP dG_36, _, ⟨GF_okQ kG_36 kM_36 kP_36, kFZ_ok kZ_36, hMv_of (kCh_ok kG_36).1 (kCh_ok kG_36).2.1 (kCh_ok kG_36).2.2.2.2.2.2.1 (kBd_ok kB_36)⟩, kR_ok kR_36⟩
theorem gx_37 : GX 37 := ⟨mkP dG_37, _, ⟨GF_okQ kG_37 kM_37 kP_37, kFZ_ok kZ_37, hMv_of (kCh_ok kG_37).1 (kCh_ok kG_37).2.1 (kCh_ok kG_37).2.2.2.2.2.2.1 (kBd_ok kB_37)⟩, kR_ok kR_37⟩
theorem gx_38 : GX 38 := ⟨mkP dG_38, _, ⟨GF_okQ kG_38 kM_38 kP_38, kFZ_ok kZ_38, hMv_of (kCh_ok kG_38).1 (kCh_ok kG_38).2.1 (kCh_ok kG_38).2.2.2.2.2.2.1 (kBd_ok kB_38)⟩, kR_ok kR_38⟩
theorem gx_39 : GX 39 := ⟨mkP dG_39, _, ⟨GF_okQ kG_39 kM_39 kP_39, kFZ_ok kZ_39, hMv_of (kCh_ok kG_39).1 (kCh_ok kG_39).2.1 (kCh_ok kG_39).2.2.2.2.2.2.1 (kBd_ok kB_39)⟩, kR_ok kR_39⟩
theorem gx_40 : GX 40 := ⟨mkP dG_40, _, ⟨GF_okQ kG_40 kM_40 kP_40, kFZ_ok kZ_40, hMv_of (kCh_ok kG_40).1 (kCh_ok kG_40).2.1 (kCh_ok kG_40).2.2.2.2.2.2.1 (kBd_ok kB_40)⟩, kR_ok kR_40⟩
theorem gx_41 : GX 41 := ⟨mkP dG_41, _, ⟨GF_okQ kG_41 kM_41 kP_41, kFZ_ok kZ_41, hMv_of (kCh_ok kG_41).1 (kCh_ok kG_41).2.1 (kCh_ok kG_41).2.2.2.2.2.2.1 (kBd_ok kB_41)⟩, kR_ok kR_41⟩
theorem gx_42 : GX 42 := ⟨mkP dG_42, _, ⟨GF_okQ kG_42 kM_42 kP_42, kFZ_ok kZ_42, hMv_of (kCh_ok kG_42).1 (kCh_ok kG_42).2.1 (kCh_ok kG_42).2.2.2.2.2.2.1 (kBd_ok kB_42)⟩, kR_ok kR_42⟩
theorem gx_43 : GX 43 := ⟨mkP dG_43, _, ⟨GF_okQ kG_43 kM_43 kP_43, kFZ_ok kZ_43, hMv_of (kCh_ok kG_43).1 (kCh_ok kG_43).2.1 (kCh_ok kG_43).2.2.2.2.2.2.1 (kBd_ok kB_43)⟩, kR_ok kR_43⟩
theorem gx_44 : GX 44 := ⟨mkP dG_44, _, ⟨GF_okQ kG_44 kM_44 kP_44, kFZ_ok kZ_44, hMv_of (kCh_ok kG_44).1 (kCh_ok kG_44).2.1 (kCh_ok kG_44).2.2.2.2.2.2.1 (kBd_ok kB_44)⟩, kR_ok kR_44⟩
theorem gx_45 : GX 45 := ⟨mkP dG_45, _, ⟨GF_okQ kG_45 kM_45 kP_45, kFZ_ok kZ_45, hMv_of (kCh_ok kG_45).1 (kCh_ok kG_45).2.1 (kCh_ok kG_45).2.2.2.2.2.2.1 (kBd_ok kB_45)⟩, kR_ok kR_45⟩
theorem gx_46 : GX 46 := ⟨mkP dG_46, _, ⟨GF_okQ kG_46 kM_46 kP_46, kFZ_ok kZ_46, hMv_of (kCh_ok kG_46).1 (kCh_ok kG_46).2.1 (kCh_ok kG_46).2.2.2.2.2.2.1 (kBd_ok kB_46)⟩, kR_ok kR_46⟩
theorem gx_47 : GX 47 := ⟨mkP dG_47, _, ⟨GF_okQ kG_47 kM_47 kP_47, kFZ_ok kZ_47, hMv_of (kCh_ok kG_47).1 (kCh_ok kG_47).2.1 (kCh_ok kG_47).2.2.2.2.2.2.1 (kBd_ok kB_47)⟩, kR_ok kR_47⟩
theorem gx_48 : GX 48 := ⟨mkP dG_48, _, ⟨GF_okQ kG_48 kM_48 kP_48, kFZ_ok kZ_48, hMv_of (kCh_ok kG_48).1 (kCh_ok kG_48).2.1 (kCh_ok kG_48).2.2.2.2.2.2.1 (kBd_ok kB_48)⟩, kR_ok kR_48⟩
theorem gx_49 : GX 49 := ⟨mkP dG_49, _, ⟨GF_okQ kG_49 kM_49 kP_49, kFZ_ok kZ_49, hMv_of (kCh_ok kG_49).1 (kCh_ok kG_49).2.1 (kCh_ok kG_49).2.2.2.2.2.2.1 (kBd_ok kB_49)⟩, kR_ok kR_49⟩
theorem gx_50 : GX 50 := ⟨mkP dG_50, _, ⟨GF_okQ kG_50 kM_50 kP_50, kFZ_ok kZ_50, hMv_of (kCh_ok kG_50).1 (kCh_ok kG_50).2.1 (kCh_ok kG_50).2.2.2.2.2.2.1 (kBd_ok kB_50)⟩, kR_ok kR_50⟩
theorem gx_51 : GX 51 := ⟨mkP dG_51, _, ⟨GF_okQ kG_51 kM_51 kP_51, kFZ_ok kZ_51, hMv_of (kCh_ok kG_51).1 (kCh_ok kG_51).2.1 (kCh_ok kG_51).2.2.2.2.2.2.1 (kBd_ok kB_51)⟩, kR_ok kR_51⟩
theorem gx_52 : GX 52 := ⟨mkP dG_52, _, ⟨GF_okQ kG_52 kM_52 kP_52, kFZ_ok kZ_52, hMv_of (kCh_ok kG_52).1 (kCh_ok kG_52).2.1 (kCh_ok kG_52).2.2.2.2.2.2.1 (kBd_ok kB_52)⟩, kR_ok kR_52⟩
theorem gx_53 : GX 53 := ⟨mkP dG_53, _, ⟨GF_okQ kG_53 kM_53 kP_53, kFZ_ok kZ_53, hMv_of (kCh_ok kG_53).1 (kCh_ok kG_53).2.1 (kCh_ok kG_53).2.2.2.2.2.2.1 (kBd_ok kB_53)⟩, kR_ok kR_53⟩
theorem gx_54 : GX 54 := ⟨mkP dG_54, _, ⟨GF_okQ kG_54 kM_54 kP_54, kFZ_ok kZ_54, hMv_of (kCh_ok kG_54).1 (kCh_ok kG_54).2.1 (kCh_ok kG_54).2.2.2.2.2.2.1 (kBd_ok kB_54)⟩, kR_ok kR_54⟩
theorem gx_55 : GX 55 := ⟨mkP dG_55, _, ⟨GF_okQ kG_55 kM_55 kP_55, kFZ_ok kZ_55, hMv_of (kCh_ok kG_55).1 (kCh_ok kG_55).2.1 (kCh_ok kG_55).2.2.2.2.2.2.1 (kBd_ok kB_55)⟩, kR_ok kR_55⟩
theorem gx_56 : GX 56 := ⟨mkP dG_56, _, ⟨GF_okQ kG_56 kM_56 kP_56, kFZ_ok kZ_56, hMv_of (kCh_ok kG_56).1 (kCh_ok kG_56).2.1 (kCh_ok kG_56).2.2.2.2.2.2.1 (kBd_ok kB_56)⟩, kR_ok kR_56⟩
theorem gx_57 : GX 57 := ⟨mkP dG_57, _, ⟨GF_okQ kG_57 kM_57 kP_57, kFZ_ok kZ_57, hMv_of (kCh_ok kG_57).1 (kCh_ok kG_57).2.1 (kCh_ok kG_57).2.2.2.2.2.2.1 (kBd_ok kB_57)⟩, kR_ok kR_57⟩
theorem gx_58 : GX 58 := ⟨mkP dG_58, _, ⟨GF_okQ kG_58 kM_58 kP_58, kFZ_ok kZ_58, hMv_of (kCh_ok kG_58).1 (kCh_ok kG_58).2.1 (kCh_ok kG_58).2.2.2.2.2.2.1 (kBd_ok kB_58)⟩, kR_ok kR_58⟩
theorem gx_59 : GX 59 := ⟨mkP dG_59, _, ⟨GF_okQ kG_59 kM_59 kP_59, kFZ_ok kZ_59, hMv_of (kCh_ok kG_59).1 (kCh_ok kG_59).2.1 (kCh_ok kG_59).2.2.2.2.2.2.1 (kBd_ok kB_59)⟩, kR_ok kR_59⟩
theorem gx_60 : GX 60 := ⟨mkP dG_60, _, ⟨GF_okQ kG_60 kM_60 kP_60, kFZ_ok kZ_60, hMv_of (kCh_ok kG_60).1 (kCh_ok kG_60).2.1 (kCh_ok kG_60).2.2.2.2.2.2.1 (kBd_ok kB_60)⟩, kR_ok kR_60⟩
theorem gx_61 : GX 61 := ⟨mkP dG_61, _, ⟨GF_okQ kG_61 kM_61 kP_61, kFZ_ok kZ_61, hMv_of (kCh_ok kG_61).1 (kCh_ok kG_61).2.1 (kCh_ok kG_61).2.2.2.2.2.2.1 (kBd_ok kB_61)⟩, kR_ok kR_61⟩
theorem gx_62 : GX 62 := ⟨mkP dG_62, _, ⟨GF_okQ kG_62 kM_62 kP_62, kFZ_ok kZ_62, hMv_of (kCh_ok kG_62).1 (kCh_ok kG_62).2.1 (kCh_ok kG_62).2.2.2.2.2.2.1 (kBd_ok kB_62)⟩, kR_ok kR_62⟩
theorem gx_63 : GX 63 := ⟨mkP dG_63, _, ⟨GF_okQ kG_63 kM_63 kP_63, kFZ_ok kZ_63, hMv_of (kCh_ok kG_63).1 (kCh_ok kG_63).2.1 (kCh_ok kG_63).2.2.2.2.2.2.1 (kBd_ok kB_63)⟩, kR_ok kR_63⟩
theorem gx_64 : GX 64 := ⟨mkP dG_64, _, ⟨GF_okQ kG_64 kM_64 kP_64, kFZ_ok kZ_64, hMv_of (kCh_ok kG_64).1 (kCh_ok kG_64).2.1 (kCh_ok kG_64).2.2.2.2.2.2.1 (kBd_ok kB_64)⟩, kR_ok kR_64⟩
theorem gx_65 : GX 65 := ⟨mkP dG_65, _, ⟨GF_okQ kG_65 kM_65 kP_65, kFZ_ok kZ_65, hMv_of (kCh_ok kG_65).1 (kCh_ok kG_65).2.1 (kCh_ok kG_65).2.2.2.2.2.2.1 (kBd_ok kB_65)⟩, kR_ok kR_65⟩
theorem gx_66 : GX 66 := ⟨mkP dG_66, _, ⟨GF_okQ kG_66 kM_66 kP_66, kFZ_ok kZ_66, hMv_of (kCh_ok kG_66).1 (kCh_ok kG_66).2.1 (kCh_ok kG_66).2.2.2.2.2.2.1 (kBd_ok kB_66)⟩, kR_ok kR_66⟩
theorem gx_67 : GX 67 := ⟨mkP dG_67, _, ⟨GF_okQ kG_67 kM_67 kP_67, kFZ_ok kZ_67, hMv_of (kCh_ok kG_67).1 (kCh_ok kG_67).2.1 (kCh_ok kG_67).2.2.2.2.2.2.1 (kBd_ok kB_67)⟩, kR_ok kR_67⟩
theorem gx_68 : GX 68 := ⟨mkP dG_68, _, ⟨GF_okQ kG_68 kM_68 kP_68, kFZ_ok kZ_68, hMv_of (kCh_ok kG_68).1 (kCh_ok kG_68).2.1 (kCh_ok kG_68).2.2.2.2.2.2.1 (kBd_ok kB_68)⟩, kR_ok kR_68⟩
theorem gx_69 : GX 69 := ⟨mkP dG_69, _, ⟨GF_okQ kG_69 kM_69 kP_69, kFZ_ok kZ_69, hMv_of (kCh_ok kG_69).1 (kCh_ok kG_69).2.1 (kCh_ok kG_69).2.2.2.2.2.2.1 (kBd_ok kB_69)⟩, kR_ok kR_69⟩
theorem gx_70 : GX 70 := ⟨mkP dG_70, _, ⟨GF_okQ kG_70 kM_70 kP_70, kFZ_ok kZ_70, hMv_of (kCh_ok kG_70).1 (kCh_ok kG_70).2.1 (kCh_ok kG_70).2.2.2.2.2.2.1 (kBd_ok kB_70)⟩, kR_ok kR_70⟩
theorem gx_71 : GX 71 := ⟨mkP dG_71, _, ⟨GF_okQ kG_71 kM_71 kP_71, kFZ_ok kZ_71, hMv_of (kCh_ok kG_71).1 (kCh_ok kG_71).2.1 (kCh_ok kG_71).2.2.2.2.2.2.1 (kBd_ok kB_71)⟩, kR_ok kR_71⟩
theorem gx_72 : GX 72 := ⟨mkP dG_72, _, ⟨GF_okQ kG_72 kM_72 kP_72, kFZ_ok kZ_72, hMv_of (kCh_ok kG_72).1 (kCh_ok kG_72).2.1 (kCh_ok kG_72).2.2.2.2.2.2.1 (kBd_ok kB_72)⟩, kR_ok kR_72⟩
theorem gx_73 : GX 73 := ⟨mkP dG_73, _, ⟨GF_okQ kG_73 kM_73 kP_73, kFZ_ok kZ_73, hMv_of (kCh_ok kG_73).1 (kCh_ok kG_73).2.1 (kCh_ok kG_73).2.2.2.2.2.2.1 (kBd_ok kB_73)⟩, kR_ok kR_73⟩
theorem gx_74 : GX 74 := ⟨mkP dG_74, _, ⟨GF_okQ kG_74 kM_74 kP_74, kFZ_ok kZ_74, hMv_of (kCh_ok kG_74).1 (kCh_ok kG_74).2.1 (kCh_ok kG_74).2.2.2.2.2.2.1 (kBd_ok kB_74)⟩, kR_ok kR_74⟩
theorem gx_75 : GX 75 := ⟨mkP dG_75, _, ⟨GF_okQ kG_75 kM_75 kP_75, kFZ_ok kZ_75, hMv_of (kCh_ok kG_75).1 (kCh_ok kG_75).2.1 (kCh_ok kG_75).2.2.2.2.2.2.1 (kBd_ok kB_75)⟩, kR_ok kR_75⟩
theorem gx_76 : GX 76 := ⟨mkP dG_76, _, ⟨GF_okQ kG_76 kM_76 kP_76, kFZ_ok kZ_76, hMv_of (kCh_ok kG_76).1 (kCh_ok kG_76).2.1 (kCh_ok kG_76).2.2.2.2.2.2.1 (kBd_ok kB_76)⟩, kR_ok kR_76⟩
theorem gx_77 : GX 77 := ⟨mkP dG_77, _, ⟨GF_okQ kG_77 kM_77 kP_77, kFZ_ok kZ_77, hMv_of (kCh_ok kG_77).1 (kCh_ok kG_77).2.1 (kCh_ok kG_77).2.2.2.2.2.2.1 (kBd_ok kB_77)⟩, kR_ok kR_77⟩
theorem gx_78 : GX 78 := ⟨mkP dG_78, _, ⟨GF_okQ kG_78 kM_78 kP_78, kFZ_ok kZ_78, hMv_of (kCh_ok kG_78).1 (kCh_ok kG_78).2.1 (kCh_ok kG_78).2.2.2.2.2.2.1 (kBd_ok kB_78)⟩, kR_ok kR_78⟩
theorem gx_79 : GX 79 := ⟨mkP dG_79, _, ⟨GF_okQ kG_79 kM_79 kP_79, kFZ_ok kZ_79, hMv_of (kCh_ok kG_79).1 (kCh_ok kG_79).2.1 (kCh_ok kG_79).2.2.2.2.2.2.1 (kBd_ok kB_79)⟩, kR_ok kR_79⟩
theorem gx_80 : GX 80 := ⟨mkP dG_80, _, ⟨GF_okQ kG_80 kM_80 kP_80, kFZ_ok kZ_80, hMv_of (kCh_ok kG_80).1 (kCh_ok kG_80).2.1 (kCh_ok kG_80).2.2.2.2.2.2.1 (kBd_ok kB_80)⟩, kR_ok kR_80⟩
theorem gx_81 : GX 81 := ⟨mkP dG_81, _, ⟨GF_okQ kG_81 kM_81 kP_81, kFZ_ok kZ_81, hMv_of (kCh_ok kG_81).1 (kCh_ok kG_81).2.1 (kCh_ok kG_81).2.2.2.2.2.2.1 (kBd_ok kB_81)⟩, kR_ok kR_81⟩
theorem gx_82 : GX 82 := ⟨mkP dG_82, _, ⟨GF_okQ kG_82 kM_82 kP_82, kFZ_ok kZ_82, hMv_of (kCh_ok kG_82).1 (kCh_ok kG_82).2.1 (kCh_ok kG_82).2.2.2.2.2.2.1 (kBd_ok kB_82)⟩, kR_ok kR_82⟩
theorem gx_83 : GX 83 := ⟨mkP dG_83, _, ⟨GF_okQ kG_83 kM_83 kP_83, kFZ_ok kZ_83, hMv_of (kCh_ok kG_83).1 (kCh_ok kG_83).2.1 (kCh_ok kG_83).2.2.2.2.2.2.1 (kBd_ok kB_83)⟩, kR_ok kR_83⟩
theorem gx_84 : GX 84 := ⟨mkP dG_84, _, ⟨GF_okQ kG_84 kM_84 kP_84, kFZ_ok kZ_84, hMv_of (kCh_ok kG_84).1 (kCh_ok kG_84).2.1 (kCh_ok kG_84).2.2.2.2.2.2.1 (kBd_ok kB_84)⟩, kR_ok kR_84⟩
theorem gx_85 : GX 85 := ⟨mkP dG_85, _, ⟨GF_okQ kG_85 kM_85 kP_85, kFZ_ok kZ_85, hMv_of (kCh_ok kG_85).1 (kCh_ok kG_85).2.1 (kCh_ok kG_85).2.2.2.2.2.2.1 (kBd_ok kB_85)⟩, kR_ok kR_85⟩
theorem gx_86 : GX 86 := ⟨mkP dG_86, _, ⟨GF_okQ kG_86 kM_86 kP_86, kFZ_ok kZ_86, hMv_of (kCh_ok kG_86).1 (kCh_ok kG_86).2.1 (kCh_ok kG_86).2.2.2.2.2.2.1 (kBd_ok kB_86)⟩, kR_ok kR_86⟩
theorem gx_87 : GX 87 := ⟨mkP dG_87, _, ⟨GF_okQ kG_87 kM_87 kP_87, kFZ_ok kZ_87, hMv_of (kCh_ok kG_87).1 (kCh_ok kG_87).2.1 (kCh_ok kG_87).2.2.2.2.2.2.1 (kBd_ok kB_87)⟩, kR_ok kR_87⟩
theorem gx_88 : GX 88 := ⟨mkP dG_88, _, ⟨GF_okQ kG_88 kM_88 kP_88, kFZ_ok kZ_88, hMv_of (kCh_ok kG_88).1 (kCh_ok kG_88).2.1 (kCh_ok kG_88).2.2.2.2.2.2.1 (kBd_ok kB_88)⟩, kR_ok kR_88⟩
theorem gx_89 : GX 89 := ⟨mkP dG_89, _, ⟨GF_okQ kG_89 kM_89 kP_89, kFZ_ok kZ_89, hMv_of (kCh_ok kG_89).1 (kCh_ok kG_89).2.1 (kCh_ok kG_89).2.2.2.2.2.2.1 (kBd_ok kB_89)⟩, kR_ok kR_89⟩
theorem gx_90 : GX 90 := ⟨mkP dG_90, _, ⟨GF_okQ kG_90 kM_90 kP_90, kFZ_ok kZ_90, hMv_of (kCh_ok kG_90).1 (kCh_ok kG_90).2.1 (kCh_ok kG_90).2.2.2.2.2.2.1 (kBd_ok kB_90)⟩, kR_ok kR_90⟩
theorem gx_91 : GX 91 := ⟨mkP dG_91, _, ⟨GF_okQ kG_91 kM_91 kP_91, kFZ_ok kZ_91, hMv_of (kCh_ok kG_91).1 (kCh_ok kG_91).2.1 (kCh_ok kG_91).2.2.2.2.2.2.1 (kBd_ok kB_91)⟩, kR_ok kR_91⟩
theorem gx_92 : GX 92 := ⟨mkP dG_92, _, ⟨GF_okQ kG_92 kM_92 kP_92, kFZ_ok kZ_92, hMv_of (kCh_ok kG_92).1 (kCh_ok kG_92).2.1 (kCh_ok kG_92).2.2.2.2.2.2.1 (kBd_ok kB_92)⟩, kR_ok kR_92⟩
theorem gx_93 : GX 93 := ⟨mkP dG_93, _, ⟨GF_okQ kG_93 kM_93 kP_93, kFZ_ok kZ_93, hMv_of (kCh_ok kG_93).1 (kCh_ok kG_93).2.1 (kCh_ok kG_93).2.2.2.2.2.2.1 (kBd_ok kB_93)⟩, kR_ok kR_93⟩
theorem gx_94 : GX 94 := ⟨mkP dG_94, _, ⟨GF_okQ kG_94 kM_94 kP_94, kFZ_ok kZ_94, hMv_of (kCh_ok kG_94).1 (kCh_ok kG_94).2.1 (kCh_ok kG_94).2.2.2.2.2.2.1 (kBd_ok kB_94)⟩, kR_ok kR_94⟩
theorem gx_95 : GX 95 := ⟨mkP dG_95, _, ⟨GF_okQ kG_95 kM_95 kP_95, kFZ_ok kZ_95, hMv_of (kCh_ok kG_95).1 (kCh_ok kG_95).2.1 (kCh_ok kG_95).2.2.2.2.2.2.1 (kBd_ok kB_95)⟩, kR_ok kR_95⟩
theorem gx_96 : GX 96 := ⟨mkP dG_96, _, ⟨GF_okQ kG_96 kM_96 kP_96, kFZ_ok kZ_96, hMv_of (kCh_ok kG_96).1 (kCh_ok kG_96).2.1 (kCh_ok kG_96).2.2.2.2.2.2.1 (kBd_ok kB_96)⟩, kR_ok kR_96⟩
theorem gx_97 : GX 97 := ⟨mkP dG_97, _, ⟨GF_okQ kG_97 kM_97 kP_97, kFZ_ok kZ_97, hMv_of (kCh_ok kG_97).1 (kCh_ok kG_97).2.1 (kCh_ok kG_97).2.2.2.2.2.2.1 (kBd_ok kB_97)⟩, kR_ok kR_97⟩
theorem gx_98 : GX 98 := ⟨mkP dG_98, _, ⟨GF_okQ kG_98 kM_98 kP_98, kFZ_ok kZ_98, hMv_of (kCh_ok kG_98).1 (kCh_ok kG_98).2.1 (kCh_ok kG_98).2.2.2.2.2.2.1 (kBd_ok kB_98)⟩, kR_ok kR_98⟩
theorem gx_99 : GX 99 := ⟨mkP dG_99, _, ⟨GF_okQ kG_99 kM_99 kP_99, kFZ_ok kZ_99, hMv_of (kCh_ok kG_99).1 (kCh_ok kG_99).2.1 (kCh_ok kG_99).2.2.2.2.2.2.1 (kBd_ok kB_99)⟩, kR_ok kR_99⟩
theorem gx_100 : GX 100 := ⟨mkP dG_100, _, ⟨GF_okQ kG_100 kM_100 kP_100, kFZ_ok kZ_100, hMv_of (kCh_ok kG_100).1 (kCh_ok kG_100).2.1 (kCh_ok kG_100).2.2.2.2.2.2.1 (kBd_ok kB_100)⟩, kR_ok kR_100⟩
theorem gx_101 : GX 101 := ⟨mkP dG_101, _, ⟨GF_okQ kG_101 kM_101 kP_101, kFZ_ok kZ_101, hMv_of (kCh_ok kG_101).1 (kCh_ok kG_101).2.1 (kCh_ok kG_101).2.2.2.2.2.2.1 (kBd_ok kB_101)⟩, kR_ok kR_101⟩
theorem gx_102 : GX 102 := ⟨mkP dG_102, _, ⟨GF_okQ kG_102 kM_102 kP_102, kFZ_ok kZ_102, hMv_of (kCh_ok kG_102).1 (kCh_ok kG_102).2.1 (kCh_ok kG_102).2.2.2.2.2.2.1 (kBd_ok kB_102)⟩, kR_ok kR_102⟩
theorem gx_103 : GX 103 := ⟨mkP dG_103, _, ⟨GF_okQ kG_103 kM_103 kP_103, kFZ_ok kZ_103, hMv_of (kCh_ok kG_103).1 (kCh_ok kG_103).2.1 (kCh_ok kG_103).2.2.2.2.2.2.1 (kBd_ok kB_103)⟩, kR_ok kR_103⟩
theorem gx_104 : GX 104 := ⟨mkP dG_104, _, ⟨GF_okQ kG_104 kM_104 kP_104, kFZ_ok kZ_104, hMv_of (kCh_ok kG_104).1 (kCh_ok kG_104).2.1 (kCh_ok kG_104).2.2.2.2.2.2.1 (kBd_ok kB_104)⟩, kR_ok kR_104⟩
theorem gx_105 : GX 105 := ⟨mkP dG_105, _, ⟨GF_okQ kG_105 kM_105 kP_105, kFZ_ok kZ_105, hMv_of (kCh_ok kG_105).1 (kCh_ok kG_105).2.1 (kCh_ok kG_105).2.2.2.2.2.2.1 (kBd_ok kB_105)⟩, kR_ok kR_105⟩
theorem gx_106 : GX 106 := ⟨mkP dG_106, _, ⟨GF_okQ kG_106 kM_106 kP_106, kFZ_ok kZ_106, hMv_of (kCh_ok kG_106).1 (kCh_ok kG_106).2.1 (kCh_ok kG_106).2.2.2.2.2.2.1 (kBd_ok kB_106)⟩, kR_ok kR_106⟩
theorem gx_107 : GX 107 := ⟨mkP dG_107, _, ⟨GF_okQ kG_107 kM_107 kP_107, kFZ_ok kZ_107, hMv_of (kCh_ok kG_107).1 (kCh_ok kG_107).2.1 (kCh_ok kG_107).2.2.2.2.2.2.1 (kBd_ok kB_107)⟩, kR_ok kR_107⟩
theorem gx_108 : GX 108 := ⟨mkP dG_108, _, ⟨GF_okQ kG_108 kM_108 kP_108, kFZ_ok kZ_108, hMv_of (kCh_ok kG_108).1 (kCh_ok kG_108).2.1 (kCh_ok kG_108).2.2.2.2.2.2.1 (kBd_ok kB_108)⟩, kR_ok kR_108⟩
theorem gx_109 : GX 109 := ⟨mkP dG_109, _, ⟨GF_okQ kG_109 kM_109 kP_109, kFZ_ok kZ_109, hMv_of (kCh_ok kG_109).1 (kCh_ok kG_109).2.1 (kCh_ok kG_109).2.2.2.2.2.2.1 (kBd_ok kB_109)⟩, kR_ok kR_109⟩
theorem gx_110 : GX 110 := ⟨mkP dG_110, _, ⟨GF_okQ kG_110 kM_110 kP_110, kFZ_ok kZ_110, hMv_of (kCh_ok kG_110).1 (kCh_ok kG_110).2.1 (kCh_ok kG_110).2.2.2.2.2.2.1 (kBd_ok kB_110)⟩, kR_ok kR_110⟩
theorem gx_111 : GX 111 := ⟨mkP dG_111, _, ⟨GF_okQ kG_111 kM_111 kP_111, kFZ_ok kZ_111, hMv_of (kCh_ok kG_111).1 (kCh_ok kG_111).2.1 (kCh_ok kG_111).2.2.2.2.2.2.1 (kBd_ok kB_111)⟩, kR_ok kR_111⟩
theorem gx_112 : GX 112 := ⟨mkP dG_112, _, ⟨GF_okQ kG_112 kM_112 kP_112, kFZ_ok kZ_112, hMv_of (kCh_ok kG_112).1 (kCh_ok kG_112).2.1 (kCh_ok kG_112).2.2.2.2.2.2.1 (kBd_ok kB_112)⟩, kR_ok kR_112⟩
theorem gx_113 : GX 113 := ⟨mkP dG_113, _, ⟨GF_okQ kG_113 kM_113 kP_113, kFZ_ok kZ_113, hMv_of (kCh_ok kG_113).1 (kCh_ok kG_113).2.1 (kCh_ok kG_113).2.2.2.2.2.2.1 (kBd_ok kB_113)⟩, kR_ok kR_113⟩
theorem gx_114 : GX 114 := ⟨mkP dG_114, _, ⟨GF_okQ kG_114 kM_114 kP_114, kFZ_ok kZ_114, hMv_of (kCh_ok kG_114).1 (kCh_ok kG_114).2.1 (kCh_ok kG_114).2.2.2.2.2.2.1 (kBd_ok kB_114)⟩, kR_ok kR_114⟩
theorem gx_115 : GX 115 := ⟨mkP dG_115, _, ⟨GF_okQ kG_115 kM_115 kP_115, kFZ_ok kZ_115, hMv_of (kCh_ok kG_115).1 (kCh_ok kG_115).2.1 (kCh_ok kG_115).2.2.2.2.2.2.1 (kBd_ok kB_115)⟩, kR_ok kR_115⟩
theorem gx_116 : GX 116 := ⟨mkP dG_116, _, ⟨GF_okQ kG_116 kM_116 kP_116, kFZ_ok kZ_116, hMv_of (kCh_ok kG_116).1 (kCh_ok kG_116).2.1 (kCh_ok kG_116).2.2.2.2.2.2.1 (kBd_ok kB_116)⟩, kR_ok kR_116⟩
theorem gx_117 : GX 117 := ⟨mkP dG_117, _, ⟨GF_okQ kG_117 kM_117 kP_117, kFZ_ok kZ_117, hMv_of (kCh_ok kG_117).1 (kCh_ok kG_117).2.1 (kCh_ok kG_117).2.2.2.2.2.2.1 (kBd_ok kB_117)⟩, kR_ok kR_117⟩
theorem gx_118 : GX 118 := ⟨mkP dG_118, _, ⟨GF_okQ kG_118 kM_118 kP_118, kFZ_ok kZ_118, hMv_of (kCh_ok kG_118).1 (kCh_ok kG_118).2.1 (kCh_ok kG_118).2.2.2.2.2.2.1 (kBd_ok kB_118)⟩, kR_ok kR_118⟩
theorem gx_119 : GX 119 := ⟨mkP dG_119, _, ⟨GF_okQ kG_119 kM_119 kP_119, kFZ_ok kZ_119, hMv_of (kCh_ok kG_119).1 (kCh_ok kG_119).2.1 (kCh_ok kG_119).2.2.2.2.2.2.1 (kBd_ok kB_119)⟩, kR_ok kR_119⟩
theorem gx_120 : GX 120 := ⟨mkP dG_120, _, ⟨GF_okQ kG_120 kM_120 kP_120, kFZ_ok kZ_120, hMv_of (kCh_ok kG_120).1 (kCh_ok kG_120).2.1 (kCh_ok kG_120).2.2.2.2.2.2.1 (kBd_ok kB_120)⟩, kR_ok kR_120⟩
theorem ALLG_ok : ALLG := by
  intro i hi
  show GX i
  by_cases h0_121 : i < 60
  · skip
    by_cases h0_60 : i < 30
    · skip
      by_cases h0_30 : i < 15
      · skip
        by_cases h0_15 : i < 7
        · skip
          by_cases h0_7 : i < 3
          · skip
            by_cases h0_3 : i < 1
            · skip
              have e : i = 0 := by omega
              subst e
              exact gx_0
            · skip
              by_cases h1_3 : i < 2
              · skip
                have e : i = 1 := by omega
                subst e
                exact gx_1
              · skip
                have e : i = 2 := by omega
                subst e
                exact gx_2
          · skip
            by_cases h3_7 : i < 5
            · skip
              by_cases h3_5 : i < 4
              · skip
                have e : i = 3 := by omega
                subst e
                exact gx_3
              · skip
                have e : i = 4 := by omega
                subst e
                exact gx_4
            · skip
              by_cases h5_7 : i < 6
              · skip
                have e : i = 5 := by omega
                subst e
                exact gx_5
              · skip
                have e : i = 6 := by omega
                subst e
                exact gx_6
        · skip
          by_cases h7_15 : i < 11
          · skip
            by_cases h7_11 : i < 9
            · skip
              by_cases h7_9 : i < 8
              · skip
                have e : i = 7 := by omega
                subst e
                exact gx_7
              · skip
                have e : i = 8 := by omega
                subst e
                exact gx_8
            · skip
              by_cases h9_11 : i < 10
              · skip
                have e : i = 9 := by omega
                subst e
                exact gx_9
              · skip
                have e : i = 10 := by omega
                subst e
                exact gx_10
          · skip
            by_cases h11_15 : i < 13
            · skip
              by_cases h11_13 : i < 12
              · skip
                have e : i = 11 := by omega
                subst e
                exact gx_11
              · skip
                have e : i = 12 := by omega
                subst e
                exact gx_12
            · skip
              by_cases h13_15 : i < 14
              · skip
                have e : i = 13 := by omega
                subst e
                exact gx_13
              · skip
                have e : i = 14 := by omega
                subst e
                exact gx_14
      · skip
        by_cases h15_30 : i < 22
        · skip
          by_cases h15_22 : i < 18
          · skip
            by_cases h15_18 : i < 16
            · skip
              have e : i = 15 := by omega
              subst e
              exact gx_15
            · skip
              by_cases h16_18 : i < 17
              · skip
                have e : i = 16 := by omega
                subst e
                exact gx_16
              · skip
                have e : i = 17 := by omega
                subst e
                exact gx_17
          · skip
            by_cases h18_22 : i < 20
            · skip
              by_cases h18_20 : i < 19
              · skip
                have e : i = 18 := by omega
                subst e
                exact gx_18
              · skip
                have e : i = 19 := by omega
                subst e
                exact gx_19
            · skip
              by_cases h20_22 : i < 21
              · skip
                have e : i = 20 := by omega
                subst e
                exact gx_20
              · skip
                have e : i = 21 := by omega
                subst e
                exact gx_21
        · skip
          by_cases h22_30 : i < 26
          · skip
            by_cases h22_26 : i < 24
            · skip
              by_cases h22_24 : i < 23
              · skip
                have e : i = 22 := by omega
                subst e
                exact gx_22
              · skip
                have e : i = 23 := by omega
                subst e
                exact gx_23
            · skip
              by_cases h24_26 : i < 25
              · skip
                have e : i = 24 := by omega
                subst e
                exact gx_24
              · skip
                have e : i = 25 := by omega
                subst e
                exact gx_25
          · skip
            by_cases h26_30 : i < 28
            · skip
              by_cases h26_28 : i < 27
              · skip
                have e : i = 26 := by omega
                subst e
                exact gx_26
              · skip
                have e : i = 27 := by omega
                subst e
                exact gx_27
            · skip
              by_cases h28_30 : i < 29
              · skip
                have e : i = 28 := by omega
                subst e
                exact gx_28
              · skip
                have e : i = 29 := by omega
                subst e
                exact gx_29
    · skip
      by_cases h30_60 : i < 45
      · skip
        by_cases h30_45 : i < 37
        · skip
          by_cases h30_37 : i < 33
          · skip
            by_cases h30_33 : i < 31
            · skip
              have e : i = 30 := by omega
              subst e
              exact gx_30
            · skip
              by_cases h31_33 : i < 32
              · skip
                have e : i = 31 := by omega
                subst e
                exact gx_31
              · skip
                have e : i = 32 := by omega
                subst e
                exact gx_32
          · skip
            by_cases h33_37 : i < 35
            · skip
              by_cases h33_35 : i < 34
              · skip
                have e : i = 33 := by omega
                subst e
                exact gx_33
              · skip
                have e : i = 34 := by omega
                subst e
                exact gx_34
            · skip
              by_cases h35_37 : i < 36
              · skip
                have e : i = 35 := by omega
                subst e
                exact gx_35
              · skip
                have e : i = 36 := by omega
                subst e
                exact gx_36
        · skip
          by_cases h37_45 : i < 41
          · skip
            by_cases h37_41 : i < 39
            · skip
              by_cases h37_39 : i < 38
              · skip
                have e : i = 37 := by omega
                subst e
                exact gx_37
              · skip
                have e : i = 38 := by omega
                subst e
                exact gx_38
            · skip
              by_cases h39_41 : i < 40
              · skip
                have e : i = 39 := by omega
                subst e
                exact gx_39
              · skip
                have e : i = 40 := by omega
                subst e
                exact gx_40
          · skip
            by_cases h41_45 : i < 43
            · skip
              by_cases h41_43 : i < 42
              · skip
                have e : i = 41 := by omega
                subst e
                exact gx_41
              · skip
                have e : i = 42 := by omega
                subst e
                exact gx_42
            · skip
              by_cases h43_45 : i < 44
              · skip
                have e : i = 43 := by omega
                subst e
                exact gx_43
              · skip
                have e : i = 44 := by omega
                subst e
                exact gx_44
      · skip
        by_cases h45_60 : i < 52
        · skip
          by_cases h45_52 : i < 48
          · skip
            by_cases h45_48 : i < 46
            · skip
              have e : i = 45 := by omega
              subst e
              exact gx_45
            · skip
              by_cases h46_48 : i < 47
              · skip
                have e : i = 46 := by omega
                subst e
                exact gx_46
              · skip
                have e : i = 47 := by omega
                subst e
                exact gx_47
          · skip
            by_cases h48_52 : i < 50
            · skip
              by_cases h48_50 : i < 49
              · skip
                have e : i = 48 := by omega
                subst e
                exact gx_48
              · skip
                have e : i = 49 := by omega
                subst e
                exact gx_49
            · skip
              by_cases h50_52 : i < 51
              · skip
                have e : i = 50 := by omega
                subst e
                exact gx_50
              · skip
                have e : i = 51 := by omega
                subst e
                exact gx_51
        · skip
          by_cases h52_60 : i < 56
          · skip
            by_cases h52_56 : i < 54
            · skip
              by_cases h52_54 : i < 53
              · skip
                have e : i = 52 := by omega
                subst e
                exact gx_52
              · skip
                have e : i = 53 := by omega
                subst e
                exact gx_53
            · skip
              by_cases h54_56 : i < 55
              · skip
                have e : i = 54 := by omega
                subst e
                exact gx_54
              · skip
                have e : i = 55 := by omega
                subst e
                exact gx_55
          · skip
            by_cases h56_60 : i < 58
            · skip
              by_cases h56_58 : i < 57
              · skip
                have e : i = 56 := by omega
                subst e
                exact gx_56
              · skip
                have e : i = 57 := by omega
                subst e
                exact gx_57
            · skip
              by_cases h58_60 : i < 59
              · skip
                have e : i = 58 := by omega
                subst e
                exact gx_58
              · skip
                have e : i = 59 := by omega
                subst e
                exact gx_59
  · skip
    by_cases h60_121 : i < 90
    · skip
      by_cases h60_90 : i < 75
      · skip
        by_cases h60_75 : i < 67
        · skip
          by_cases h60_67 : i < 63
          · skip
            by_cases h60_63 : i < 61
            · skip
              have e : i = 60 := by omega
              subst e
              exact gx_60
            · skip
              by_cases h61_63 : i < 62
              · skip
                have e : i = 61 := by omega
                subst e
                exact gx_61
              · skip
                have e : i = 62 := by omega
                subst e
                exact gx_62
          · skip
            by_cases h63_67 : i < 65
            · skip
              by_cases h63_65 : i < 64
              · skip
                have e : i = 63 := by omega
                subst e
                exact gx_63
              · skip
                have e : i = 64 := by omega
                subst e
                exact gx_64
            · skip
              by_cases h65_67 : i < 66
              · skip
                have e : i = 65 := by omega
                subst e
                exact gx_65
              · skip
                have e : i = 66 := by omega
                subst e
                exact gx_66
        · skip
          by_cases h67_75 : i < 71
          · skip
            by_cases h67_71 : i < 69
            · skip
              by_cases h67_69 : i < 68
              · skip
                have e : i = 67 := by omega
                subst e
                exact gx_67
              · skip
                have e : i = 68 := by omega
                subst e
                exact gx_68
            · skip
              by_cases h69_71 : i < 70
              · skip
                have e : i = 69 := by omega
                subst e
                exact gx_69
              · skip
                have e : i = 70 := by omega
                subst e
                exact gx_70
          · skip
            by_cases h71_75 : i < 73
            · skip
              by_cases h71_73 : i < 72
              · skip
                have e : i = 71 := by omega
                subst e
                exact gx_71
              · skip
                have e : i = 72 := by omega
                subst e
                exact gx_72
            · skip
              by_cases h73_75 : i < 74
              · skip
                have e : i = 73 := by omega
                subst e
                exact gx_73
              · skip
                have e : i = 74 := by omega
                subst e
                exact gx_74
      · skip
        by_cases h75_90 : i < 82
        · skip
          by_cases h75_82 : i < 78
          · skip
            by_cases h75_78 : i < 76
            · skip
              have e : i = 75 := by omega
              subst e
              exact gx_75
            · skip
              by_cases h76_78 : i < 77
              · skip
                have e : i = 76 := by omega
                subst e
                exact gx_76
              · skip
                have e : i = 77 := by omega
                subst e
                exact gx_77
          · skip
            by_cases h78_82 : i < 80
            · skip
              by_cases h78_80 : i < 79
              · skip
                have e : i = 78 := by omega
                subst e
                exact gx_78
              · skip
                have e : i = 79 := by omega
                subst e
                exact gx_79
            · skip
              by_cases h80_82 : i < 81
              · skip
                have e : i = 80 := by omega
                subst e
                exact gx_80
              · skip
                have e : i = 81 := by omega
                subst e
                exact gx_81
        · skip
          by_cases h82_90 : i < 86
          · skip
            by_cases h82_86 : i < 84
            · skip
              by_cases h82_84 : i < 83
              · skip
                have e : i = 82 := by omega
                subst e
                exact gx_82
              · skip
                have e : i = 83 := by omega
                subst e
                exact gx_83
            · skip
              by_cases h84_86 : i < 85
              · skip
                have e : i = 84 := by omega
                subst e
                exact gx_84
              · skip
                have e : i = 85 := by omega
                subst e
                exact gx_85
          · skip
            by_cases h86_90 : i < 88
            · skip
              by_cases h86_88 : i < 87
              · skip
                have e : i = 86 := by omega
                subst e
                exact gx_86
              · skip
                have e : i = 87 := by omega
                subst e
                exact gx_87
            · skip
              by_cases h88_90 : i < 89
              · skip
                have e : i = 88 := by omega
                subst e
                exact gx_88
              · skip
                have e : i = 89 := by omega
                subst e
                exact gx_89
    · skip
      by_cases h90_121 : i < 105
      · skip
        by_cases h90_105 : i < 97
        · skip
          by_cases h90_97 : i < 93
          · skip
            by_cases h90_93 : i < 91
            · skip
              have e : i = 90 := by omega
              subst e
              exact gx_90
            · skip
              by_cases h91_93 : i < 92
              · skip
                have e : i = 91 := by omega
                subst e
                exact gx_91
              · skip
                have e : i = 92 := by omega
                subst e
                exact gx_92
          · skip
            by_cases h93_97 : i < 95
            · skip
              by_cases h93_95 : i < 94
              · skip
                have e : i = 93 := by omega
                subst e
                exact gx_93
              · skip
                have e : i = 94 := by omega
                subst e
                exact gx_94
            · skip
              by_cases h95_97 : i < 96
              · skip
                have e : i = 95 := by omega
                subst e
                exact gx_95
              · skip
                have e : i = 96 := by omega
                subst e
                exact gx_96
        · skip
          by_cases h97_105 : i < 101
          · skip
            by_cases h97_101 : i < 99
            · skip
              by_cases h97_99 : i < 98
              · skip
                have e : i = 97 := by omega
                subst e
                exact gx_97
              · skip
                have e : i = 98 := by omega
                subst e
                exact gx_98
            · skip
              by_cases h99_101 : i < 100
              · skip
                have e : i = 99 := by omega
                subst e
                exact gx_99
              · skip
                have e : i = 100 := by omega
                subst e
                exact gx_100
          · skip
            by_cases h101_105 : i < 103
            · skip
              by_cases h101_103 : i < 102
              · skip
                have e : i = 101 := by omega
                subst e
                exact gx_101
              · skip
                have e : i = 102 := by omega
                subst e
                exact gx_102
            · skip
              by_cases h103_105 : i < 104
              · skip
                have e : i = 103 := by omega
                subst e
                exact gx_103
              · skip
                have e : i = 104 := by omega
                subst e
                exact gx_104
      · skip
        by_cases h105_121 : i < 113
        · skip
          by_cases h105_113 : i < 109
          · skip
            by_cases h105_109 : i < 107
            · skip
              by_cases h105_107 : i < 106
              · skip
                have e : i = 105 := by omega
                subst e
                exact gx_105
              · skip
                have e : i = 106 := by omega
                subst e
                exact gx_106
            · skip
              by_cases h107_109 : i < 108
              · skip
                have e : i = 107 := by omega
                subst e
                exact gx_107
              · skip
                have e : i = 108 := by omega
                subst e
                exact gx_108
          · skip
            by_cases h109_113 : i < 111
            · skip
              by_cases h109_111 : i < 110
              · skip
                have e : i = 109 := by omega
                subst e
                exact gx_109
              · skip
                have e : i = 110 := by omega
                subst e
                exact gx_110
            · skip
              by_cases h111_113 : i < 112
              · skip
                have e : i = 111 := by omega
                subst e
                exact gx_111
              · skip
                have e : i = 112 := by omega
                subst e
                exact gx_112
        · skip
          by_cases h113_121 : i < 117
          · skip
            by_cases h113_117 : i < 115
            · skip
              by_cases h113_115 : i < 114
              · skip
                have e : i = 113 := by omega
                subst e
                exact gx_113
              · skip
                have e : i = 114 := by omega
                subst e
                exact gx_114
            · skip
              by_cases h115_117 : i < 116
              · skip
                have e : i = 115 := by omega
                subst e
                exact gx_115
              · skip
                have e : i = 116 := by omega
                subst e
                exact gx_116
          · skip
            by_cases h117_121 : i < 119
            · skip
              by_cases h117_119 : i < 118
              · skip
                have e : i = 117 := by omega
                subst e
                exact gx_117
              · skip
                have e : i = 118 := by omega
                subst e
                exact gx_118
            · skip
              by_cases h119_121 : i < 120
              · skip
                have e : i = 119 := by omega
                subst e
                exact gx_119
              · skip
                have e : i = 120 := by omega
                subst e
                exact gx_120
theorem HCls_ok : HCls := by
  intro r bd h1 h2 hb
  refine CLS ALLG_ok T3_ok T4_ok T5_ok ⟨h1, h2⟩ (fun a b ha hb2 hne => ?_)
  rw [rbd_at (by omega) (by omega) (Ne.symm hne), rbd_at (by omega) (by omega) hne]
  have s := hb.2.1 a b (by omega) (by omega)
  have r2 := hb.1 (a * 5 + b) (by omega)
  rw [← s]
  refine ⟨?_, rfl⟩
  split
  · exact ⟨by omega, by omega⟩
  · exact ⟨by omega, by omega⟩
