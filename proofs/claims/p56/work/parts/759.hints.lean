/-! every entailment that is used: printed by wip/p56/gen5.py -/
theorem zx_0 (kee : Nat → Int64) : zz_ho zt_tau (zp_phi kee) zh_0 zg_0 := zl_every (Z := zh_0) (i := 0) (r := 3) (t := 2) rfl rfl
theorem zx_1 (kee : Nat → Int64) : zz_ho zt_tau (zp_phi kee) zh_1 zg_1 := zz_spl_ok (Z := zh_1) (a := 3) (b := 2) rfl rfl (Or.inr (List.mem_of_getElem? (i := 0) rfl)) (Or.inl rfl) (List.mem_of_getElem? (i := 1) rfl)
theorem zx_2 (kee : Nat → Int64) : zz_ho zt_tau (zp_phi kee) zh_2 zg_2 := zl_eqf (Z := zh_2) (i := 1) (j := 0) (a := 5) (b := 4) (vs := [.inr (.inl (2, .ofNat 0))]) (Or.inr (Or.inr (Or.inl rfl))) rfl rfl
theorem zx_3 (kee : Nat → Int64) : zz_ho zt_tau (zp_phi kee) zh_3 zg_3 := zz_spl_ok (Z := zh_3) (a := 3) (b := 2) rfl rfl (Or.inr (List.mem_of_getElem? (i := 0) rfl)) (Or.inl rfl) (List.mem_of_getElem? (i := 1) rfl)
theorem zx_4 (kee : Nat → Int64) : zz_ho zt_tau (zp_phi kee) zh_4 zg_4 := zl_eqf (Z := zh_4) (i := 1) (j := 0) (a := 5) (b := 4) (vs := [.inr (.inl (2, .ofNat 0))]) (Or.inr (Or.inr (Or.inl rfl))) rfl rfl
theorem zx_5 (kee : Nat → Int64) : zz_ho zt_tau (zp_phi kee) zh_5 zg_5 := zl_anew (Z := zh_5) (i := 2) (j := 1) (k := 0) (t := .inr (.inl (2, .ofNat 0))) [0, 1, 2] rfl rfl rfl rfl rfl
theorem zx_6 (kee : Nat → Int64) : zz_ho zt_tau (zp_phi kee) zh_6 zg_6 := zl_tpup (Z := zh_6) (i := 0) (p := .inr (.inl (1, .ofNat 1))) [0] rfl rfl rfl rfl
theorem zx_7 (kee : Nat → Int64) : zz_ho zt_tau (zp_phi kee) zh_7 zg_7 := zl_tpup (Z := zh_7) (i := 0) (p := .inr (.inl (1, .ofNat 1))) [0] rfl rfl rfl rfl
theorem zx_8 (kee : Nat → Int64) : zz_ho zt_tau (zp_phi kee) zh_8 zg_8 := zl_tpup (Z := zh_8) (i := 0) (p := .inr (.inl (2, .ofNat 1))) [0] rfl rfl rfl rfl
theorem zx_9 (kee : Nat → Int64) : zz_ho zt_tau (zp_phi kee) zh_9 zg_9 := zl_tq (Z := zh_9) (r := 4) (p := .inr (.inl (2, .ofNat 0))) [0] rfl rfl
theorem zx_10 (kee : Nat → Int64) : zz_ho zt_tau (zp_phi kee) zh_10 zg_10 := zl_tpor (Z := zh_10) (i := 1) (j := 0) (v := 4) (s := 6) (q := .inr (.inl (2, .ofNat 1))) [1] rfl rfl rfl rfl rfl rfl rfl
theorem zx_11 (kee : Nat → Int64) : zz_ho zt_tau (zp_phi kee) zh_11 zg_11 := zl_tpup (Z := zh_11) (i := 0) (p := .inr (.inl (2, .ofNat 1))) [0] rfl rfl rfl rfl
theorem zx_12 (kee : Nat → Int64) : zz_ho zt_tau (zp_phi kee) zh_12 zg_12 := zl_tpup (Z := zh_12) (i := 0) (p := .inr (.inl (2, .ofNat 1))) [0] rfl rfl rfl rfl
theorem zx_13 (kee : Nat → Int64) : zz_ho zt_tau (zp_phi kee) zh_13 zg_13 := zl_tpup (Z := zh_13) (i := 0) (p := .inr (.inl (2, .ofNat 1))) [0] rfl rfl rfl rfl
theorem zx_14 (kee : Nat → Int64) : zz_ho zt_tau (zp_phi kee) zh_14 zg_14 := zl_tpup (Z := zh_14) (i := 0) (p := .inr (.inl (2, .ofNat 1))) [0] rfl rfl rfl rfl
theorem zx_15 (kee : Nat → Int64) : zz_ho zt_tau (zp_phi kee) zh_15 zg_15 := zl_tpup (Z := zh_15) (i := 0) (p := .inr (.inl (2, .ofNat 1))) [0] rfl rfl rfl rfl
theorem zx_16 (kee : Nat → Int64) : zz_ho zt_tau (zp_phi kee) zh_16 zg_16 := zl_tpup (Z := zh_16) (i := 0) (p := .inr (.inl (2, .ofNat 1))) [0] rfl rfl rfl rfl
theorem zx_17 (kee : Nat → Int64) : zz_ho zt_tau (zp_phi kee) zh_17 zg_17 := zl_tpup (Z := zh_17) (i := 0) (p := .inr (.inl (2, .ofNat 1))) [0] rfl rfl rfl rfl
theorem zx_18 (kee : Nat → Int64) : zz_ho zt_tau (zp_phi kee) zh_18 zg_18 := zl_tpup (Z := zh_18) (i := 0) (p := .inr (.inl (2, .ofNat 1))) [0] rfl rfl rfl rfl
theorem zx_19 (kee : Nat → Int64) : zz_ho zt_tau (zp_phi kee) zh_19 zg_19 := zl_tpup (Z := zh_19) (i := 0) (p := .inr (.inl (2, .ofNat 1))) [0] rfl rfl rfl rfl
theorem zx_20 (kee : Nat → Int64) : zz_ho zt_tau (zp_phi kee) zh_20 zg_20 := zl_safe0 (Z := zh_20) (b := 1) (i := 1) (j := 0) (c := .inr (.inl (1, .ofNat 0))) [] (Or.inr rfl) rfl rfl rfl
theorem zx_21 (kee : Nat → Int64) : zz_ho zt_tau (zp_phi kee) zh_21 zg_21 := zl_dn (Z := zh_21) (b := 1) (i := 0) [0] (Or.inr rfl) rfl
theorem zx_22 (kee : Nat → Int64) : zz_ho zt_tau (zp_phi kee) zh_22 zg_22 := zl_dn (Z := zh_22) (b := 1) (i := 0) [0] (Or.inr rfl) rfl
theorem zx_23 (kee : Nat → Int64) : zz_ho zt_tau (zp_phi kee) zh_23 zg_23 := zl_eenew (Z := zh_23) (b := 1) (i := 0) (j := 0) (k := 9) [0] (Or.inr rfl) rfl rfl rfl
theorem zx_24 (kee : Nat → Int64) : zz_ho zt_tau (zp_phi kee) zh_24 zg_24 := zl_safe (Z := zh_24) (b := 1) (i := 1) (j := 0) [0, 1, 2] (Or.inr rfl) rfl rfl
theorem zx_25 (kee : Nat → Int64) : zz_ho zt_tau (zp_phi kee) zh_25 zg_25 := zl_dn (Z := zh_25) (b := 1) (i := 0) [0] (Or.inr rfl) rfl
theorem zx_26 (kee : Nat → Int64) : zz_ho zt_tau (zp_phi kee) zh_26 zg_26 := zl_dn (Z := zh_26) (b := 1) (i := 0) [0] (Or.inr rfl) rfl
theorem zx_27 (kee : Nat → Int64) : zz_ho zt_tau (zp_phi kee) zh_27 zg_27 := zl_dn (Z := zh_27) (b := 1) (i := 0) [0] (Or.inr rfl) rfl
theorem zx_28 (kee : Nat → Int64) : zz_ho zt_tau (zp_phi kee) zh_28 zg_28 := zl_dn (Z := zh_28) (b := 1) (i := 0) [0] (Or.inr rfl) rfl
theorem zx_29 (kee : Nat → Int64) : zz_ho zt_tau (zp_phi kee) zh_29 zg_29 := zl_dn (Z := zh_29) (b := 1) (i := 0) [0] (Or.inr rfl) rfl
theorem zx_30 (kee : Nat → Int64) : zz_ho zt_tau (zp_phi kee) zh_30 zg_30 := zl_dn (Z := zh_30) (b := 1) (i := 0) [0] (Or.inr rfl) rfl
theorem zx_31 (kee : Nat → Int64) : zz_ho zt_tau (zp_phi kee) zh_31 zg_31 := zl_dn (Z := zh_31) (b := 1) (i := 0) [0] (Or.inr rfl) rfl
theorem zx_32 (kee : Nat → Int64) : zz_ho zt_tau (zp_phi kee) zh_32 zg_32 := zl_dn (Z := zh_32) (b := 1) (i := 0) [0] (Or.inr rfl) rfl
theorem zx_33 (kee : Nat → Int64) : zz_ho zt_tau (zp_phi kee) zh_33 zg_33 := zl_dn (Z := zh_33) (b := 1) (i := 0) [0] (Or.inr rfl) rfl
theorem zx_34 (kee : Nat → Int64) : zz_ho zt_tau (zp_phi kee) zh_34 zg_34 := zl_dn (Z := zh_34) (b := 1) (i := 0) [0] (Or.inr rfl) rfl
theorem zx_35 (kee : Nat → Int64) : zz_ho zt_tau (zp_phi kee) zh_35 zg_35 := zl_dn (Z := zh_35) (b := 1) (i := 0) [0] (Or.inr rfl) rfl
theorem zx_36 (kee : Nat → Int64) : zz_ho zt_tau (zp_phi kee) zh_36 zg_36 := zl_dn (Z := zh_36) (b := 1) (i := 0) [0] (Or.inr rfl) rfl
theorem zx_37 (kee : Nat → Int64) : zz_ho zt_tau (zp_phi kee) zh_37 zg_37 := zl_dn (Z := zh_37) (b := 1) (i := 0) [0] (Or.inr rfl) rfl
theorem zx_38 (kee : Nat → Int64) : zz_ho zt_tau (zp_phi kee) zh_38 zg_38 := zl_dn (Z := zh_38) (b := 1) (i := 0) [0] (Or.inr rfl) rfl
theorem zx_39 (kee : Nat → Int64) : zz_ho zt_tau (zp_phi kee) zh_39 zg_39 := zl_dn (Z := zh_39) (b := 1) (i := 0) [0] (Or.inr rfl) rfl
theorem zx_40 (kee : Nat → Int64) : zz_ho zt_tau (zp_phi kee) zh_40 zg_40 := zl_dn (Z := zh_40) (b := 1) (i := 0) [0] (Or.inr rfl) rfl
theorem zx_41 (kee : Nat → Int64) : zz_ho zt_tau (zp_phi kee) zh_41 zg_41 := zl_dn (Z := zh_41) (b := 1) (i := 0) [0] (Or.inr rfl) rfl
theorem zx_42 (kee : Nat → Int64) : zz_ho zt_tau (zp_phi kee) zh_42 zg_42 := zl_eeu (Z := zh_42) (b := 1) (i := 0) (v := .inr (.inl (5, .ofNat 1))) [] (Or.inr rfl) rfl rfl rfl rfl
theorem zx_43 (kee : Nat → Int64) : zz_ho zt_tau (zp_phi kee) zh_43 zg_43 := zl_eeu (Z := zh_43) (b := 1) (i := 0) (v := .inr (.inl (5, .ofNat 1))) [] (Or.inr rfl) rfl rfl rfl rfl
theorem zx_44 (kee : Nat → Int64) : zz_ho zt_tau (zp_phi kee) zh_44 zg_44 := zl_eeu (Z := zh_44) (b := 1) (i := 0) (v := .inr (.inl (5, .ofNat 1))) [] (Or.inr rfl) rfl rfl rfl rfl
theorem zx_45 (kee : Nat → Int64) : zz_ho zt_tau (zp_phi kee) zh_45 zg_45 := zl_eeu (Z := zh_45) (b := 1) (i := 0) (v := .inr (.inl (5, .ofNat 1))) [] (Or.inr rfl) rfl rfl rfl rfl
theorem zx_46 (kee : Nat → Int64) : zz_ho zt_tau (zp_phi kee) zh_46 zg_46 := zl_top (Z := zh_46) (b := 1) (i := 0) (p := 6) (n := 7) (N := 9) (Or.inr rfl) rfl rfl rfl rfl
theorem zx_47 (kee : Nat → Int64) : zz_ho zt_tau (zp_phi kee) zh_47 zg_47 := zl_fin (Z := zh_47) (b := 1) (i := 0) [] (Or.inr rfl) rfl rfl
theorem zx_48 (kee : Nat → Int64) : zz_ho zt_tau (zp_phi kee) zh_48 zg_48 := zl_popk (Z := zh_48) (b := 1) (i := 0) (j := 2) (q := .inr (.inl (6, .negSucc 0))) (n2 := .inr (.inl (7, .negSucc 0))) [] (Or.inr rfl) rfl rfl rfl rfl rfl rfl rfl rfl
theorem zx_49 (kee : Nat → Int64) : zz_ho zt_tau (zp_phi kee) zh_49 zg_49 := zl_dn (Z := zh_49) (b := 1) (i := 0) [0] (Or.inr rfl) rfl
theorem zx_50 (kee : Nat → Int64) : zz_ho zt_tau (zp_phi kee) zh_50 zg_50 := zl_ee0 (Z := zh_50) (b := 1) (i := 0) (Or.inr rfl) rfl
theorem zx_51 (kee : Nat → Int64) : zz_ho zt_tau (zp_phi kee) zh_51 zg_51 := zl_zero (Z := zh_51) (s := 4) rfl
theorem zx_52 (kee : Nat → Int64) : zz_ho zt_tau (zp_phi kee) zh_52 zg_52 := zl_dn (Z := zh_52) (b := 1) (i := 1) [0, 1] (Or.inr rfl) rfl
theorem zx_53 (kee : Nat → Int64) : zz_ho zt_tau (zp_phi kee) zh_53 zg_53 := zl_dn (Z := zh_53) (b := 1) (i := 1) [0, 1] (Or.inr rfl) rfl
theorem zx_54 (kee : Nat → Int64) : zz_ho zt_tau (zp_phi kee) zh_54 zg_54 := zl_dn (Z := zh_54) (b := 1) (i := 1) [0, 1] (Or.inr rfl) rfl
theorem zx_55 (kee : Nat → Int64) : zz_ho zt_tau (zp_phi kee) zh_55 zg_55 := zl_dn (Z := zh_55) (b := 1) (i := 1) [0, 1] (Or.inr rfl) rfl
theorem zx_56 (kee : Nat → Int64) : zz_ho zt_tau (zp_phi kee) zh_56 zg_56 := zl_dn (Z := zh_56) (b := 1) (i := 1) [0, 1] (Or.inr rfl) rfl
theorem zx_57 (kee : Nat → Int64) : zz_ho zt_tau (zp_phi kee) zh_57 zg_57 := zl_dn (Z := zh_57) (b := 1) (i := 1) [0, 1] (Or.inr rfl) rfl
theorem zx_58 (kee : Nat → Int64) : zz_ho zt_tau (zp_phi kee) zh_58 zg_58 := zl_eqc (Z := zh_58) (i := 0) (j := 1) (a := 9) (c := .ofNat 60) (vs := [.inr (.inl (6, .ofNat 0))]) (Or.inr (Or.inr (Or.inr rfl))) rfl rfl (by decide) rfl
theorem zx_59 (kee : Nat → Int64) : zz_ho zt_tau (zp_phi kee) zh_59 zg_59 := zl_eqc (Z := zh_59) (i := 0) (j := 1) (a := 9) (c := .ofNat 61) (vs := [.inr (.inl (6, .ofNat 0))]) (Or.inr (Or.inr (Or.inr rfl))) rfl rfl (by decide) rfl
theorem zx_60 (kee : Nat → Int64) : zz_ho zt_tau (zp_phi kee) zh_60 zg_60 := zl_eqc (Z := zh_60) (i := 0) (j := 1) (a := 9) (c := .ofNat 62) (vs := [.inr (.inl (6, .ofNat 0))]) (Or.inr (Or.inr (Or.inr rfl))) rfl rfl (by decide) rfl
theorem zx_61 (kee : Nat → Int64) : zz_ho zt_tau (zp_phi kee) zh_61 zg_61 := zl_eqc (Z := zh_61) (i := 0) (j := 1) (a := 9) (c := .ofNat 43) (vs := [.inr (.inl (6, .ofNat 0))]) (Or.inr (Or.inr (Or.inr rfl))) rfl rfl (by decide) rfl
theorem zx_62 (kee : Nat → Int64) : zz_ho zt_tau (zp_phi kee) zh_62 zg_62 := zl_eqc (Z := zh_62) (i := 0) (j := 1) (a := 9) (c := .ofNat 45) (vs := [.inr (.inl (6, .ofNat 0))]) (Or.inr (Or.inr (Or.inr rfl))) rfl rfl (by decide) rfl
theorem zx_63 (kee : Nat → Int64) : zz_ho zt_tau (zp_phi kee) zh_63 zg_63 := zl_eqc (Z := zh_63) (i := 0) (j := 1) (a := 9) (c := .ofNat 37) (vs := [.inr (.inl (6, .ofNat 0))]) (Or.inr (Or.inr (Or.inr rfl))) rfl rfl (by decide) rfl
theorem zx_64 (kee : Nat → Int64) : zz_ho zt_tau (zp_phi kee) zh_64 zg_64 := zl_eqc (Z := zh_64) (i := 0) (j := 1) (a := 9) (c := .ofNat 42) (vs := [.inr (.inl (6, .ofNat 0))]) (Or.inr (Or.inr (Or.inr rfl))) rfl rfl (by decide) rfl
theorem zx_65 (kee : Nat → Int64) : zz_ho zt_tau (zp_phi kee) zh_65 zg_65 := zl_eqc (Z := zh_65) (i := 0) (j := 1) (a := 9) (c := .ofNat 47) (vs := [.inr (.inl (6, .ofNat 0))]) (Or.inr (Or.inr (Or.inr rfl))) rfl rfl (by decide) rfl
theorem zx_66 (kee : Nat → Int64) : zz_ho zt_tau (zp_phi kee) zh_66 zg_66 := zl_top (Z := zh_66) (b := 1) (i := 0) (p := 8) (n := 9) (N := 10) (Or.inr rfl) rfl rfl rfl rfl
theorem zx_67 (kee : Nat → Int64) : zz_ho zt_tau (zp_phi kee) zh_67 zg_67 := zl_fin (Z := zh_67) (b := 1) (i := 0) [] (Or.inr rfl) rfl rfl
theorem zx_68 (kee : Nat → Int64) : zz_ho zt_tau (zp_phi kee) zh_68 zg_68 := zl_popk (Z := zh_68) (b := 1) (i := 0) (j := 2) (q := .inr (.inl (8, .negSucc 0))) (n2 := .inr (.inl (9, .negSucc 0))) [] (Or.inr rfl) rfl rfl rfl rfl rfl rfl rfl rfl
theorem zx_69 (kee : Nat → Int64) : zz_ho zt_tau (zp_phi kee) zh_69 zg_69 := zl_dn (Z := zh_69) (b := 1) (i := 0) [0] (Or.inr rfl) rfl
theorem zx_70 (kee : Nat → Int64) : zz_ho zt_tau (zp_phi kee) zh_70 zg_70 := zl_dn (Z := zh_70) (b := 1) (i := 0) [0] (Or.inr rfl) rfl
theorem zx_71 (kee : Nat → Int64) : zz_ho zt_tau (zp_phi kee) zh_71 zg_71 := zl_dn (Z := zh_71) (b := 1) (i := 0) [0] (Or.inr rfl) rfl
theorem zx_72 (kee : Nat → Int64) : zz_ho zt_tau (zp_phi kee) zh_72 zg_72 := zl_top (Z := zh_72) (b := 1) (i := 0) (p := 8) (n := 9) (N := 10) (Or.inr rfl) rfl rfl rfl rfl
theorem zx_73 (kee : Nat → Int64) : zz_ho zt_tau (zp_phi kee) zh_73 zg_73 := zl_top (Z := zh_73) (b := 1) (i := 0) (p := 8) (n := 9) (N := 10) (Or.inr rfl) rfl rfl rfl rfl
theorem zx_74 (kee : Nat → Int64) : zz_ho zt_tau (zp_phi kee) zh_74 zg_74 := zl_top (Z := zh_74) (b := 1) (i := 1) (p := 8) (n := 4) (N := 9) (Or.inr rfl) rfl rfl rfl rfl
theorem zx_75 (kee : Nat → Int64) : zz_ho zt_tau (zp_phi kee) zh_75 zg_75 := zl_top (Z := zh_75) (b := 1) (i := 1) (p := 8) (n := 4) (N := 9) (Or.inr rfl) rfl rfl rfl rfl
theorem zx_76 (kee : Nat → Int64) : zz_ho zt_tau (zp_phi kee) zh_76 zg_76 := zl_top (Z := zh_76) (b := 1) (i := 1) (p := 8) (n := 4) (N := 9) (Or.inr rfl) rfl rfl rfl rfl
theorem zx_77 (kee : Nat → Int64) : zz_ho zt_tau (zp_phi kee) zh_77 zg_77 := zl_top (Z := zh_77) (b := 1) (i := 1) (p := 8) (n := 4) (N := 9) (Or.inr rfl) rfl rfl rfl rfl
theorem zx_78 (kee : Nat → Int64) : zz_ho zt_tau (zp_phi kee) zh_78 zg_78 := zl_top (Z := zh_78) (b := 1) (i := 1) (p := 8) (n := 4) (N := 9) (Or.inr rfl) rfl rfl rfl rfl
theorem zx_79 (kee : Nat → Int64) : zz_ho zt_tau (zp_phi kee) zh_79 zg_79 := zl_top (Z := zh_79) (b := 1) (i := 1) (p := 8) (n := 4) (N := 9) (Or.inr rfl) rfl rfl rfl rfl
theorem zx_80 (kee : Nat → Int64) : zz_ho zt_tau (zp_phi kee) zh_80 zg_80 := zl_top (Z := zh_80) (b := 1) (i := 1) (p := 8) (n := 4) (N := 9) (Or.inr rfl) rfl rfl rfl rfl
theorem zx_81 (kee : Nat → Int64) : zz_ho zt_tau (zp_phi kee) zh_81 zg_81 := zl_top (Z := zh_81) (b := 1) (i := 1) (p := 8) (n := 4) (N := 9) (Or.inr rfl) rfl rfl rfl rfl
theorem zx_82 (kee : Nat → Int64) : zz_ho zt_tau (zp_phi kee) zh_82 zg_82 := zl_eenew (Z := zh_82) (b := 1) (i := 0) (j := 0) (k := 9) [0] (Or.inr rfl) rfl rfl rfl
theorem zx_83 (kee : Nat → Int64) : zz_ho zt_tau (zp_phi kee) zh_83 zg_83 := zl_safe (Z := zh_83) (b := 1) (i := 1) (j := 0) [0, 1, 2] (Or.inr rfl) rfl rfl
theorem zx_84 (kee : Nat → Int64) : zz_ho zt_tau (zp_phi kee) zh_84 zg_84 := zl_safe (Z := zh_84) (b := 1) (i := 1) (j := 0) [0, 1, 2, 3] (Or.inr rfl) rfl rfl
theorem zx_85 (kee : Nat → Int64) : zz_ho zt_tau (zp_phi kee) zh_85 zg_85 := zl_safe (Z := zh_85) (b := 1) (i := 1) (j := 0) [0, 1, 2, 3] (Or.inr rfl) rfl rfl
theorem zx_86 (kee : Nat → Int64) : zz_ho zt_tau (zp_phi kee) zh_86 zg_86 := zl_tpup (Z := zh_86) (i := 0) (p := .inr (.inl (1, .ofNat 1))) [0] rfl rfl rfl rfl
theorem zx_87 (kee : Nat → Int64) : zz_ho zt_tau (zp_phi kee) zh_87 zg_87 := zl_tpup (Z := zh_87) (i := 0) (p := .inr (.inl (1, .ofNat 1))) [0] rfl rfl rfl rfl
theorem zx_88 (kee : Nat → Int64) : zz_ho zt_tau (zp_phi kee) zh_88 zg_88 := zl_tpup (Z := zh_88) (i := 0) (p := .inr (.inl (2, .ofNat 1))) [0] rfl rfl rfl rfl
theorem zx_89 (kee : Nat → Int64) : zz_ho zt_tau (zp_phi kee) zh_89 zg_89 := zl_tq (Z := zh_89) (r := 4) (p := .inr (.inl (2, .ofNat 0))) [0] rfl rfl
theorem zx_90 (kee : Nat → Int64) : zz_ho zt_tau (zp_phi kee) zh_90 zg_90 := zl_tpor (Z := zh_90) (i := 1) (j := 0) (v := 4) (s := 6) (q := .inr (.inl (2, .ofNat 1))) [1] rfl rfl rfl rfl rfl rfl rfl
theorem zx_91 (kee : Nat → Int64) : zz_ho zt_tau (zp_phi kee) zh_91 zg_91 := zl_tpup (Z := zh_91) (i := 0) (p := .inr (.inl (2, .ofNat 1))) [0] rfl rfl rfl rfl
theorem zx_92 (kee : Nat → Int64) : zz_ho zt_tau (zp_phi kee) zh_92 zg_92 := zl_tpup (Z := zh_92) (i := 0) (p := .inr (.inl (2, .ofNat 1))) [0] rfl rfl rfl rfl
theorem zx_93 (kee : Nat → Int64) : zz_ho zt_tau (zp_phi kee) zh_93 zg_93 := zl_tpup (Z := zh_93) (i := 0) (p := .inr (.inl (2, .ofNat 1))) [0] rfl rfl rfl rfl
theorem zx_94 (kee : Nat → Int64) : zz_ho zt_tau (zp_phi kee) zh_94 zg_94 := zl_tpup (Z := zh_94) (i := 0) (p := .inr (.inl (2, .ofNat 1))) [0] rfl rfl rfl rfl
theorem zx_95 (kee : Nat → Int64) : zz_ho zt_tau (zp_phi kee) zh_95 zg_95 := zl_tpup (Z := zh_95) (i := 0) (p := .inr (.inl (2, .ofNat 1))) [0] rfl rfl rfl rfl
theorem zx_96 (kee : Nat → Int64) : zz_ho zt_tau (zp_phi kee) zh_96 zg_96 := zl_tpup (Z := zh_96) (i := 0) (p := .inr (.inl (2, .ofNat 1))) [0] rfl rfl rfl rfl
theorem zx_97 (kee : Nat → Int64) : zz_ho zt_tau (zp_phi kee) zh_97 zg_97 := zl_tpup (Z := zh_97) (i := 0) (p := .inr (.inl (2, .ofNat 1))) [0] rfl rfl rfl rfl
theorem zx_98 (kee : Nat → Int64) : zz_ho zt_tau (zp_phi kee) zh_98 zg_98 := zl_tpup (Z := zh_98) (i := 0) (p := .inr (.inl (2, .ofNat 1))) [0] rfl rfl rfl rfl
theorem zx_99 (kee : Nat → Int64) : zz_ho zt_tau (zp_phi kee) zh_99 zg_99 := zl_tpup (Z := zh_99) (i := 0) (p := .inr (.inl (2, .ofNat 1))) [0] rfl rfl rfl rfl
theorem zx_100 (kee : Nat → Int64) : zz_ho zt_tau (zp_phi kee) zh_100 zg_100 := zl_safe0 (Z := zh_100) (b := 0) (i := 1) (j := 0) (c := .inr (.inl (1, .ofNat 0))) [] (Or.inl rfl) rfl rfl rfl
theorem zx_101 (kee : Nat → Int64) : zz_ho zt_tau (zp_phi kee) zh_101 zg_101 := zl_dn (Z := zh_101) (b := 0) (i := 0) [0] (Or.inl rfl) rfl
theorem zx_102 (kee : Nat → Int64) : zz_ho zt_tau (zp_phi kee) zh_102 zg_102 := zl_dn (Z := zh_102) (b := 0) (i := 0) [0] (Or.inl rfl) rfl
theorem zx_103 (kee : Nat → Int64) : zz_ho zt_tau (zp_phi kee) zh_103 zg_103 := zl_eenew (Z := zh_103) (b := 0) (i := 0) (j := 0) (k := 9) [0] (Or.inl rfl) rfl rfl rfl
theorem zx_104 (kee : Nat → Int64) : zz_ho zt_tau (zp_phi kee) zh_104 zg_104 := zl_safe (Z := zh_104) (b := 0) (i := 1) (j := 0) [0, 1, 2] (Or.inl rfl) rfl rfl
theorem zx_105 (kee : Nat → Int64) : zz_ho zt_tau (zp_phi kee) zh_105 zg_105 := zl_dn (Z := zh_105) (b := 0) (i := 0) [0] (Or.inl rfl) rfl
theorem zx_106 (kee : Nat → Int64) : zz_ho zt_tau (zp_phi kee) zh_106 zg_106 := zl_dn (Z := zh_106) (b := 0) (i := 0) [0] (Or.inl rfl) rfl
theorem zx_107 (kee : Nat → Int64) : zz_ho zt_tau (zp_phi kee) zh_107 zg_107 := zl_dn (Z := zh_107) (b := 0) (i := 0) [0] (Or.inl rfl) rfl
theorem zx_108 (kee : Nat → Int64) : zz_ho zt_tau (zp_phi kee) zh_108 zg_108 := zl_dn (Z := zh_108) (b := 0) (i := 0) [0] (Or.inl rfl) rfl
theorem zx_109 (kee : Nat → Int64) : zz_ho zt_tau (zp_phi kee) zh_109 zg_109 := zl_dn (Z := zh_109) (b := 0) (i := 0) [0] (Or.inl rfl) rfl
theorem zx_110 (kee : Nat → Int64) : zz_ho zt_tau (zp_phi kee) zh_110 zg_110 := zl_dn (Z := zh_110) (b := 0) (i := 0) [0] (Or.inl rfl) rfl
theorem zx_111 (kee : Nat → Int64) : zz_ho zt_tau (zp_phi kee) zh_111 zg_111 := zl_dn (Z := zh_111) (b := 0) (i := 0) [0] (Or.inl rfl) rfl
theorem zx_112 (kee : Nat → Int64) : zz_ho zt_tau (zp_phi kee) zh_112 zg_112 := zl_dn (Z := zh_112) (b := 0) (i := 0) [0] (Or.inl rfl) rfl
theorem zx_113 (kee : Nat → Int64) : zz_ho zt_tau (zp_phi kee) zh_113 zg_113 := zl_dn (Z := zh_113) (b := 0) (i := 0) [0] (Or.inl rfl) rfl
theorem zx_114 (kee : Nat → Int64) : zz_ho zt_tau (zp_phi kee) zh_114 zg_114 := zl_dn (Z := zh_114) (b := 0) (i := 0) [0] (Or.inl rfl) rfl
theorem zx_115 (kee : Nat → Int64) : zz_ho zt_tau (zp_phi kee) zh_115 zg_115 := zl_dn (Z := zh_115) (b := 0) (i := 0) [0] (Or.inl rfl) rfl
theorem zx_116 (kee : Nat → Int64) : zz_ho zt_tau (zp_phi kee) zh_116 zg_116 := zl_dn (Z := zh_116) (b := 0) (i := 0) [0] (Or.inl rfl) rfl
theorem zx_117 (kee : Nat → Int64) : zz_ho zt_tau (zp_phi kee) zh_117 zg_117 := zl_dn (Z := zh_117) (b := 0) (i := 0) [0] (Or.inl rfl) rfl
theorem zx_118 (kee : Nat → Int64) : zz_ho zt_tau (zp_phi kee) zh_118 zg_118 := zl_dn (Z := zh_118) (b := 0) (i := 0) [0] (Or.inl rfl) rfl
theorem zx_119 (kee : Nat → Int64) : zz_ho zt_tau (zp_phi kee) zh_119 zg_119 := zl_dn (Z := zh_119) (b := 0) (i := 0) [0] (Or.inl rfl) rfl
theorem zx_120 (kee : Nat → Int64) : zz_ho zt_tau (zp_phi kee) zh_120 zg_120 := zl_dn (Z := zh_120) (b := 0) (i := 0) [0] (Or.inl rfl) rfl
theorem zx_121 (kee : Nat → Int64) : zz_ho zt_tau (zp_phi kee) zh_121 zg_121 := zl_dn (Z := zh_121) (b := 0) (i := 0) [0] (Or.inl rfl) rfl
theorem zx_122 (kee : Nat → Int64) : zz_ho zt_tau (zp_phi kee) zh_122 zg_122 := zl_eeu (Z := zh_122) (b := 0) (i := 0) (v := .inr (.inl (5, .ofNat 1))) [] (Or.inl rfl) rfl rfl rfl rfl
theorem zx_123 (kee : Nat → Int64) : zz_ho zt_tau (zp_phi kee) zh_123 zg_123 := zl_eeu (Z := zh_123) (b := 0) (i := 0) (v := .inr (.inl (5, .ofNat 1))) [] (Or.inl rfl) rfl rfl rfl rfl
theorem zx_124 (kee : Nat → Int64) : zz_ho zt_tau (zp_phi kee) zh_124 zg_124 := zl_eeu (Z := zh_124) (b := 0) (i := 0) (v := .inr (.inl (5, .ofNat 1))) [] (Or.inl rfl) rfl rfl rfl rfl
theorem zx_125 (kee : Nat → Int64) : zz_ho zt_tau (zp_phi kee) zh_125 zg_125 := zl_eeu (Z := zh_125) (b := 0) (i := 0) (v := .inr (.inl (5, .ofNat 1))) [] (Or.inl rfl) rfl rfl rfl rfl
theorem zx_126 (kee : Nat → Int64) : zz_ho zt_tau (zp_phi kee) zh_126 zg_126 := zl_top (Z := zh_126) (b := 0) (i := 0) (p := 6) (n := 7) (N := 9) (Or.inl rfl) rfl rfl rfl rfl
theorem zx_127 (kee : Nat → Int64) : zz_ho zt_tau (zp_phi kee) zh_127 zg_127 := zl_fin (Z := zh_127) (b := 0) (i := 0) [] (Or.inl rfl) rfl rfl
theorem zx_128 (kee : Nat → Int64) : zz_ho zt_tau (zp_phi kee) zh_128 zg_128 := zl_popk (Z := zh_128) (b := 0) (i := 0) (j := 2) (q := .inr (.inl (6, .negSucc 0))) (n2 := .inr (.inl (7, .negSucc 0))) [] (Or.inl rfl) rfl rfl rfl rfl rfl rfl rfl rfl
theorem zx_129 (kee : Nat → Int64) : zz_ho zt_tau (zp_phi kee) zh_129 zg_129 := zl_dn (Z := zh_129) (b := 0) (i := 0) [0] (Or.inl rfl) rfl
theorem zx_130 (kee : Nat → Int64) : zz_ho zt_tau (zp_phi kee) zh_130 zg_130 := zl_ee0 (Z := zh_130) (b := 0) (i := 0) (Or.inl rfl) rfl
theorem zx_131 (kee : Nat → Int64) : zz_ho zt_tau (zp_phi kee) zh_131 zg_131 := zl_zero (Z := zh_131) (s := 4) rfl
theorem zx_132 (kee : Nat → Int64) : zz_ho zt_tau (zp_phi kee) zh_132 zg_132 := zl_dn (Z := zh_132) (b := 0) (i := 1) [0, 1] (Or.inl rfl) rfl
theorem zx_133 (kee : Nat → Int64) : zz_ho zt_tau (zp_phi kee) zh_133 zg_133 := zl_dn (Z := zh_133) (b := 0) (i := 1) [0, 1] (Or.inl rfl) rfl
theorem zx_134 (kee : Nat → Int64) : zz_ho zt_tau (zp_phi kee) zh_134 zg_134 := zl_dn (Z := zh_134) (b := 0) (i := 1) [0, 1] (Or.inl rfl) rfl
theorem zx_135 (kee : Nat → Int64) : zz_ho zt_tau (zp_phi kee) zh_135 zg_135 := zl_dn (Z := zh_135) (b := 0) (i := 1) [0, 1] (Or.inl rfl) rfl
theorem zx_136 (kee : Nat → Int64) : zz_ho zt_tau (zp_phi kee) zh_136 zg_136 := zl_dn (Z := zh_136) (b := 0) (i := 1) [0, 1] (Or.inl rfl) rfl
theorem zx_137 (kee : Nat → Int64) : zz_ho zt_tau (zp_phi kee) zh_137 zg_137 := zl_dn (Z := zh_137) (b := 0) (i := 1) [0, 1] (Or.inl rfl) rfl
theorem zx_138 (kee : Nat → Int64) : zz_ho zt_tau (zp_phi kee) zh_138 zg_138 := zl_eqc (Z := zh_138) (i := 0) (j := 1) (a := 9) (c := .ofNat 60) (vs := [.inr (.inl (6, .ofNat 0))]) (Or.inr (Or.inr (Or.inr rfl))) rfl rfl (by decide) rfl
theorem zx_139 (kee : Nat → Int64) : zz_ho zt_tau (zp_phi kee) zh_139 zg_139 := zl_eqc (Z := zh_139) (i := 0) (j := 1) (a := 9) (c := .ofNat 61) (vs := [.inr (.inl (6, .ofNat 0))]) (Or.inr (Or.inr (Or.inr rfl))) rfl rfl (by decide) rfl
theorem zx_140 (kee : Nat → Int64) : zz_ho zt_tau (zp_phi kee) zh_140 zg_140 := zl_eqc (Z := zh_140) (i := 0) (j := 1) (a := 9) (c := .ofNat 62) (vs := [.inr (.inl (6, .ofNat 0))]) (Or.inr (Or.inr (Or.inr rfl))) rfl rfl (by decide) rfl
theorem zx_141 (kee : Nat → Int64) : zz_ho zt_tau (zp_phi kee) zh_141 zg_141 := zl_eqc (Z := zh_141) (i := 0) (j := 1) (a := 9) (c := .ofNat 43) (vs := [.inr (.inl (6, .ofNat 0))]) (Or.inr (Or.inr (Or.inr rfl))) rfl rfl (by decide) rfl
theorem zx_142 (kee : Nat → Int64) : zz_ho zt_tau (zp_phi kee) zh_142 zg_142 := zl_eqc (Z := zh_142) (i := 0) (j := 1) (a := 9) (c := .ofNat 45) (vs := [.inr (.inl (6, .ofNat 0))]) (Or.inr (Or.inr (Or.inr rfl))) rfl rfl (by decide) rfl
theorem zx_143 (kee : Nat → Int64) : zz_ho zt_tau (zp_phi kee) zh_143 zg_143 := zl_eqc (Z := zh_143) (i := 0) (j := 1) (a := 9) (c := .ofNat 37) (vs := [.inr (.inl (6, .ofNat 0))]) (Or.inr (Or.inr (Or.inr rfl))) rfl rfl (by decide) rfl
theorem zx_144 (kee : Nat → Int64) : zz_ho zt_tau (zp_phi kee) zh_144 zg_144 := zl_eqc (Z := zh_144) (i := 0) (j := 1) (a := 9) (c := .ofNat 42) (vs := [.inr (.inl (6, .ofNat 0))]) (Or.inr (Or.inr (Or.inr rfl))) rfl rfl (by decide) rfl
theorem zx_145 (kee : Nat → Int64) : zz_ho zt_tau (zp_phi kee) zh_145 zg_145 := zl_eqc (Z := zh_145) (i := 0) (j := 1) (a := 9) (c := .ofNat 47) (vs := [.inr (.inl (6, .ofNat 0))]) (Or.inr (Or.inr (Or.inr rfl))) rfl rfl (by decide) rfl
theorem zx_146 (kee : Nat → Int64) : zz_ho zt_tau (zp_phi kee) zh_146 zg_146 := zl_top (Z := zh_146) (b := 0) (i := 0) (p := 8) (n := 9) (N := 10) (Or.inl rfl) rfl rfl rfl rfl
theorem zx_147 (kee : Nat → Int64) : zz_ho zt_tau (zp_phi kee) zh_147 zg_147 := zl_fin (Z := zh_147) (b := 0) (i := 0) [] (Or.inl rfl) rfl rfl
theorem zx_148 (kee : Nat → Int64) : zz_ho zt_tau (zp_phi kee) zh_148 zg_148 := zl_popk (Z := zh_148) (b := 0) (i := 0) (j := 2) (q := .inr (.inl (8, .negSucc 0))) (n2 := .inr (.inl (9, .negSucc 0))) [] (Or.inl rfl) rfl rfl rfl rfl rfl rfl rfl rfl
theorem zx_149 (kee : Nat → Int64) : zz_ho zt_tau (zp_phi kee) zh_149 zg_149 := zl_dn (Z := zh_149) (b := 0) (i := 0) [0] (Or.inl rfl) rfl
theorem zx_150 (kee : Nat → Int64) : zz_ho zt_tau (zp_phi kee) zh_150 zg_150 := zl_dn (Z := zh_150) (b := 0) (i := 0) [0] (Or.inl rfl) rfl
theorem zx_151 (kee : Nat → Int64) : zz_ho zt_tau (zp_phi kee) zh_151 zg_151 := zl_dn (Z := zh_151) (b := 0) (i := 0) [0] (Or.inl rfl) rfl
theorem zx_152 (kee : Nat → Int64) : zz_ho zt_tau (zp_phi kee) zh_152 zg_152 := zl_top (Z := zh_152) (b := 0) (i := 0) (p := 8) (n := 9) (N := 10) (Or.inl rfl) rfl rfl rfl rfl
theorem zx_153 (kee : Nat → Int64) : zz_ho zt_tau (zp_phi kee) zh_153 zg_153 := zl_top (Z := zh_153) (b := 0) (i := 0) (p := 8) (n := 9) (N := 10) (Or.inl rfl) rfl rfl rfl rfl
theorem zx_154 (kee : Nat → Int64) : zz_ho zt_tau (zp_phi kee) zh_154 zg_154 := zl_top (Z := zh_154) (b := 0) (i := 1) (p := 8) (n := 4) (N := 9) (Or.inl rfl) rfl rfl rfl rfl
theorem zx_155 (kee : Nat → Int64) : zz_ho zt_tau (zp_phi kee) zh_155 zg_155 := zl_top (Z := zh_155) (b := 0) (i := 1) (p := 8) (n := 4) (N := 9) (Or.inl rfl) rfl rfl rfl rfl
theorem zx_156 (kee : Nat → Int64) : zz_ho zt_tau (zp_phi kee) zh_156 zg_156 := zl_top (Z := zh_156) (b := 0) (i := 1) (p := 8) (n := 4) (N := 9) (Or.inl rfl) rfl rfl rfl rfl
theorem zx_157 (kee : Nat → Int64) : zz_ho zt_tau (zp_phi kee) zh_157 zg_157 := zl_top (Z := zh_157) (b := 0) (i := 1) (p := 8) (n := 4) (N := 9) (Or.inl rfl) rfl rfl rfl rfl
theorem zx_158 (kee : Nat → Int64) : zz_ho zt_tau (zp_phi kee) zh_158 zg_158 := zl_top (Z := zh_158) (b := 0) (i := 1) (p := 8) (n := 4) (N := 9) (Or.inl rfl) rfl rfl rfl rfl
theorem zx_159 (kee : Nat → Int64) : zz_ho zt_tau (zp_phi kee) zh_159 zg_159 := zl_top (Z := zh_159) (b := 0) (i := 1) (p := 8) (n := 4) (N := 9) (Or.inl rfl) rfl rfl rfl rfl
theorem zx_160 (kee : Nat → Int64) : zz_ho zt_tau (zp_phi kee) zh_160 zg_160 := zl_top (Z := zh_160) (b := 0) (i := 1) (p := 8) (n := 4) (N := 9) (Or.inl rfl) rfl rfl rfl rfl
theorem zx_161 (kee : Nat → Int64) : zz_ho zt_tau (zp_phi kee) zh_161 zg_161 := zl_top (Z := zh_161) (b := 0) (i := 1) (p := 8) (n := 4) (N := 9) (Or.inl rfl) rfl rfl rfl rfl
theorem zx_162 (kee : Nat → Int64) : zz_ho zt_tau (zp_phi kee) zh_162 zg_162 := zl_eenew (Z := zh_162) (b := 0) (i := 0) (j := 0) (k := 9) [0] (Or.inl rfl) rfl rfl rfl
theorem zx_163 (kee : Nat → Int64) : zz_ho zt_tau (zp_phi kee) zh_163 zg_163 := zl_safe (Z := zh_163) (b := 0) (i := 1) (j := 0) [0, 1, 2] (Or.inl rfl) rfl rfl
theorem zx_164 (kee : Nat → Int64) : zz_ho zt_tau (zp_phi kee) zh_164 zg_164 := zl_safe (Z := zh_164) (b := 0) (i := 1) (j := 0) [0, 1, 2, 3] (Or.inl rfl) rfl rfl
theorem zx_165 (kee : Nat → Int64) : zz_ho zt_tau (zp_phi kee) zh_165 zg_165 := zl_safe (Z := zh_165) (b := 0) (i := 1) (j := 0) [0, 1, 2, 3] (Or.inl rfl) rfl rfl
theorem zx_166 (kee : Nat → Int64) : zz_ho zt_tau (zp_phi kee) zh_166 zg_166 := zz_nums_ok (Z := zh_166) (s := 0) (n := 2) rfl (by decide)
theorem zx_167 (kee : Nat → Int64) : zz_ho zt_tau (zp_phi kee) zh_167 zg_167 := zl_clear (Z := zh_167) (b := 1) (c := .ofNat 560) [0, 1, 2, 3, 4, 5, 6] (Or.inr rfl) rfl
theorem zx_168 (kee : Nat → Int64) : zz_ho zt_tau (zp_phi kee) zh_168 zg_168 := zl_clear (Z := zh_168) (b := 0) (c := .ofNat 0) [0, 1, 2, 3, 4, 5, 6] (Or.inl rfl) rfl
theorem zx_169 (kee : Nat → Int64) : zz_ho zt_tau (zp_phi kee) zh_169 zg_169 := zz_spl_ok (Z := zh_169) (a := 4) (b := 2) rfl rfl (Or.inr (List.mem_of_getElem? (i := 0) rfl)) (Or.inr (List.mem_of_getElem? (i := 1) rfl)) (List.mem_of_getElem? (i := 2) rfl)
theorem zx_170 (kee : Nat → Int64) : zz_ho zt_tau (zp_phi kee) zh_170 zg_170 := zl_eqf (Z := zh_170) (i := 0) (j := 1) (a := 5) (b := 3) (vs := [.inr (.inl (2, .ofNat 0))]) (Or.inl rfl) rfl rfl
theorem zx_171 (kee : Nat → Int64) : zz_ho zt_tau (zp_phi kee) zh_171 zg_171 := zz_spl_ok (Z := zh_171) (a := 6) (b := 2) rfl rfl (Or.inr (List.mem_of_getElem? (i := 0) rfl)) (Or.inr (List.mem_of_getElem? (i := 1) rfl)) (List.mem_of_getElem? (i := 2) rfl)
theorem zx_172 (kee : Nat → Int64) : zz_ho zt_tau (zp_phi kee) zh_172 zg_172 := zl_eqf (Z := zh_172) (i := 1) (j := 0) (a := 8) (b := 5) (vs := [.inr (.inl (2, .ofNat 0))]) (Or.inr (Or.inr (Or.inl rfl))) rfl rfl
theorem zx_173 (kee : Nat → Int64) : zz_ho zt_tau (zp_phi kee) zh_173 zg_173 := zz_spl_ok (Z := zh_173) (a := 4) (b := 3) rfl rfl (Or.inr (List.mem_of_getElem? (i := 0) rfl)) (Or.inr (List.mem_of_getElem? (i := 1) rfl)) (List.mem_of_getElem? (i := 2) rfl)
theorem zx_174 (kee : Nat → Int64) : zz_ho zt_tau (zp_phi kee) zh_174 zg_174 := zl_eqf (Z := zh_174) (i := 0) (j := 1) (a := 6) (b := 5) (vs := [.inr (.inl (3, .ofNat 0)), .inr (.inl (0, .ofNat 0)), .inr (.inl (0, .ofNat 0))]) (Or.inr (Or.inl rfl)) rfl rfl
theorem zx_175 (kee : Nat → Int64) : zz_ho zt_tau (zp_phi kee) zh_175 zg_175 := zz_spl_ok (Z := zh_175) (a := 4) (b := 3) rfl rfl (Or.inr (List.mem_of_getElem? (i := 0) rfl)) (Or.inr (List.mem_of_getElem? (i := 1) rfl)) (List.mem_of_getElem? (i := 2) rfl)
theorem zx_176 (kee : Nat → Int64) : zz_ho zt_tau (zp_phi kee) zh_176 zg_176 := zl_eqc (Z := zh_176) (i := 0) (j := 1) (a := 5) (c := .ofNat 1) (vs := [.inr (.inl (3, .ofNat 0)), .inr (.inl (0, .ofNat 0)), .inr (.inl (0, .ofNat 0))]) (Or.inr (Or.inl rfl)) rfl rfl (by decide) rfl
theorem zx_177 (kee : Nat → Int64) : zz_ho zt_tau (zp_phi kee) zh_177 zg_177 := zz_spl_ok (Z := zh_177) (a := 4) (b := 3) rfl rfl (Or.inr (List.mem_of_getElem? (i := 0) rfl)) (Or.inr (List.mem_of_getElem? (i := 1) rfl)) (List.mem_of_getElem? (i := 2) rfl)
theorem zx_178 (kee : Nat → Int64) : zz_ho zt_tau (zp_phi kee) zh_178 zg_178 := zl_xor (Z := zh_178) (r := 5) rfl
theorem zx_179 (kee : Nat → Int64) : zz_ho zt_tau (zp_phi kee) zh_179 zg_179 := zl_fwub (Z := zh_179) (i := 1) (s := 4) rfl rfl (Or.inl ⟨rfl, rfl⟩)
theorem zx_180 (kee : Nat → Int64) : zz_ho zt_tau (zp_phi kee) zh_180 zg_180 := zl_fwsh (Z := zh_180) (i := 1) (a2 := .inr (.inl (3, .negSucc 0))) (u2 := .inr (.inl (4, .ofNat 1))) (e := .negSucc 0) [0, 2, 3, 4, 5, 6] rfl rfl rfl rfl rfl rfl rfl rfl rfl
theorem zx_181 (kee : Nat → Int64) : zz_ho zt_tau (zp_phi kee) zh_181 zg_181 := zl_fwub (Z := zh_181) (i := 1) (s := 3) rfl rfl (Or.inr ⟨rfl, rfl⟩)
theorem zx_182 (kee : Nat → Int64) : zz_ho zt_tau (zp_phi kee) zh_182 zg_182 := zl_fwsh (Z := zh_182) (i := 0) (a2 := .inr (.inl (3, .ofNat 1))) (u2 := .inr (.inl (4, .negSucc 0))) (e := .ofNat 1) [1, 2, 3, 4, 5, 6] rfl rfl rfl rfl rfl rfl rfl rfl rfl
theorem zx_183 (kee : Nat → Int64) : zz_ho zt_tau (zp_phi kee) zh_183 zg_183 := zz_spl_ok (Z := zh_183) (a := 3) (b := 2) rfl rfl (Or.inr (List.mem_of_getElem? (i := 0) rfl)) (Or.inl rfl) (List.mem_of_getElem? (i := 1) rfl)
theorem zx_184 (kee : Nat → Int64) : zz_ho zt_tau (zp_phi kee) zh_184 zg_184 := zz_spl_ok (Z := zh_184) (a := 2) (b := 1) rfl rfl (Or.inr (List.mem_of_getElem? (i := 0) rfl)) (Or.inl rfl) (List.mem_of_getElem? (i := 1) rfl)
theorem zx_185 (kee : Nat → Int64) : zz_ho zt_tau (zp_phi kee) zh_185 zg_185 := zz_spl_ok (Z := zh_185) (a := 8) (b := 5) rfl rfl (Or.inr (List.mem_of_getElem? (i := 0) rfl)) (Or.inl rfl) (List.mem_of_getElem? (i := 1) rfl)
theorem zx_186 (kee : Nat → Int64) : zz_ho zt_tau (zp_phi kee) zh_186 zg_186 := zz_nums_ok (Z := zh_186) (s := 0) (n := 3) rfl (by decide)
theorem zx_187 (kee : Nat → Int64) : zz_ho zt_tau (zp_phi kee) zh_187 zg_187 := zz_spl_ok (Z := zh_187) (a := 6) (b := 3) rfl rfl (Or.inr (List.mem_of_getElem? (i := 0) rfl)) (Or.inl rfl) (List.mem_of_getElem? (i := 1) rfl)
theorem zx_188 (kee : Nat → Int64) : zz_ho zt_tau (zp_phi kee) zh_188 zg_188 := zl_fb (Z := zh_188) (x := 0) (i := 1) (t := 3) [0, 1, 2, 3, 4, 5] (by decide) rfl rfl rfl
theorem zx_189 (kee : Nat → Int64) : zz_ho zt_tau (zp_phi kee) zh_189 zg_189 := zz_spl_ok (Z := zh_189) (a := 6) (b := 3) rfl rfl (Or.inr (List.mem_of_getElem? (i := 0) rfl)) (Or.inl rfl) (List.mem_of_getElem? (i := 1) rfl)
theorem zx_190 (kee : Nat → Int64) : zz_ho zt_tau (zp_phi kee) zh_190 zg_190 := zl_fb (Z := zh_190) (x := 1) (i := 1) (t := 3) [0, 1, 2, 3, 4, 5] (by decide) rfl rfl rfl
theorem zx_191 (kee : Nat → Int64) : zz_ho zt_tau (zp_phi kee) zh_191 zg_191 := zz_spl_ok (Z := zh_191) (a := 6) (b := 3) rfl rfl (Or.inr (List.mem_of_getElem? (i := 0) rfl)) (Or.inl rfl) (List.mem_of_getElem? (i := 1) rfl)
theorem zx_192 (kee : Nat → Int64) : zz_ho zt_tau (zp_phi kee) zh_192 zg_192 := zl_fb (Z := zh_192) (x := 2) (i := 1) (t := 3) [0, 1, 2, 3, 4, 5] (by decide) rfl rfl rfl
theorem zx_193 (kee : Nat → Int64) : zz_ho zt_tau (zp_phi kee) zh_193 zg_193 := zl_fw0 (Z := zh_193) (t := .inr (.inl (3, .ofNat 0))) [0, 1, 2, 3, 4, 5, 6] rfl rfl
theorem zx_194 (kee : Nat → Int64) : zz_ho zt_tau (zp_phi kee) zh_194 zg_194 := zz_spl_ok (Z := zh_194) (a := 6) (b := 3) rfl rfl (Or.inr (List.mem_of_getElem? (i := 0) rfl)) (Or.inr (List.mem_of_getElem? (i := 1) rfl)) (List.mem_of_getElem? (i := 2) rfl)
theorem zx_195 (kee : Nat → Int64) : zz_ho zt_tau (zp_phi kee) zh_195 zg_195 := zl_fbread (Z := zh_195) (x := 0) (i := 2) (j := 0) (t := 3) (by decide) rfl rfl
theorem zx_196 (kee : Nat → Int64) : zz_ho zt_tau (zp_phi kee) zh_196 zg_196 := zl_fw0 (Z := zh_196) (t := .inr (.inl (3, .ofNat 0))) [0, 1, 2, 3, 4, 5, 6] rfl rfl
theorem zx_197 (kee : Nat → Int64) : zz_ho zt_tau (zp_phi kee) zh_197 zg_197 := zz_spl_ok (Z := zh_197) (a := 6) (b := 3) rfl rfl (Or.inr (List.mem_of_getElem? (i := 0) rfl)) (Or.inr (List.mem_of_getElem? (i := 1) rfl)) (List.mem_of_getElem? (i := 2) rfl)
theorem zx_198 (kee : Nat → Int64) : zz_ho zt_tau (zp_phi kee) zh_198 zg_198 := zl_fbread (Z := zh_198) (x := 1) (i := 3) (j := 0) (t := 3) (by decide) rfl rfl
theorem zx_199 (kee : Nat → Int64) : zz_ho zt_tau (zp_phi kee) zh_199 zg_199 := zl_fw0 (Z := zh_199) (t := .inr (.inl (3, .ofNat 0))) [0, 1, 2, 3, 4, 5, 6] rfl rfl
theorem zx_200 (kee : Nat → Int64) : zz_ho zt_tau (zp_phi kee) zh_200 zg_200 := zz_spl_ok (Z := zh_200) (a := 6) (b := 3) rfl rfl (Or.inr (List.mem_of_getElem? (i := 0) rfl)) (Or.inr (List.mem_of_getElem? (i := 1) rfl)) (List.mem_of_getElem? (i := 2) rfl)
theorem zx_201 (kee : Nat → Int64) : zz_ho zt_tau (zp_phi kee) zh_201 zg_201 := zl_fbread (Z := zh_201) (x := 2) (i := 4) (j := 0) (t := 3) (by decide) rfl rfl
