abbrev r_c_X11_isMade_d0 : Room := { frames := 0, cells := 0, slots := 0, locals := 0 }
set_option maxHeartbeats 4000000 in
set_option maxRecDepth 100000 in
theorem c_X11_isMade_d0 (l : Launch) (g : GC) (tl : va_W) (σ : SS) (l2 pd a b c2 : Nat) (hl8 : l2 < 8) (hLn : Ln (σ.2.1 0) l2) (hpd : pd ≤ (σ.2.1 0) (42 + l2)) (ha : a < 10 ∨ (2147483648 ≤ a ∧ a < 4294967296)) (hb2 : b < 10 ∨ (2147483648 ≤ b ∧ b < 4294967296)) (hc : c2 < 10 ∨ (2147483648 ≤ c2 ∧ c2 < 4294967296)) (hd : a < 10 → b < 10 → c2 < 10 → (σ.2.1 0) (42 + l2) - pd + (a + b + c2) ≤ 0) : Met l yX11_isMade wsX11_isMade r_c_X11_isMade_d0 (va_Pc [.ref (g.2.2.2 0), .int (nI l2), .int (nI pd), .int (nI a), .int (nI b), .int (nI c2)] (PP g (wM g σ ++ tl))) (vp_Si (fun r => r = nI (if mdQ (σ.2.1 0) l2 ((σ.2.1 0) (42 + l2) - pd) pd a b c2 then 1 else 0))) 0 0 (fun _ => False) := by
  refine jn_pz (cc := cX11_isMade) (maxL := 7) (own := RX11) (by decide) rfl rfl (Nat.le_of_ble_eq_true rfl) ?_
  intro p e s m below meth c Q hx hb hml hown hts ⟨hP, hK⟩ hq ls hl
  have hl : lv_has ls 7 [(0, .ref (g.2.2.2 0)), (1, .int (nI l2)), (2, .int (nI pd)), (3, .int (nI a)), (4, .int (nI b)), (5, .int (nI c2))] := hl
  have hH3 := hLn.2.1
  refine lv_iload_n hx hb dX11_isMade_0 rfl (lv_at hl 3 rfl) ?_
  refine jn_zlt hx hb (by omega) (tgt := 14) dX11_isMade_1 (by decide) (fun c_1 => ?_) (fun c_1 => ?_)
  · refine lv_iconst (v := nI 0) hx hb dX11_isMade_14 (by decide) ?_
    exact hq _ _ ((nI 0)) dX11_isMade_15 jn_n0 (n_if0 (fun q => by have q1 := q.1; have q2 := q.2.1; have q3 := q.2.2.1; omega))
  · refine lv_iload hx hb dX11_isMade_4 (lv_at hl 4 rfl) ?_
    refine jn_zlt hx hb (by omega) (tgt := 14) dX11_isMade_6 (by decide) (fun c_6 => ?_) (fun c_6 => ?_)
    · refine lv_iconst (v := nI 0) hx hb dX11_isMade_14 (by decide) ?_
      exact hq _ _ ((nI 0)) dX11_isMade_15 jn_n0 (n_if0 (fun q => by have q1 := q.1; have q2 := q.2.1; have q3 := q.2.2.1; omega))
    · refine lv_iload hx hb dX11_isMade_9 (lv_at hl 5 rfl) ?_
      refine jn_zge hx hb (by omega) (tgt := 16) dX11_isMade_11 (by decide) (fun c_11 => ?_) (fun c_11 => ?_)
      · refine lv_iload_n hx hb dX11_isMade_16 rfl (lv_at hl 3 rfl) ?_
        refine lv_iload hx hb dX11_isMade_17 (lv_at hl 4 rfl) ?_
        refine jn_iadd hx hb dX11_isMade_19 ?_
        refine lv_iload hx hb dX11_isMade_20 (lv_at hl 5 rfl) ?_
        refine jn_iadd hx hb dX11_isMade_22 ?_
        refine jn_zne hx hb (by omega) (tgt := 28) dX11_isMade_23 (by decide) (fun c_23 => ?_) (fun c_23 => ?_)
        · exact absurd (hd (by omega) (by omega) (by omega)) (by omega)
        · have ea : a = 0 := by omega
          have eb : b = 0 := by omega
          have ec : c2 = 0 := by omega
          refine lv_iconst (v := nI 1) hx hb dX11_isMade_26 (by decide) ?_
          exact hq _ _ ((nI 1)) dX11_isMade_27 jn_n1 (n_if1 ⟨by omega, by omega, by omega, cB_iff.mpr (by rw [ea, eb, ec]; exact md_0 _ _ _ _)⟩)
      · refine lv_iconst (v := nI 0) hx hb dX11_isMade_14 (by decide) ?_
        exact hq _ _ ((nI 0)) dX11_isMade_15 jn_n0 (n_if0 (fun q => by have q1 := q.1; have q2 := q.2.1; have q3 := q.2.2.1; omega))

abbrev r_c_X11_isMade_d1 : Room := { frames := 1, cells := 0, slots := 0, locals := 26 }
set_option maxHeartbeats 4000000 in
set_option maxRecDepth 100000 in
theorem c_X11_isMade_d1 (l : Launch) (g : GC) (tl : va_W) (σ : SS) (l2 pd a b c2 : Nat) (hl8 : l2 < 8) (hLn : Ln (σ.2.1 0) l2) (hpd : pd ≤ (σ.2.1 0) (42 + l2)) (ha : a < 10 ∨ (2147483648 ≤ a ∧ a < 4294967296)) (hb2 : b < 10 ∨ (2147483648 ≤ b ∧ b < 4294967296)) (hc : c2 < 10 ∨ (2147483648 ≤ c2 ∧ c2 < 4294967296)) (hd : a < 10 → b < 10 → c2 < 10 → (σ.2.1 0) (42 + l2) - pd + (a + b + c2) ≤ 1) : Met l yX11_isMade wsX11_isMade r_c_X11_isMade_d1 (va_Pc [.ref (g.2.2.2 0), .int (nI l2), .int (nI pd), .int (nI a), .int (nI b), .int (nI c2)] (PP g (wM g σ ++ tl))) (vp_Si (fun r => r = nI (if mdQ (σ.2.1 0) l2 ((σ.2.1 0) (42 + l2) - pd) pd a b c2 then 1 else 0))) 0 0 (fun _ => False) := by
  refine jn_pz (cc := cX11_isMade) (maxL := 7) (own := RX11) (by decide) rfl rfl (Nat.le_of_ble_eq_true rfl) ?_
  intro p e s m below meth c Q hx hb hml hown hts ⟨hP, hK⟩ hq ls hl
  have hl : lv_has ls 7 [(0, .ref (g.2.2.2 0)), (1, .int (nI l2)), (2, .int (nI pd)), (3, .int (nI a)), (4, .int (nI b)), (5, .int (nI c2))] := hl
  have iX11 : ∀ w ∈ wsX110, w ∈ wsX11_isMade := by decide +kernel
  have k13 := hts (.fieldLink RX11 13 "JumpingAutomataModel" "now" "[I") (by decide +kernel)
  have hH3 := hLn.2.1
  refine lv_iload_n hx hb dX11_isMade_0 rfl (lv_at hl 3 rfl) ?_
  refine jn_zlt hx hb (by omega) (tgt := 14) dX11_isMade_1 (by decide) (fun c_1 => ?_) (fun c_1 => ?_)
  · refine lv_iconst (v := nI 0) hx hb dX11_isMade_14 (by decide) ?_
    exact hq _ _ ((nI 0)) dX11_isMade_15 jn_n0 (n_if0 (fun q => by have q1 := q.1; have q2 := q.2.1; have q3 := q.2.2.1; omega))
  · refine lv_iload hx hb dX11_isMade_4 (lv_at hl 4 rfl) ?_
    refine jn_zlt hx hb (by omega) (tgt := 14) dX11_isMade_6 (by decide) (fun c_6 => ?_) (fun c_6 => ?_)
    · refine lv_iconst (v := nI 0) hx hb dX11_isMade_14 (by decide) ?_
      exact hq _ _ ((nI 0)) dX11_isMade_15 jn_n0 (n_if0 (fun q => by have q1 := q.1; have q2 := q.2.1; have q3 := q.2.2.1; omega))
    · refine lv_iload hx hb dX11_isMade_9 (lv_at hl 5 rfl) ?_
      refine jn_zge hx hb (by omega) (tgt := 16) dX11_isMade_11 (by decide) (fun c_11 => ?_) (fun c_11 => ?_)
      · refine lv_iload_n hx hb dX11_isMade_16 rfl (lv_at hl 3 rfl) ?_
        refine lv_iload hx hb dX11_isMade_17 (lv_at hl 4 rfl) ?_
        refine jn_iadd hx hb dX11_isMade_19 ?_
        refine lv_iload hx hb dX11_isMade_20 (lv_at hl 5 rfl) ?_
        refine jn_iadd hx hb dX11_isMade_22 ?_
        refine jn_zne hx hb (by omega) (tgt := 28) dX11_isMade_23 (by decide) (fun c_23 => ?_) (fun c_23 => ?_)
        · refine lv_iload_n hx hb dX11_isMade_28 rfl (lv_at hl 2 rfl) ?_
          refine lv_aload_n hx hb dX11_isMade_29 rfl (lv_at hl 0 rfl) ?_
          refine va_get (D := (g.1, g.2.1)) (ci := 13) (v := .ref (g.2.2.2 1)) (C := RX11) (T := TX11) (N := 30) hx hb hts iX11 hown hK.1 hP 0 (gM0 g σ tl) rfl 1 (by decide) k13 (fun _ h9 => h9) rfl dX11_isMade_30 ?_
          refine lv_bipush (v := nI 42) hx hb dX11_isMade_33 (by decide) ?_
          refine lv_iload_n hx hb dX11_isMade_35 rfl (lv_at hl 1 rfl) ?_
          refine jn_iadd hx hb dX11_isMade_36 ?_
          refine jn_iald (f := σ.2.1 0) hx hb hK.1 hP 1 0 (gM1 g σ tl) rfl (by omega) (Nat.le_of_ble_eq_true rfl) dX11_isMade_37 ?_
          refine jn_cne hx hb (by omega) (by omega) (tgt := 43) dX11_isMade_38 (by decide) (fun c_38 => ?_) (fun c_38 => ?_)
          · have hlt : pd < (σ.2.1 0) (42 + l2) := by omega
            obtain ⟨p1, p2, p3, p4⟩ := hLn.2.2 pd hlt
            have ha9 : a < 10 := by omega
            have hb9 : b < 10 := by omega
            have hc9 : c2 < 10 := by omega
            have hms := md_step (l := l2) hlt ha9 hb9 hc9 p1 p2 p3
            have hmf := md_fuel (l := l2) (d := 0) hlt ha9 hb9 hc9 p1 p2 p3 p4 (hd ha9 hb9 hc9)
            refine lv_bipush (v := nI 50) hx hb dX11_isMade_43 (by decide) ?_
            refine lv_bipush (v := nI 9) hx hb dX11_isMade_45 (by decide) ?_
            refine lv_iload_n hx hb dX11_isMade_47 rfl (lv_at hl 1 rfl) ?_
            refine jn_imul hx hb dX11_isMade_48 ?_
            refine jn_iadd hx hb dX11_isMade_49 ?_
            refine lv_iconst (v := nI 3) hx hb dX11_isMade_50 (by decide) ?_
            refine lv_iload_n hx hb dX11_isMade_51 rfl (lv_at hl 2 rfl) ?_
            refine jn_imul hx hb dX11_isMade_52 ?_
            refine jn_iadd hx hb dX11_isMade_53 ?_
            refine lv_istore (lv' := [(6, .int (nI ((50 + (9 * l2)) + (3 * pd)))), (0, .ref (g.2.2.2 0)), (1, .int (nI l2)), (2, .int (nI pd)), (3, .int (nI a)), (4, .int (nI b)), (5, .int (nI c2))]) hx hb dX11_isMade_54 hl (by decide) rfl (fun ls hl => ?_)
            refine lv_aload_n hx hb dX11_isMade_56 rfl (lv_at hl 1 rfl) ?_
            refine lv_iload_n hx hb dX11_isMade_57 rfl (lv_at hl 2 rfl) ?_
            refine lv_iload_n hx hb dX11_isMade_58 rfl (lv_at hl 3 rfl) ?_
            refine lv_iconst (v := nI 1) hx hb dX11_isMade_59 (by decide) ?_
            refine jn_iadd hx hb dX11_isMade_60 ?_
            refine lv_iload_n hx hb dX11_isMade_61 rfl (lv_at hl 4 rfl) ?_
            refine lv_iload hx hb dX11_isMade_62 (lv_at hl 5 rfl) ?_
            refine lv_iload hx hb dX11_isMade_64 (lv_at hl 6 rfl) ?_
            refine vp_callSi (va_Run.run (va_runV (As := [.int (nI l2), .int (nI (pd + 1)), .int (nI a), .int (nI b), .int (nI c2)]) (rest := []) ⟨hx, hb, hml, hown, hts⟩ (c_X11_isMade_d0 l g tl σ l2 (pd + 1) a b c2 hl8 hLn (by omega) ha hb2 hc (fun h1 h2 h3 => by have := hd h1 h2 h3; omega)) (cwV 5 hts gX11_isMade_X11_isMade rfl rfl rfl (by decide +kernel) ⟨Nat.le_of_ble_eq_true rfl, Nat.le_of_ble_eq_true rfl⟩) (okPV hK hP rfl (gM0 g σ tl)) rfl rfl hl.1 rfl (lv_room (Nat.le_of_ble_eq_true rfl)) dX11_isMade_66 ⟨Nat.le_of_ble_eq_true rfl, Nat.le_of_ble_eq_true rfl⟩)) (fun r_66 h_66 => ?_)
            subst h_66
            refine jn_bne hx hb (tgt := 114) dX11_isMade_69 (by decide) (fun c_69 => ?_) (fun c_69 => ?_)
            · refine lv_iconst (v := nI 1) hx hb dX11_isMade_114 (by decide) ?_
              refine lv_goto (tgt := 119) hx hb dX11_isMade_115 (by decide) ?_
              exact hq _ _ ((nI 1)) dX11_isMade_119 jn_n1 (by first | exact n_if1 (hms.mpr (Or.inl c_69)) | exact n_if1 (hms.mpr (Or.inr c_111)) | exact n_if0 (fun q => (hms.mp q).elim c_69 c_111))
            · refine lv_aload_n hx hb dX11_isMade_72 rfl (lv_at hl 1 rfl) ?_
              refine lv_iload_n hx hb dX11_isMade_73 rfl (lv_at hl 2 rfl) ?_
              refine lv_iload_n hx hb dX11_isMade_74 rfl (lv_at hl 3 rfl) ?_
              refine lv_iload_n hx hb dX11_isMade_75 rfl (lv_at hl 4 rfl) ?_
              refine lv_aload_n hx hb dX11_isMade_76 rfl (lv_at hl 1 rfl) ?_
              refine va_get (D := (g.1, g.2.1)) (ci := 13) (v := .ref (g.2.2.2 1)) (C := RX11) (T := TX11) (N := 30) hx hb hts iX11 hown hK.1 hP 0 (gM0 g σ tl) rfl 1 (by decide) k13 (fun _ h9 => h9) rfl dX11_isMade_77 ?_
              refine lv_iload hx hb dX11_isMade_80 (lv_at hl 0 rfl) ?_
              refine jn_iald (f := σ.2.1 0) hx hb hK.1 hP 1 0 (gM1 g σ tl) rfl (by omega) (Nat.le_of_ble_eq_true rfl) dX11_isMade_82 ?_
              refine jn_isubB hx hb (by omega) dX11_isMade_83 ?_
              refine lv_iload hx hb dX11_isMade_84 (lv_at hl 5 rfl) ?_
              refine lv_aload_n hx hb dX11_isMade_86 rfl (lv_at hl 1 rfl) ?_
              refine va_get (D := (g.1, g.2.1)) (ci := 13) (v := .ref (g.2.2.2 1)) (C := RX11) (T := TX11) (N := 30) hx hb hts iX11 hown hK.1 hP 0 (gM0 g σ tl) rfl 1 (by decide) k13 (fun _ h9 => h9) rfl dX11_isMade_87 ?_
              refine lv_iload hx hb dX11_isMade_90 (lv_at hl 0 rfl) ?_
              refine lv_iconst (v := nI 1) hx hb dX11_isMade_92 (by decide) ?_
              refine jn_iadd hx hb dX11_isMade_93 ?_
              refine jn_iald (f := σ.2.1 0) hx hb hK.1 hP 1 0 (gM1 g σ tl) rfl (by omega) (Nat.le_of_ble_eq_true rfl) dX11_isMade_94 ?_
              refine jn_isubB hx hb (by omega) dX11_isMade_95 ?_
              refine lv_iload hx hb dX11_isMade_96 (lv_at hl 6 rfl) ?_
              refine lv_aload_n hx hb dX11_isMade_98 rfl (lv_at hl 1 rfl) ?_
              refine va_get (D := (g.1, g.2.1)) (ci := 13) (v := .ref (g.2.2.2 1)) (C := RX11) (T := TX11) (N := 30) hx hb hts iX11 hown hK.1 hP 0 (gM0 g σ tl) rfl 1 (by decide) k13 (fun _ h9 => h9) rfl dX11_isMade_99 ?_
              refine lv_iload hx hb dX11_isMade_102 (lv_at hl 0 rfl) ?_
              refine lv_iconst (v := nI 2) hx hb dX11_isMade_104 (by decide) ?_
              refine jn_iadd hx hb dX11_isMade_105 ?_
              refine jn_iald (f := σ.2.1 0) hx hb hK.1 hP 1 0 (gM1 g σ tl) rfl (by omega) (Nat.le_of_ble_eq_true rfl) dX11_isMade_106 ?_
              refine jn_isubB hx hb (by omega) dX11_isMade_107 ?_
              refine vp_callSi (va_Run.run (va_runV (As := [.int (nI l2), .int (nI pd), .int (nI (sb a ((σ.2.1 0) ((50 + (9 * l2)) + (3 * pd))))), .int (nI (sb b ((σ.2.1 0) (((50 + (9 * l2)) + (3 * pd)) + 1)))), .int (nI (sb c2 ((σ.2.1 0) (((50 + (9 * l2)) + (3 * pd)) + 2))))]) (rest := []) ⟨hx, hb, hml, hown, hts⟩ (c_X11_isMade_d0 l g tl σ l2 pd (sb a ((σ.2.1 0) ((50 + (9 * l2)) + (3 * pd)))) (sb b ((σ.2.1 0) (((50 + (9 * l2)) + (3 * pd)) + 1))) (sb c2 ((σ.2.1 0) (((50 + (9 * l2)) + (3 * pd)) + 2))) hl8 hLn hpd (sb_or ha9 p1) (sb_or hb9 p2) (sb_or hc9 p3) hmf) (cwV 5 hts gX11_isMade_X11_isMade rfl rfl rfl (by decide +kernel) ⟨Nat.le_of_ble_eq_true rfl, Nat.le_of_ble_eq_true rfl⟩) (okPV hK hP rfl (gM0 g σ tl)) rfl rfl hl.1 rfl (lv_room (Nat.le_of_ble_eq_true rfl)) dX11_isMade_108 ⟨Nat.le_of_ble_eq_true rfl, Nat.le_of_ble_eq_true rfl⟩)) (fun r_108 h_108 => ?_)
              subst h_108
              refine jn_beq hx hb (tgt := 118) dX11_isMade_111 (by decide) (fun c_111 => ?_) (fun c_111 => ?_)
              · refine lv_iconst (v := nI 0) hx hb dX11_isMade_118 (by decide) ?_
                exact hq _ _ ((nI 0)) dX11_isMade_119 jn_n0 (by first | exact n_if1 (hms.mpr (Or.inl c_69)) | exact n_if1 (hms.mpr (Or.inr c_111)) | exact n_if0 (fun q => (hms.mp q).elim c_69 c_111))
              · refine lv_iconst (v := nI 1) hx hb dX11_isMade_114 (by decide) ?_
                refine lv_goto (tgt := 119) hx hb dX11_isMade_115 (by decide) ?_
                exact hq _ _ ((nI 1)) dX11_isMade_119 jn_n1 (by first | exact n_if1 (hms.mpr (Or.inl c_69)) | exact n_if1 (hms.mpr (Or.inr c_111)) | exact n_if0 (fun q => (hms.mp q).elim c_69 c_111))
          · refine lv_iconst (v := nI 0) hx hb dX11_isMade_41 (by decide) ?_
            exact hq _ _ ((nI 0)) dX11_isMade_42 jn_n0 (n_if0 (fun q => by have q4 := cB_iff.mp q.2.2.2; rw [show (σ.2.1 0) (42 + l2) - pd = 0 by omega] at q4; obtain ⟨q5, q6, q7⟩ := q4; omega))
        · have ea : a = 0 := by omega
          have eb : b = 0 := by omega
          have ec : c2 = 0 := by omega
          refine lv_iconst (v := nI 1) hx hb dX11_isMade_26 (by decide) ?_
          exact hq _ _ ((nI 1)) dX11_isMade_27 jn_n1 (n_if1 ⟨by omega, by omega, by omega, cB_iff.mpr (by rw [ea, eb, ec]; exact md_0 _ _ _ _)⟩)
      · refine lv_iconst (v := nI 0) hx hb dX11_isMade_14 (by decide) ?_
        exact hq _ _ ((nI 0)) dX11_isMade_15 jn_n0 (n_if0 (fun q => by have q1 := q.1; have q2 := q.2.1; have q3 := q.2.2.1; omega))

abbrev r_c_X11_isMade_d2 : Room := { frames := 2, cells := 0, slots := 0, locals := 52 }
set_option maxHeartbeats 4000000 in
set_option maxRecDepth 100000 in
theorem c_X11_isMade_d2 (l : Launch) (g : GC) (tl : va_W) (σ : SS) (l2 pd a b c2 : Nat) (hl8 : l2 < 8) (hLn : Ln (σ.2.1 0) l2) (hpd : pd ≤ (σ.2.1 0) (42 + l2)) (ha : a < 10 ∨ (2147483648 ≤ a ∧ a < 4294967296)) (hb2 : b < 10 ∨ (2147483648 ≤ b ∧ b < 4294967296)) (hc : c2 < 10 ∨ (2147483648 ≤ c2 ∧ c2 < 4294967296)) (hd : a < 10 → b < 10 → c2 < 10 → (σ.2.1 0) (42 + l2) - pd + (a + b + c2) ≤ 2) : Met l yX11_isMade wsX11_isMade r_c_X11_isMade_d2 (va_Pc [.ref (g.2.2.2 0), .int (nI l2), .int (nI pd), .int (nI a), .int (nI b), .int (nI c2)] (PP g (wM g σ ++ tl))) (vp_Si (fun r => r = nI (if mdQ (σ.2.1 0) l2 ((σ.2.1 0) (42 + l2) - pd) pd a b c2 then 1 else 0))) 0 0 (fun _ => False) := by
  refine jn_pz (cc := cX11_isMade) (maxL := 7) (own := RX11) (by decide) rfl rfl (Nat.le_of_ble_eq_true rfl) ?_
  intro p e s m below meth c Q hx hb hml hown hts ⟨hP, hK⟩ hq ls hl
  have hl : lv_has ls 7 [(0, .ref (g.2.2.2 0)), (1, .int (nI l2)), (2, .int (nI pd)), (3, .int (nI a)), (4, .int (nI b)), (5, .int (nI c2))] := hl
  have iX11 : ∀ w ∈ wsX110, w ∈ wsX11_isMade := by decide +kernel
  have k13 := hts (.fieldLink RX11 13 "JumpingAutomataModel" "now" "[I") (by decide +kernel)
  have hH3 := hLn.2.1
  refine lv_iload_n hx hb dX11_isMade_0 rfl (lv_at hl 3 rfl) ?_
  refine jn_zlt hx hb (by omega) (tgt := 14) dX11_isMade_1 (by decide) (fun c_1 => ?_) (fun c_1 => ?_)
  · refine lv_iconst (v := nI 0) hx hb dX11_isMade_14 (by decide) ?_
    exact hq _ _ ((nI 0)) dX11_isMade_15 jn_n0 (n_if0 (fun q => by have q1 := q.1; have q2 := q.2.1; have q3 := q.2.2.1; omega))
  · refine lv_iload hx hb dX11_isMade_4 (lv_at hl 4 rfl) ?_
    refine jn_zlt hx hb (by omega) (tgt := 14) dX11_isMade_6 (by decide) (fun c_6 => ?_) (fun c_6 => ?_)
    · refine lv_iconst (v := nI 0) hx hb dX11_isMade_14 (by decide) ?_
      exact hq _ _ ((nI 0)) dX11_isMade_15 jn_n0 (n_if0 (fun q => by have q1 := q.1; have q2 := q.2.1; have q3 := q.2.2.1; omega))
    · refine lv_iload hx hb dX11_isMade_9 (lv_at hl 5 rfl) ?_
      refine jn_zge hx hb (by omega) (tgt := 16) dX11_isMade_11 (by decide) (fun c_11 => ?_) (fun c_11 => ?_)
      · refine lv_iload_n hx hb dX11_isMade_16 rfl (lv_at hl 3 rfl) ?_
        refine lv_iload hx hb dX11_isMade_17 (lv_at hl 4 rfl) ?_
        refine jn_iadd hx hb dX11_isMade_19 ?_
        refine lv_iload hx hb dX11_isMade_20 (lv_at hl 5 rfl) ?_
        refine jn_iadd hx hb dX11_isMade_22 ?_
        refine jn_zne hx hb (by omega) (tgt := 28) dX11_isMade_23 (by decide) (fun c_23 => ?_) (fun c_23 => ?_)
        · refine lv_iload_n hx hb dX11_isMade_28 rfl (lv_at hl 2 rfl) ?_
          refine lv_aload_n hx hb dX11_isMade_29 rfl (lv_at hl 0 rfl) ?_
          refine va_get (D := (g.1, g.2.1)) (ci := 13) (v := .ref (g.2.2.2 1)) (C := RX11) (T := TX11) (N := 30) hx hb hts iX11 hown hK.1 hP 0 (gM0 g σ tl) rfl 1 (by decide) k13 (fun _ h9 => h9) rfl dX11_isMade_30 ?_
          refine lv_bipush (v := nI 42) hx hb dX11_isMade_33 (by decide) ?_
          refine lv_iload_n hx hb dX11_isMade_35 rfl (lv_at hl 1 rfl) ?_
          refine jn_iadd hx hb dX11_isMade_36 ?_
          refine jn_iald (f := σ.2.1 0) hx hb hK.1 hP 1 0 (gM1 g σ tl) rfl (by omega) (Nat.le_of_ble_eq_true rfl) dX11_isMade_37 ?_
          refine jn_cne hx hb (by omega) (by omega) (tgt := 43) dX11_isMade_38 (by decide) (fun c_38 => ?_) (fun c_38 => ?_)
          · have hlt : pd < (σ.2.1 0) (42 + l2) := by omega
            obtain ⟨p1, p2, p3, p4⟩ := hLn.2.2 pd hlt
            have ha9 : a < 10 := by omega
            have hb9 : b < 10 := by omega
            have hc9 : c2 < 10 := by omega
            have hms := md_step (l := l2) hlt ha9 hb9 hc9 p1 p2 p3
            have hmf := md_fuel (l := l2) (d := 1) hlt ha9 hb9 hc9 p1 p2 p3 p4 (hd ha9 hb9 hc9)
            refine lv_bipush (v := nI 50) hx hb dX11_isMade_43 (by decide) ?_
            refine lv_bipush (v := nI 9) hx hb dX11_isMade_45 (by decide) ?_
            refine lv_iload_n hx hb dX11_isMade_47 rfl (lv_at hl 1 rfl) ?_
            refine jn_imul hx hb dX11_isMade_48 ?_
            refine jn_iadd hx hb dX11_isMade_49 ?_
            refine lv_iconst (v := nI 3) hx hb dX11_isMade_50 (by decide) ?_
            refine lv_iload_n hx hb dX11_isMade_51 rfl (lv_at hl 2 rfl) ?_
            refine jn_imul hx hb dX11_isMade_52 ?_
            refine jn_iadd hx hb dX11_isMade_53 ?_
            refine lv_istore (lv' := [(6, .int (nI ((50 + (9 * l2)) + (3 * pd)))), (0, .ref (g.2.2.2 0)), (1, .int (nI l2)), (2, .int (nI pd)), (3, .int (nI a)), (4, .int (nI b)), (5, .int (nI c2))]) hx hb dX11_isMade_54 hl (by decide) rfl (fun ls hl => ?_)
            refine lv_aload_n hx hb dX11_isMade_56 rfl (lv_at hl 1 rfl) ?_
            refine lv_iload_n hx hb dX11_isMade_57 rfl (lv_at hl 2 rfl) ?_
            refine lv_iload_n hx hb dX11_isMade_58 rfl (lv_at hl 3 rfl) ?_
            refine lv_iconst (v := nI 1) hx hb dX11_isMade_59 (by decide) ?_
            refine jn_iadd hx hb dX11_isMade_60 ?_
            refine lv_iload_n hx hb dX11_isMade_61 rfl (lv_at hl 4 rfl) ?_
            refine lv_iload hx hb dX11_isMade_62 (lv_at hl 5 rfl) ?_
            refine lv_iload hx hb dX11_isMade_64 (lv_at hl 6 rfl) ?_
            refine vp_callSi (va_Run.run (va_runV (As := [.int (nI l2), .int (nI (pd + 1)), .int (nI a), .int (nI b), .int (nI c2)]) (rest := []) ⟨hx, hb, hml, hown, hts⟩ (c_X11_isMade_d1 l g tl σ l2 (pd + 1) a b c2 hl8 hLn (by omega) ha hb2 hc (fun h1 h2 h3 => by have := hd h1 h2 h3; omega)) (cwV 5 hts gX11_isMade_X11_isMade rfl rfl rfl (by decide +kernel) ⟨Nat.le_of_ble_eq_true rfl, Nat.le_of_ble_eq_true rfl⟩) (okPV hK hP rfl (gM0 g σ tl)) rfl rfl hl.1 rfl (lv_room (Nat.le_of_ble_eq_true rfl)) dX11_isMade_66 ⟨Nat.le_of_ble_eq_true rfl, Nat.le_of_ble_eq_true rfl⟩)) (fun r_66 h_66 => ?_)
            subst h_66
            refine jn_bne hx hb (tgt := 114) dX11_isMade_69 (by decide) (fun c_69 => ?_) (fun c_69 => ?_)
            · refine lv_iconst (v := nI 1) hx hb dX11_isMade_114 (by decide) ?_
              refine lv_goto (tgt := 119) hx hb dX11_isMade_115 (by decide) ?_
              exact hq _ _ ((nI 1)) dX11_isMade_119 jn_n1 (by first | exact n_if1 (hms.mpr (Or.inl c_69)) | exact n_if1 (hms.mpr (Or.inr c_111)) | exact n_if0 (fun q => (hms.mp q).elim c_69 c_111))
            · refine lv_aload_n hx hb dX11_isMade_72 rfl (lv_at hl 1 rfl) ?_
              refine lv_iload_n hx hb dX11_isMade_73 rfl (lv_at hl 2 rfl) ?_
              refine lv_iload_n hx hb dX11_isMade_74 rfl (lv_at hl 3 rfl) ?_
              refine lv_iload_n hx hb dX11_isMade_75 rfl (lv_at hl 4 rfl) ?_
              refine lv_aload_n hx hb dX11_isMade_76 rfl (lv_at hl 1 rfl) ?_
              refine va_get (D := (g.1, g.2.1)) (ci := 13) (v := .ref (g.2.2.2 1)) (C := RX11) (T := TX11) (N := 30) hx hb hts iX11 hown hK.1 hP 0 (gM0 g σ tl) rfl 1 (by decide) k13 (fun _ h9 => h9) rfl dX11_isMade_77 ?_
              refine lv_iload hx hb dX11_isMade_80 (lv_at hl 0 rfl) ?_
              refine jn_iald (f := σ.2.1 0) hx hb hK.1 hP 1 0 (gM1 g σ tl) rfl (by omega) (Nat.le_of_ble_eq_true rfl) dX11_isMade_82 ?_
              refine jn_isubB hx hb (by omega) dX11_isMade_83 ?_
              refine lv_iload hx hb dX11_isMade_84 (lv_at hl 5 rfl) ?_
              refine lv_aload_n hx hb dX11_isMade_86 rfl (lv_at hl 1 rfl) ?_
              refine va_get (D := (g.1, g.2.1)) (ci := 13) (v := .ref (g.2.2.2 1)) (C := RX11) (T := TX11) (N := 30) hx hb hts iX11 hown hK.1 hP 0 (gM0 g σ tl) rfl 1 (by decide) k13 (fun _ h9 => h9) rfl dX11_isMade_87 ?_
              refine lv_iload hx hb dX11_isMade_90 (lv_at hl 0 rfl) ?_
              refine lv_iconst (v := nI 1) hx hb dX11_isMade_92 (by decide) ?_
              refine jn_iadd hx hb dX11_isMade_93 ?_
              refine jn_iald (f := σ.2.1 0) hx hb hK.1 hP 1 0 (gM1 g σ tl) rfl (by omega) (Nat.le_of_ble_eq_true rfl) dX11_isMade_94 ?_
              refine jn_isubB hx hb (by omega) dX11_isMade_95 ?_
              refine lv_iload hx hb dX11_isMade_96 (lv_at hl 6 rfl) ?_
              refine lv_aload_n hx hb dX11_isMade_98 rfl (lv_at hl 1 rfl) ?_
              refine va_get (D := (g.1, g.2.1)) (ci := 13) (v := .ref (g.2.2.2 1)) (C := RX11) (T := TX11) (N := 30) hx hb hts iX11 hown hK.1 hP 0 (gM0 g σ tl) rfl 1 (by decide) k13 (fun _ h9 => h9) rfl dX11_isMade_99 ?_
              refine lv_iload hx hb dX11_isMade_102 (lv_at hl 0 rfl) ?_
              refine lv_iconst (v := nI 2) hx hb dX11_isMade_104 (by decide) ?_
              refine jn_iadd hx hb dX11_isMade_105 ?_
              refine jn_iald (f := σ.2.1 0) hx hb hK.1 hP 1 0 (gM1 g σ tl) rfl (by omega) (Nat.le_of_ble_eq_true rfl) dX11_isMade_106 ?_
              refine jn_isubB hx hb (by omega) dX11_isMade_107 ?_
              refine vp_callSi (va_Run.run (va_runV (As := [.int (nI l2), .int (nI pd), .int (nI (sb a ((σ.2.1 0) ((50 + (9 * l2)) + (3 * pd))))), .int (nI (sb b ((σ.2.1 0) (((50 + (9 * l2)) + (3 * pd)) + 1)))), .int (nI (sb c2 ((σ.2.1 0) (((50 + (9 * l2)) + (3 * pd)) + 2))))]) (rest := []) ⟨hx, hb, hml, hown, hts⟩ (c_X11_isMade_d1 l g tl σ l2 pd (sb a ((σ.2.1 0) ((50 + (9 * l2)) + (3 * pd)))) (sb b ((σ.2.1 0) (((50 + (9 * l2)) + (3 * pd)) + 1))) (sb c2 ((σ.2.1 0) (((50 + (9 * l2)) + (3 * pd)) + 2))) hl8 hLn hpd (sb_or ha9 p1) (sb_or hb9 p2) (sb_or hc9 p3) hmf) (cwV 5 hts gX11_isMade_X11_isMade rfl rfl rfl (by decide +kernel) ⟨Nat.le_of_ble_eq_true rfl, Nat.le_of_ble_eq_true rfl⟩) (okPV hK hP rfl (gM0 g σ tl)) rfl rfl hl.1 rfl (lv_room (Nat.le_of_ble_eq_true rfl)) dX11_isMade_108 ⟨Nat.le_of_ble_eq_true rfl, Nat.le_of_ble_eq_true rfl⟩)) (fun r_108 h_108 => ?_)
              subst h_108
              refine jn_beq hx hb (tgt := 118) dX11_isMade_111 (by decide) (fun c_111 => ?_) (fun c_111 => ?_)
              · refine lv_iconst (v := nI 0) hx hb dX11_isMade_118 (by decide) ?_
                exact hq _ _ ((nI 0)) dX11_isMade_119 jn_n0 (by first | exact n_if1 (hms.mpr (Or.inl c_69)) | exact n_if1 (hms.mpr (Or.inr c_111)) | exact n_if0 (fun q => (hms.mp q).elim c_69 c_111))
              · refine lv_iconst (v := nI 1) hx hb dX11_isMade_114 (by decide) ?_
                refine lv_goto (tgt := 119) hx hb dX11_isMade_115 (by decide) ?_
                exact hq _ _ ((nI 1)) dX11_isMade_119 jn_n1 (by first | exact n_if1 (hms.mpr (Or.inl c_69)) | exact n_if1 (hms.mpr (Or.inr c_111)) | exact n_if0 (fun q => (hms.mp q).elim c_69 c_111))
          · refine lv_iconst (v := nI 0) hx hb dX11_isMade_41 (by decide) ?_
            exact hq _ _ ((nI 0)) dX11_isMade_42 jn_n0 (n_if0 (fun q => by have q4 := cB_iff.mp q.2.2.2; rw [show (σ.2.1 0) (42 + l2) - pd = 0 by omega] at q4; obtain ⟨q5, q6, q7⟩ := q4; omega))
        · have ea : a = 0 := by omega
          have eb : b = 0 := by omega
          have ec : c2 = 0 := by omega
          refine lv_iconst (v := nI 1) hx hb dX11_isMade_26 (by decide) ?_
          exact hq _ _ ((nI 1)) dX11_isMade_27 jn_n1 (n_if1 ⟨by omega, by omega, by omega, cB_iff.mpr (by rw [ea, eb, ec]; exact md_0 _ _ _ _)⟩)
      · refine lv_iconst (v := nI 0) hx hb dX11_isMade_14 (by decide) ?_
        exact hq _ _ ((nI 0)) dX11_isMade_15 jn_n0 (n_if0 (fun q => by have q1 := q.1; have q2 := q.2.1; have q3 := q.2.2.1; omega))

abbrev r_c_X11_isMade_d3 : Room := { frames := 3, cells := 0, slots := 0, locals := 78 }
set_option maxHeartbeats 4000000 in
set_option maxRecDepth 100000 in
theorem c_X11_isMade_d3 (l : Launch) (g : GC) (tl : va_W) (σ : SS) (l2 pd a b c2 : Nat) (hl8 : l2 < 8) (hLn : Ln (σ.2.1 0) l2) (hpd : pd ≤ (σ.2.1 0) (42 + l2)) (ha : a < 10 ∨ (2147483648 ≤ a ∧ a < 4294967296)) (hb2 : b < 10 ∨ (2147483648 ≤ b ∧ b < 4294967296)) (hc : c2 < 10 ∨ (2147483648 ≤ c2 ∧ c2 < 4294967296)) (hd : a < 10 → b < 10 → c2 < 10 → (σ.2.1 0) (42 + l2) - pd + (a + b + c2) ≤ 3) : Met l yX11_isMade wsX11_isMade r_c_X11_isMade_d3 (va_Pc [.ref (g.2.2.2 0), .int (nI l2), .int (nI pd), .int (nI a), .int (nI b), .int (nI c2)] (PP g (wM g σ ++ tl))) (vp_Si (fun r => r = nI (if mdQ (σ.2.1 0) l2 ((σ.2.1 0) (42 + l2) - pd) pd a b c2 then 1 else 0))) 0 0 (fun _ => False) := by
  refine jn_pz (cc := cX11_isMade) (maxL := 7) (own := RX11) (by decide) rfl rfl (Nat.le_of_ble_eq_true rfl) ?_
  intro p e s m below meth c Q hx hb hml hown hts ⟨hP, hK⟩ hq ls hl
  have hl : lv_has ls 7 [(0, .ref (g.2.2.2 0)), (1, .int (nI l2)), (2, .int (nI pd)), (3, .int (nI a)), (4, .int (nI b)), (5, .int (nI c2))] := hl
  have iX11 : ∀ w ∈ wsX110, w ∈ wsX11_isMade := by decide +kernel
  have k13 := hts (.fieldLink RX11 13 "JumpingAutomataModel" "now" "[I") (by decide +kernel)
  have hH3 := hLn.2.1
  refine lv_iload_n hx hb dX11_isMade_0 rfl (lv_at hl 3 rfl) ?_
  refine jn_zlt hx hb (by omega) (tgt := 14) dX11_isMade_1 (by decide) (fun c_1 => ?_) (fun c_1 => ?_)
  · refine lv_iconst (v := nI 0) hx hb dX11_isMade_14 (by decide) ?_
    exact hq _ _ ((nI 0)) dX11_isMade_15 jn_n0 (n_if0 (fun q => by have q1 := q.1; have q2 := q.2.1; have q3 := q.2.2.1; omega))
  · refine lv_iload hx hb dX11_isMade_4 (lv_at hl 4 rfl) ?_
    refine jn_zlt hx hb (by omega) (tgt := 14) dX11_isMade_6 (by decide) (fun c_6 => ?_) (fun c_6 => ?_)
    · refine lv_iconst (v := nI 0) hx hb dX11_isMade_14 (by decide) ?_
      exact hq _ _ ((nI 0)) dX11_isMade_15 jn_n0 (n_if0 (fun q => by have q1 := q.1; have q2 := q.2.1; have q3 := q.2.2.1; omega))
    · refine lv_iload hx hb dX11_isMade_9 (lv_at hl 5 rfl) ?_
      refine jn_zge hx hb (by omega) (tgt := 16) dX11_isMade_11 (by decide) (fun c_11 => ?_) (fun c_11 => ?_)
      · refine lv_iload_n hx hb dX11_isMade_16 rfl (lv_at hl 3 rfl) ?_
        refine lv_iload hx hb dX11_isMade_17 (lv_at hl 4 rfl) ?_
        refine jn_iadd hx hb dX11_isMade_19 ?_
        refine lv_iload hx hb dX11_isMade_20 (lv_at hl 5 rfl) ?_
        refine jn_iadd hx hb dX11_isMade_22 ?_
        refine jn_zne hx hb (by omega) (tgt := 28) dX11_isMade_23 (by decide) (fun c_23 => ?_) (fun c_23 => ?_)
        · refine lv_iload_n hx hb dX11_isMade_28 rfl (lv_at hl 2 rfl) ?_
          refine lv_aload_n hx hb dX11_isMade_29 rfl (lv_at hl 0 rfl) ?_
          refine va_get (D := (g.1, g.2.1)) (ci := 13) (v := .ref (g.2.2.2 1)) (C := RX11) (T := TX11) (N := 30) hx hb hts iX11 hown hK.1 hP 0 (gM0 g σ tl) rfl 1 (by decide) k13 (fun _ h9 => h9) rfl dX11_isMade_30 ?_
          refine lv_bipush (v := nI 42) hx hb dX11_isMade_33 (by decide) ?_
          refine lv_iload_n hx hb dX11_isMade_35 rfl (lv_at hl 1 rfl) ?_
          refine jn_iadd hx hb dX11_isMade_36 ?_
          refine jn_iald (f := σ.2.1 0) hx hb hK.1 hP 1 0 (gM1 g σ tl) rfl (by omega) (Nat.le_of_ble_eq_true rfl) dX11_isMade_37 ?_
          refine jn_cne hx hb (by omega) (by omega) (tgt := 43) dX11_isMade_38 (by decide) (fun c_38 => ?_) (fun c_38 => ?_)
          · have hlt : pd < (σ.2.1 0) (42 + l2) := by omega
            obtain ⟨p1, p2, p3, p4⟩ := hLn.2.2 pd hlt
            have ha9 : a < 10 := by omega
            have hb9 : b < 10 := by omega
            have hc9 : c2 < 10 := by omega
            have hms := md_step (l := l2) hlt ha9 hb9 hc9 p1 p2 p3
            have hmf := md_fuel (l := l2) (d := 2) hlt ha9 hb9 hc9 p1 p2 p3 p4 (hd ha9 hb9 hc9)
            refine lv_bipush (v := nI 50) hx hb dX11_isMade_43 (by decide) ?_
            refine lv_bipush (v := nI 9) hx hb dX11_isMade_45 (by decide) ?_
            refine lv_iload_n hx hb dX11_isMade_47 rfl (lv_at hl 1 rfl) ?_
            refine jn_imul hx hb dX11_isMade_48 ?_
            refine jn_iadd hx hb dX11_isMade_49 ?_
            refine lv_iconst (v := nI 3) hx hb dX11_isMade_50 (by decide) ?_
            refine lv_iload_n hx hb dX11_isMade_51 rfl (lv_at hl 2 rfl) ?_
            refine jn_imul hx hb dX11_isMade_52 ?_
            refine jn_iadd hx hb dX11_isMade_53 ?_
            refine lv_istore (lv' := [(6, .int (nI ((50 + (9 * l2)) + (3 * pd)))), (0, .ref (g.2.2.2 0)), (1, .int (nI l2)), (2, .int (nI pd)), (3, .int (nI a)), (4, .int (nI b)), (5, .int (nI c2))]) hx hb dX11_isMade_54 hl (by decide) rfl (fun ls hl => ?_)
            refine lv_aload_n hx hb dX11_isMade_56 rfl (lv_at hl 1 rfl) ?_
            refine lv_iload_n hx hb dX11_isMade_57 rfl (lv_at hl 2 rfl) ?_
            refine lv_iload_n hx hb dX11_isMade_58 rfl (lv_at hl 3 rfl) ?_
            refine lv_iconst (v := nI 1) hx hb dX11_isMade_59 (by decide) ?_
            refine jn_iadd hx hb dX11_isMade_60 ?_
            refine lv_iload_n hx hb dX11_isMade_61 rfl (lv_at hl 4 rfl) ?_
            refine lv_iload hx hb dX11_isMade_62 (lv_at hl 5 rfl) ?_
            refine lv_iload hx hb dX11_isMade_64 (lv_at hl 6 rfl) ?_
            refine vp_callSi (va_Run.run (va_runV (As := [.int (nI l2), .int (nI (pd + 1)), .int (nI a), .int (nI b), .int (nI c2)]) (rest := []) ⟨hx, hb, hml, hown, hts⟩ (c_X11_isMade_d2 l g tl σ l2 (pd + 1) a b c2 hl8 hLn (by omega) ha hb2 hc (fun h1 h2 h3 => by have := hd h1 h2 h3; omega)) (cwV 5 hts gX11_isMade_X11_isMade rfl rfl rfl (by decide +kernel) ⟨Nat.le_of_ble_eq_true rfl, Nat.le_of_ble_eq_true rfl⟩) (okPV hK hP rfl (gM0 g σ tl)) rfl rfl hl.1 rfl (lv_room (Nat.le_of_ble_eq_true rfl)) dX11_isMade_66 ⟨Nat.le_of_ble_eq_true rfl, Nat.le_of_ble_eq_true rfl⟩)) (fun r_66 h_66 => ?_)
            subst h_66
            refine jn_bne hx hb (tgt := 114) dX11_isMade_69 (by decide) (fun c_69 => ?_) (fun c_69 => ?_)
            · refine lv_iconst (v := nI 1) hx hb dX11_isMade_114 (by decide) ?_
              refine lv_goto (tgt := 119) hx hb dX11_isMade_115 (by decide) ?_
              exact hq _ _ ((nI 1)) dX11_isMade_119 jn_n1 (by first | exact n_if1 (hms.mpr (Or.inl c_69)) | exact n_if1 (hms.mpr (Or.inr c_111)) | exact n_if0 (fun q => (hms.mp q).elim c_69 c_111))
            · refine lv_aload_n hx hb dX11_isMade_72 rfl (lv_at hl 1 rfl) ?_
              refine lv_iload_n hx hb dX11_isMade_73 rfl (lv_at hl 2 rfl) ?_
              refine lv_iload_n hx hb dX11_isMade_74 rfl (lv_at hl 3 rfl) ?_
              refine lv_iload_n hx hb dX11_isMade_75 rfl (lv_at hl 4 rfl) ?_
              refine lv_aload_n hx hb dX11_isMade_76 rfl (lv_at hl 1 rfl) ?_
              refine va_get (D := (g.1, g.2.1)) (ci := 13) (v := .ref (g.2.2.2 1)) (C := RX11) (T := TX11) (N := 30) hx hb hts iX11 hown hK.1 hP 0 (gM0 g σ tl) rfl 1 (by decide) k13 (fun _ h9 => h9) rfl dX11_isMade_77 ?_
              refine lv_iload hx hb dX11_isMade_80 (lv_at hl 0 rfl) ?_
              refine jn_iald (f := σ.2.1 0) hx hb hK.1 hP 1 0 (gM1 g σ tl) rfl (by omega) (Nat.le_of_ble_eq_true rfl) dX11_isMade_82 ?_
              refine jn_isubB hx hb (by omega) dX11_isMade_83 ?_
              refine lv_iload hx hb dX11_isMade_84 (lv_at hl 5 rfl) ?_
              refine lv_aload_n hx hb dX11_isMade_86 rfl (lv_at hl 1 rfl) ?_
              refine va_get (D := (g.1, g.2.1)) (ci := 13) (v := .ref (g.2.2.2 1)) (C := RX11) (T := TX11) (N := 30) hx hb hts iX11 hown hK.1 hP 0 (gM0 g σ tl) rfl 1 (by decide) k13 (fun _ h9 => h9) rfl dX11_isMade_87 ?_
              refine lv_iload hx hb dX11_isMade_90 (lv_at hl 0 rfl) ?_
              refine lv_iconst (v := nI 1) hx hb dX11_isMade_92 (by decide) ?_
              refine jn_iadd hx hb dX11_isMade_93 ?_
              refine jn_iald (f := σ.2.1 0) hx hb hK.1 hP 1 0 (gM1 g σ tl) rfl (by omega) (Nat.le_of_ble_eq_true rfl) dX11_isMade_94 ?_
              refine jn_isubB hx hb (by omega) dX11_isMade_95 ?_
              refine lv_iload hx hb dX11_isMade_96 (lv_at hl 6 rfl) ?_
              refine lv_aload_n hx hb dX11_isMade_98 rfl (lv_at hl 1 rfl) ?_
              refine va_get (D := (g.1, g.2.1)) (ci := 13) (v := .ref (g.2.2.2 1)) (C := RX11) (T := TX11) (N := 30) hx hb hts iX11 hown hK.1 hP 0 (gM0 g σ tl) rfl 1 (by decide) k13 (fun _ h9 => h9) rfl dX11_isMade_99 ?_
              refine lv_iload hx hb dX11_isMade_102 (lv_at hl 0 rfl) ?_
              refine lv_iconst (v := nI 2) hx hb dX11_isMade_104 (by decide) ?_
              refine jn_iadd hx hb dX11_isMade_105 ?_
              refine jn_iald (f := σ.2.1 0) hx hb hK.1 hP 1 0 (gM1 g σ tl) rfl (by omega) (Nat.le_of_ble_eq_true rfl) dX11_isMade_106 ?_
              refine jn_isubB hx hb (by omega) dX11_isMade_107 ?_
              refine vp_callSi (va_Run.run (va_runV (As := [.int (nI l2), .int (nI pd), .int (nI (sb a ((σ.2.1 0) ((50 + (9 * l2)) + (3 * pd))))), .int (nI (sb b ((σ.2.1 0) (((50 + (9 * l2)) + (3 * pd)) + 1)))), .int (nI (sb c2 ((σ.2.1 0) (((50 + (9 * l2)) + (3 * pd)) + 2))))]) (rest := []) ⟨hx, hb, hml, hown, hts⟩ (c_X11_isMade_d2 l g tl σ l2 pd (sb a ((σ.2.1 0) ((50 + (9 * l2)) + (3 * pd)))) (sb b ((σ.2.1 0) (((50 + (9 * l2)) + (3 * pd)) + 1))) (sb c2 ((σ.2.1 0) (((50 + (9 * l2)) + (3 * pd)) + 2))) hl8 hLn hpd (sb_or ha9 p1) (sb_or hb9 p2) (sb_or hc9 p3) hmf) (cwV 5 hts gX11_isMade_X11_isMade rfl rfl rfl (by decide +kernel) ⟨Nat.le_of_ble_eq_true rfl, Nat.le_of_ble_eq_true rfl⟩) (okPV hK hP rfl (gM0 g σ tl)) rfl rfl hl.1 rfl (lv_room (Nat.le_of_ble_eq_true rfl)) dX11_isMade_108 ⟨Nat.le_of_ble_eq_true rfl, Nat.le_of_ble_eq_true rfl⟩)) (fun r_108 h_108 => ?_)
              subst h_108
              refine jn_beq hx hb (tgt := 118) dX11_isMade_111 (by decide) (fun c_111 => ?_) (fun c_111 => ?_)
              · refine lv_iconst (v := nI 0) hx hb dX11_isMade_118 (by decide) ?_
                exact hq _ _ ((nI 0)) dX11_isMade_119 jn_n0 (by first | exact n_if1 (hms.mpr (Or.inl c_69)) | exact n_if1 (hms.mpr (Or.inr c_111)) | exact n_if0 (fun q => (hms.mp q).elim c_69 c_111))
              · refine lv_iconst (v := nI 1) hx hb dX11_isMade_114 (by decide) ?_
                refine lv_goto (tgt := 119) hx hb dX11_isMade_115 (by decide) ?_
                exact hq _ _ ((nI 1)) dX11_isMade_119 jn_n1 (by first | exact n_if1 (hms.mpr (Or.inl c_69)) | exact n_if1 (hms.mpr (Or.inr c_111)) | exact n_if0 (fun q => (hms.mp q).elim c_69 c_111))
          · refine lv_iconst (v := nI 0) hx hb dX11_isMade_41 (by decide) ?_
            exact hq _ _ ((nI 0)) dX11_isMade_42 jn_n0 (n_if0 (fun q => by have q4 := cB_iff.mp q.2.2.2; rw [show (σ.2.1 0) (42 + l2) - pd = 0 by omega] at q4; obtain ⟨q5, q6, q7⟩ := q4; omega))
        · have ea : a = 0 := by omega
          have eb : b = 0 := by omega
          have ec : c2 = 0 := by omega
          refine lv_iconst (v := nI 1) hx hb dX11_isMade_26 (by decide) ?_
          exact hq _ _ ((nI 1)) dX11_isMade_27 jn_n1 (n_if1 ⟨by omega, by omega, by omega, cB_iff.mpr (by rw [ea, eb, ec]; exact md_0 _ _ _ _)⟩)
      · refine lv_iconst (v := nI 0) hx hb dX11_isMade_14 (by decide) ?_
        exact hq _ _ ((nI 0)) dX11_isMade_15 jn_n0 (n_if0 (fun q => by have q1 := q.1; have q2 := q.2.1; have q3 := q.2.2.1; omega))

abbrev r_c_X11_isMade_d4 : Room := { frames := 4, cells := 0, slots := 0, locals := 104 }
set_option maxHeartbeats 4000000 in
set_option maxRecDepth 100000 in
theorem c_X11_isMade_d4 (l : Launch) (g : GC) (tl : va_W) (σ : SS) (l2 pd a b c2 : Nat) (hl8 : l2 < 8) (hLn : Ln (σ.2.1 0) l2) (hpd : pd ≤ (σ.2.1 0) (42 + l2)) (ha : a < 10 ∨ (2147483648 ≤ a ∧ a < 4294967296)) (hb2 : b < 10 ∨ (2147483648 ≤ b ∧ b < 4294967296)) (hc : c2 < 10 ∨ (2147483648 ≤ c2 ∧ c2 < 4294967296)) (hd : a < 10 → b < 10 → c2 < 10 → (σ.2.1 0) (42 + l2) - pd + (a + b + c2) ≤ 4) : Met l yX11_isMade wsX11_isMade r_c_X11_isMade_d4 (va_Pc [.ref (g.2.2.2 0), .int (nI l2), .int (nI pd), .int (nI a), .int (nI b), .int (nI c2)] (PP g (wM g σ ++ tl))) (vp_Si (fun r => r = nI (if mdQ (σ.2.1 0) l2 ((σ.2.1 0) (42 + l2) - pd) pd a b c2 then 1 else 0))) 0 0 (fun _ => False) := by
  refine jn_pz (cc := cX11_isMade) (maxL := 7) (own := RX11) (by decide) rfl rfl (Nat.le_of_ble_eq_true rfl) ?_
  intro p e s m below meth c Q hx hb hml hown hts ⟨hP, hK⟩ hq ls hl
  have hl : lv_has ls 7 [(0, .ref (g.2.2.2 0)), (1, .int (nI l2)), (2, .int (nI pd)), (3, .int (nI a)), (4, .int (nI b)), (5, .int (nI c2))] := hl
  have iX11 : ∀ w ∈ wsX110, w ∈ wsX11_isMade := by decide +kernel
  have k13 := hts (.fieldLink RX11 13 "JumpingAutomataModel" "now" "[I") (by decide +kernel)
  have hH3 := hLn.2.1
  refine lv_iload_n hx hb dX11_isMade_0 rfl (lv_at hl 3 rfl) ?_
  refine jn_zlt hx hb (by omega) (tgt := 14) dX11_isMade_1 (by decide) (fun c_1 => ?_) (fun c_1 => ?_)
  · refine lv_iconst (v := nI 0) hx hb dX11_isMade_14 (by decide) ?_
    exact hq _ _ ((nI 0)) dX11_isMade_15 jn_n0 (n_if0 (fun q => by have q1 := q.1; have q2 := q.2.1; have q3 := q.2.2.1; omega))
  · refine lv_iload hx hb dX11_isMade_4 (lv_at hl 4 rfl) ?_
    refine jn_zlt hx hb (by omega) (tgt := 14) dX11_isMade_6 (by decide) (fun c_6 => ?_) (fun c_6 => ?_)
    · refine lv_iconst (v := nI 0) hx hb dX11_isMade_14 (by decide) ?_
      exact hq _ _ ((nI 0)) dX11_isMade_15 jn_n0 (n_if0 (fun q => by have q1 := q.1; have q2 := q.2.1; have q3 := q.2.2.1; omega))
    · refine lv_iload hx hb dX11_isMade_9 (lv_at hl 5 rfl) ?_
      refine jn_zge hx hb (by omega) (tgt := 16) dX11_isMade_11 (by decide) (fun c_11 => ?_) (fun c_11 => ?_)
      · refine lv_iload_n hx hb dX11_isMade_16 rfl (lv_at hl 3 rfl) ?_
        refine lv_iload hx hb dX11_isMade_17 (lv_at hl 4 rfl) ?_
        refine jn_iadd hx hb dX11_isMade_19 ?_
        refine lv_iload hx hb dX11_isMade_20 (lv_at hl 5 rfl) ?_
        refine jn_iadd hx hb dX11_isMade_22 ?_
        refine jn_zne hx hb (by omega) (tgt := 28) dX11_isMade_23 (by decide) (fun c_23 => ?_) (fun c_23 => ?_)
        · refine lv_iload_n hx hb dX11_isMade_28 rfl (lv_at hl 2 rfl) ?_
          refine lv_aload_n hx hb dX11_isMade_29 rfl (lv_at hl 0 rfl) ?_
          refine va_get (D := (g.1, g.2.1)) (ci := 13) (v := .ref (g.2.2.2 1)) (C := RX11) (T := TX11) (N := 30) hx hb hts iX11 hown hK.1 hP 0 (gM0 g σ tl) rfl 1 (by decide) k13 (fun _ h9 => h9) rfl dX11_isMade_30 ?_
          refine lv_bipush (v := nI 42) hx hb dX11_isMade_33 (by decide) ?_
          refine lv_iload_n hx hb dX11_isMade_35 rfl (lv_at hl 1 rfl) ?_
          refine jn_iadd hx hb dX11_isMade_36 ?_
          refine jn_iald (f := σ.2.1 0) hx hb hK.1 hP 1 0 (gM1 g σ tl) rfl (by omega) (Nat.le_of_ble_eq_true rfl) dX11_isMade_37 ?_
          refine jn_cne hx hb (by omega) (by omega) (tgt := 43) dX11_isMade_38 (by decide) (fun c_38 => ?_) (fun c_38 => ?_)
          · have hlt : pd < (σ.2.1 0) (42 + l2) := by omega
            obtain ⟨p1, p2, p3, p4⟩ := hLn.2.2 pd hlt
            have ha9 : a < 10 := by omega
            have hb9 : b < 10 := by omega
            have hc9 : c2 < 10 := by omega
            have hms := md_step (l := l2) hlt ha9 hb9 hc9 p1 p2 p3
            have hmf := md_fuel (l := l2) (d := 3) hlt ha9 hb9 hc9 p1 p2 p3 p4 (hd ha9 hb9 hc9)
            refine lv_bipush (v := nI 50) hx hb dX11_isMade_43 (by decide) ?_
            refine lv_bipush (v := nI 9) hx hb dX11_isMade_45 (by decide) ?_
            refine lv_iload_n hx hb dX11_isMade_47 rfl (lv_at hl 1 rfl) ?_
            refine jn_imul hx hb dX11_isMade_48 ?_
            refine jn_iadd hx hb dX11_isMade_49 ?_
            refine lv_iconst (v := nI 3) hx hb dX11_isMade_50 (by decide) ?_
            refine lv_iload_n hx hb dX11_isMade_51 rfl (lv_at hl 2 rfl) ?_
            refine jn_imul hx hb dX11_isMade_52 ?_
            refine jn_iadd hx hb dX11_isMade_53 ?_
            refine lv_istore (lv' := [(6, .int (nI ((50 + (9 * l2)) + (3 * pd)))), (0, .ref (g.2.2.2 0)), (1, .int (nI l2)), (2, .int (nI pd)), (3, .int (nI a)), (4, .int (nI b)), (5, .int (nI c2))]) hx hb dX11_isMade_54 hl (by decide) rfl (fun ls hl => ?_)
            refine lv_aload_n hx hb dX11_isMade_56 rfl (lv_at hl 1 rfl) ?_
            refine lv_iload_n hx hb dX11_isMade_57 rfl (lv_at hl 2 rfl) ?_
            refine lv_iload_n hx hb dX11_isMade_58 rfl (lv_at hl 3 rfl) ?_
            refine lv_iconst (v := nI 1) hx hb dX11_isMade_59 (by decide) ?_
            refine jn_iadd hx hb dX11_isMade_60 ?_
            refine lv_iload_n hx hb dX11_isMade_61 rfl (lv_at hl 4 rfl) ?_
            refine lv_iload hx hb dX11_isMade_62 (lv_at hl 5 rfl) ?_
            refine lv_iload hx hb dX11_isMade_64 (lv_at hl 6 rfl) ?_
            refine vp_callSi (va_Run.run (va_runV (As := [.int (nI l2), .int (nI (pd + 1)), .int (nI a), .int (nI b), .int (nI c2)]) (rest := []) ⟨hx, hb, hml, hown, hts⟩ (c_X11_isMade_d3 l g tl σ l2 (pd + 1) a b c2 hl8 hLn (by omega) ha hb2 hc (fun h1 h2 h3 => by have := hd h1 h2 h3; omega)) (cwV 5 hts gX11_isMade_X11_isMade rfl rfl rfl (by decide +kernel) ⟨Nat.le_of_ble_eq_true rfl, Nat.le_of_ble_eq_true rfl⟩) (okPV hK hP rfl (gM0 g σ tl)) rfl rfl hl.1 rfl (lv_room (Nat.le_of_ble_eq_true rfl)) dX11_isMade_66 ⟨Nat.le_of_ble_eq_true rfl, Nat.le_of_ble_eq_true rfl⟩)) (fun r_66 h_66 => ?_)
            subst h_66
            refine jn_bne hx hb (tgt := 114) dX11_isMade_69 (by decide) (fun c_69 => ?_) (fun c_69 => ?_)
            · refine lv_iconst (v := nI 1) hx hb dX11_isMade_114 (by decide) ?_
              refine lv_goto (tgt := 119) hx hb dX11_isMade_115 (by decide) ?_
              exact hq _ _ ((nI 1)) dX11_isMade_119 jn_n1 (by first | exact n_if1 (hms.mpr (Or.inl c_69)) | exact n_if1 (hms.mpr (Or.inr c_111)) | exact n_if0 (fun q => (hms.mp q).elim c_69 c_111))
            · refine lv_aload_n hx hb dX11_isMade_72 rfl (lv_at hl 1 rfl) ?_
              refine lv_iload_n hx hb dX11_isMade_73 rfl (lv_at hl 2 rfl) ?_
              refine lv_iload_n hx hb dX11_isMade_74 rfl (lv_at hl 3 rfl) ?_
              refine lv_iload_n hx hb dX11_isMade_75 rfl (lv_at hl 4 rfl) ?_
              refine lv_aload_n hx hb dX11_isMade_76 rfl (lv_at hl 1 rfl) ?_
              refine va_get (D := (g.1, g.2.1)) (ci := 13) (v := .ref (g.2.2.2 1)) (C := RX11) (T := TX11) (N := 30) hx hb hts iX11 hown hK.1 hP 0 (gM0 g σ tl) rfl 1 (by decide) k13 (fun _ h9 => h9) rfl dX11_isMade_77 ?_
              refine lv_iload hx hb dX11_isMade_80 (lv_at hl 0 rfl) ?_
              refine jn_iald (f := σ.2.1 0) hx hb hK.1 hP 1 0 (gM1 g σ tl) rfl (by omega) (Nat.le_of_ble_eq_true rfl) dX11_isMade_82 ?_
              refine jn_isubB hx hb (by omega) dX11_isMade_83 ?_
              refine lv_iload hx hb dX11_isMade_84 (lv_at hl 5 rfl) ?_
              refine lv_aload_n hx hb dX11_isMade_86 rfl (lv_at hl 1 rfl) ?_
              refine va_get (D := (g.1, g.2.1)) (ci := 13) (v := .ref (g.2.2.2 1)) (C := RX11) (T := TX11) (N := 30) hx hb hts iX11 hown hK.1 hP 0 (gM0 g σ tl) rfl 1 (by decide) k13 (fun _ h9 => h9) rfl dX11_isMade_87 ?_
              refine lv_iload hx hb dX11_isMade_90 (lv_at hl 0 rfl) ?_
              refine lv_iconst (v := nI 1) hx hb dX11_isMade_92 (by decide) ?_
              refine jn_iadd hx hb dX11_isMade_93 ?_
              refine jn_iald (f := σ.2.1 0) hx hb hK.1 hP 1 0 (gM1 g σ tl) rfl (by omega) (Nat.le_of_ble_eq_true rfl) dX11_isMade_94 ?_
              refine jn_isubB hx hb (by omega) dX11_isMade_95 ?_
              refine lv_iload hx hb dX11_isMade_96 (lv_at hl 6 rfl) ?_
              refine lv_aload_n hx hb dX11_isMade_98 rfl (lv_at hl 1 rfl) ?_
              refine va_get (D := (g.1, g.2.1)) (ci := 13) (v := .ref (g.2.2.2 1)) (C := RX11) (T := TX11) (N := 30) hx hb hts iX11 hown hK.1 hP 0 (gM0 g σ tl) rfl 1 (by decide) k13 (fun _ h9 => h9) rfl dX11_isMade_99 ?_
              refine lv_iload hx hb dX11_isMade_102 (lv_at hl 0 rfl) ?_
              refine lv_iconst (v := nI 2) hx hb dX11_isMade_104 (by decide) ?_
              refine jn_iadd hx hb dX11_isMade_105 ?_
              refine jn_iald (f := σ.2.1 0) hx hb hK.1 hP 1 0 (gM1 g σ tl) rfl (by omega) (Nat.le_of_ble_eq_true rfl) dX11_isMade_106 ?_
              refine jn_isubB hx hb (by omega) dX11_isMade_107 ?_
              refine vp_callSi (va_Run.run (va_runV (As := [.int (nI l2), .int (nI pd), .int (nI (sb a ((σ.2.1 0) ((50 + (9 * l2)) + (3 * pd))))), .int (nI (sb b ((σ.2.1 0) (((50 + (9 * l2)) + (3 * pd)) + 1)))), .int (nI (sb c2 ((σ.2.1 0) (((50 + (9 * l2)) + (3 * pd)) + 2))))]) (rest := []) ⟨hx, hb, hml, hown, hts⟩ (c_X11_isMade_d3 l g tl σ l2 pd (sb a ((σ.2.1 0) ((50 + (9 * l2)) + (3 * pd)))) (sb b ((σ.2.1 0) (((50 + (9 * l2)) + (3 * pd)) + 1))) (sb c2 ((σ.2.1 0) (((50 + (9 * l2)) + (3 * pd)) + 2))) hl8 hLn hpd (sb_or ha9 p1) (sb_or hb9 p2) (sb_or hc9 p3) hmf) (cwV 5 hts gX11_isMade_X11_isMade rfl rfl rfl (by decide +kernel) ⟨Nat.le_of_ble_eq_true rfl, Nat.le_of_ble_eq_true rfl⟩) (okPV hK hP rfl (gM0 g σ tl)) rfl rfl hl.1 rfl (lv_room (Nat.le_of_ble_eq_true rfl)) dX11_isMade_108 ⟨Nat.le_of_ble_eq_true rfl, Nat.le_of_ble_eq_true rfl⟩)) (fun r_108 h_108 => ?_)
              subst h_108
              refine jn_beq hx hb (tgt := 118) dX11_isMade_111 (by decide) (fun c_111 => ?_) (fun c_111 => ?_)
              · refine lv_iconst (v := nI 0) hx hb dX11_isMade_118 (by decide) ?_
                exact hq _ _ ((nI 0)) dX11_isMade_119 jn_n0 (by first | exact n_if1 (hms.mpr (Or.inl c_69)) | exact n_if1 (hms.mpr (Or.inr c_111)) | exact n_if0 (fun q => (hms.mp q).elim c_69 c_111))
              · refine lv_iconst (v := nI 1) hx hb dX11_isMade_114 (by decide) ?_
                refine lv_goto (tgt := 119) hx hb dX11_isMade_115 (by decide) ?_
                exact hq _ _ ((nI 1)) dX11_isMade_119 jn_n1 (by first | exact n_if1 (hms.mpr (Or.inl c_69)) | exact n_if1 (hms.mpr (Or.inr c_111)) | exact n_if0 (fun q => (hms.mp q).elim c_69 c_111))
          · refine lv_iconst (v := nI 0) hx hb dX11_isMade_41 (by decide) ?_
            exact hq _ _ ((nI 0)) dX11_isMade_42 jn_n0 (n_if0 (fun q => by have q4 := cB_iff.mp q.2.2.2; rw [show (σ.2.1 0) (42 + l2) - pd = 0 by omega] at q4; obtain ⟨q5, q6, q7⟩ := q4; omega))
        · have ea : a = 0 := by omega
          have eb : b = 0 := by omega
          have ec : c2 = 0 := by omega
          refine lv_iconst (v := nI 1) hx hb dX11_isMade_26 (by decide) ?_
          exact hq _ _ ((nI 1)) dX11_isMade_27 jn_n1 (n_if1 ⟨by omega, by omega, by omega, cB_iff.mpr (by rw [ea, eb, ec]; exact md_0 _ _ _ _)⟩)
      · refine lv_iconst (v := nI 0) hx hb dX11_isMade_14 (by decide) ?_
        exact hq _ _ ((nI 0)) dX11_isMade_15 jn_n0 (n_if0 (fun q => by have q1 := q.1; have q2 := q.2.1; have q3 := q.2.2.1; omega))

abbrev r_c_X11_isMade_d5 : Room := { frames := 5, cells := 0, slots := 0, locals := 130 }
set_option maxHeartbeats 4000000 in
set_option maxRecDepth 100000 in
theorem c_X11_isMade_d5 (l : Launch) (g : GC) (tl : va_W) (σ : SS) (l2 pd a b c2 : Nat) (hl8 : l2 < 8) (hLn : Ln (σ.2.1 0) l2) (hpd : pd ≤ (σ.2.1 0) (42 + l2)) (ha : a < 10 ∨ (2147483648 ≤ a ∧ a < 4294967296)) (hb2 : b < 10 ∨ (2147483648 ≤ b ∧ b < 4294967296)) (hc : c2 < 10 ∨ (2147483648 ≤ c2 ∧ c2 < 4294967296)) (hd : a < 10 → b < 10 → c2 < 10 → (σ.2.1 0) (42 + l2) - pd + (a + b + c2) ≤ 5) : Met l yX11_isMade wsX11_isMade r_c_X11_isMade_d5 (va_Pc [.ref (g.2.2.2 0), .int (nI l2), .int (nI pd), .int (nI a), .int (nI b), .int (nI c2)] (PP g (wM g σ ++ tl))) (vp_Si (fun r => r = nI (if mdQ (σ.2.1 0) l2 ((σ.2.1 0) (42 + l2) - pd) pd a b c2 then 1 else 0))) 0 0 (fun _ => False) := by
  refine jn_pz (cc := cX11_isMade) (maxL := 7) (own := RX11) (by decide) rfl rfl (Nat.le_of_ble_eq_true rfl) ?_
  intro p e s m below meth c Q hx hb hml hown hts ⟨hP, hK⟩ hq ls hl
  have hl : lv_has ls 7 [(0, .ref (g.2.2.2 0)), (1, .int (nI l2)), (2, .int (nI pd)), (3, .int (nI a)), (4, .int (nI b)), (5, .int (nI c2))] := hl
  have iX11 : ∀ w ∈ wsX110, w ∈ wsX11_isMade := by decide +kernel
  have k13 := hts (.fieldLink RX11 13 "JumpingAutomataModel" "now" "[I") (by decide +kernel)
  have hH3 := hLn.2.1
  refine lv_iload_n hx hb dX11_isMade_0 rfl (lv_at hl 3 rfl) ?_
  refine jn_zlt hx hb (by omega) (tgt := 14) dX11_isMade_1 (by decide) (fun c_1 => ?_) (fun c_1 => ?_)
  · refine lv_iconst (v := nI 0) hx hb dX11_isMade_14 (by decide) ?_
    exact hq _ _ ((nI 0)) dX11_isMade_15 jn_n0 (n_if0 (fun q => by have q1 := q.1; have q2 := q.2.1; have q3 := q.2.2.1; omega))
  · refine lv_iload hx hb dX11_isMade_4 (lv_at hl 4 rfl) ?_
    refine jn_zlt hx hb (by omega) (tgt := 14) dX11_isMade_6 (by decide) (fun c_6 => ?_) (fun c_6 => ?_)
    · refine lv_iconst (v := nI 0) hx hb dX11_isMade_14 (by decide) ?_
      exact hq _ _ ((nI 0)) dX11_isMade_15 jn_n0 (n_if0 (fun q => by have q1 := q.1; have q2 := q.2.1; have q3 := q.2.2.1; omega))
    · refine lv_iload hx hb dX11_isMade_9 (lv_at hl 5 rfl) ?_
      refine jn_zge hx hb (by omega) (tgt := 16) dX11_isMade_11 (by decide) (fun c_11 => ?_) (fun c_11 => ?_)
      · refine lv_iload_n hx hb dX11_isMade_16 rfl (lv_at hl 3 rfl) ?_
        refine lv_iload hx hb dX11_isMade_17 (lv_at hl 4 rfl) ?_
        refine jn_iadd hx hb dX11_isMade_19 ?_
        refine lv_iload hx hb dX11_isMade_20 (lv_at hl 5 rfl) ?_
        refine jn_iadd hx hb dX11_isMade_22 ?_
        refine jn_zne hx hb (by omega) (tgt := 28) dX11_isMade_23 (by decide) (fun c_23 => ?_) (fun c_23 => ?_)
        · refine lv_iload_n hx hb dX11_isMade_28 rfl (lv_at hl 2 rfl) ?_
          refine lv_aload_n hx hb dX11_isMade_29 rfl (lv_at hl 0 rfl) ?_
          refine va_get (D := (g.1, g.2.1)) (ci := 13) (v := .ref (g.2.2.2 1)) (C := RX11) (T := TX11) (N := 30) hx hb hts iX11 hown hK.1 hP 0 (gM0 g σ tl) rfl 1 (by decide) k13 (fun _ h9 => h9) rfl dX11_isMade_30 ?_
          refine lv_bipush (v := nI 42) hx hb dX11_isMade_33 (by decide) ?_
          refine lv_iload_n hx hb dX11_isMade_35 rfl (lv_at hl 1 rfl) ?_
          refine jn_iadd hx hb dX11_isMade_36 ?_
          refine jn_iald (f := σ.2.1 0) hx hb hK.1 hP 1 0 (gM1 g σ tl) rfl (by omega) (Nat.le_of_ble_eq_true rfl) dX11_isMade_37 ?_
          refine jn_cne hx hb (by omega) (by omega) (tgt := 43) dX11_isMade_38 (by decide) (fun c_38 => ?_) (fun c_38 => ?_)
          · have hlt : pd < (σ.2.1 0) (42 + l2) := by omega
            obtain ⟨p1, p2, p3, p4⟩ := hLn.2.2 pd hlt
            have ha9 : a < 10 := by omega
            have hb9 : b < 10 := by omega
            have hc9 : c2 < 10 := by omega
            have hms := md_step (l := l2) hlt ha9 hb9 hc9 p1 p2 p3
            have hmf := md_fuel (l := l2) (d := 4) hlt ha9 hb9 hc9 p1 p2 p3 p4 (hd ha9 hb9 hc9)
            refine lv_bipush (v := nI 50) hx hb dX11_isMade_43 (by decide) ?_
            refine lv_bipush (v := nI 9) hx hb dX11_isMade_45 (by decide) ?_
            refine lv_iload_n hx hb dX11_isMade_47 rfl (lv_at hl 1 rfl) ?_
            refine jn_imul hx hb dX11_isMade_48 ?_
            refine jn_iadd hx hb dX11_isMade_49 ?_
            refine lv_iconst (v := nI 3) hx hb dX11_isMade_50 (by decide) ?_
            refine lv_iload_n hx hb dX11_isMade_51 rfl (lv_at hl 2 rfl) ?_
            refine jn_imul hx hb dX11_isMade_52 ?_
            refine jn_iadd hx hb dX11_isMade_53 ?_
            refine lv_istore (lv' := [(6, .int (nI ((50 + (9 * l2)) + (3 * pd)))), (0, .ref (g.2.2.2 0)), (1, .int (nI l2)), (2, .int (nI pd)), (3, .int (nI a)), (4, .int (nI b)), (5, .int (nI c2))]) hx hb dX11_isMade_54 hl (by decide) rfl (fun ls hl => ?_)
            refine lv_aload_n hx hb dX11_isMade_56 rfl (lv_at hl 1 rfl) ?_
            refine lv_iload_n hx hb dX11_isMade_57 rfl (lv_at hl 2 rfl) ?_
            refine lv_iload_n hx hb dX11_isMade_58 rfl (lv_at hl 3 rfl) ?_
            refine lv_iconst (v := nI 1) hx hb dX11_isMade_59 (by decide) ?_
            refine jn_iadd hx hb dX11_isMade_60 ?_
            refine lv_iload_n hx hb dX11_isMade_61 rfl (lv_at hl 4 rfl) ?_
            refine lv_iload hx hb dX11_isMade_62 (lv_at hl 5 rfl) ?_
            refine lv_iload hx hb dX11_isMade_64 (lv_at hl 6 rfl) ?_
            refine vp_callSi (va_Run.run (va_runV (As := [.int (nI l2), .int (nI (pd + 1)), .int (nI a), .int (nI b), .int (nI c2)]) (rest := []) ⟨hx, hb, hml, hown, hts⟩ (c_X11_isMade_d4 l g tl σ l2 (pd + 1) a b c2 hl8 hLn (by omega) ha hb2 hc (fun h1 h2 h3 => by have := hd h1 h2 h3; omega)) (cwV 5 hts gX11_isMade_X11_isMade rfl rfl rfl (by decide +kernel) ⟨Nat.le_of_ble_eq_true rfl, Nat.le_of_ble_eq_true rfl⟩) (okPV hK hP rfl (gM0 g σ tl)) rfl rfl hl.1 rfl (lv_room (Nat.le_of_ble_eq_true rfl)) dX11_isMade_66 ⟨Nat.le_of_ble_eq_true rfl, Nat.le_of_ble_eq_true rfl⟩)) (fun r_66 h_66 => ?_)
            subst h_66
            refine jn_bne hx hb (tgt := 114) dX11_isMade_69 (by decide) (fun c_69 => ?_) (fun c_69 => ?_)
            · refine lv_iconst (v := nI 1) hx hb dX11_isMade_114 (by decide) ?_
              refine lv_goto (tgt := 119) hx hb dX11_isMade_115 (by decide) ?_
              exact hq _ _ ((nI 1)) dX11_isMade_119 jn_n1 (by first | exact n_if1 (hms.mpr (Or.inl c_69)) | exact n_if1 (hms.mpr (Or.inr c_111)) | exact n_if0 (fun q => (hms.mp q).elim c_69 c_111))
            · refine lv_aload_n hx hb dX11_isMade_72 rfl (lv_at hl 1 rfl) ?_
              refine lv_iload_n hx hb dX11_isMade_73 rfl (lv_at hl 2 rfl) ?_
              refine lv_iload_n hx hb dX11_isMade_74 rfl (lv_at hl 3 rfl) ?_
              refine lv_iload_n hx hb dX11_isMade_75 rfl (lv_at hl 4 rfl) ?_
              refine lv_aload_n hx hb dX11_isMade_76 rfl (lv_at hl 1 rfl) ?_
              refine va_get (D := (g.1, g.2.1)) (ci := 13) (v := .ref (g.2.2.2 1)) (C := RX11) (T := TX11) (N := 30) hx hb hts iX11 hown hK.1 hP 0 (gM0 g σ tl) rfl 1 (by decide) k13 (fun _ h9 => h9) rfl dX11_isMade_77 ?_
              refine lv_iload hx hb dX11_isMade_80 (lv_at hl 0 rfl) ?_
              refine jn_iald (f := σ.2.1 0) hx hb hK.1 hP 1 0 (gM1 g σ tl) rfl (by omega) (Nat.le_of_ble_eq_true rfl) dX11_isMade_82 ?_
              refine jn_isubB hx hb (by omega) dX11_isMade_83 ?_
              refine lv_iload hx hb dX11_isMade_84 (lv_at hl 5 rfl) ?_
              refine lv_aload_n hx hb dX11_isMade_86 rfl (lv_at hl 1 rfl) ?_
              refine va_get (D := (g.1, g.2.1)) (ci := 13) (v := .ref (g.2.2.2 1)) (C := RX11) (T := TX11) (N := 30) hx hb hts iX11 hown hK.1 hP 0 (gM0 g σ tl) rfl 1 (by decide) k13 (fun _ h9 => h9) rfl dX11_isMade_87 ?_
              refine lv_iload hx hb dX11_isMade_90 (lv_at hl 0 rfl) ?_
              refine lv_iconst (v := nI 1) hx hb dX11_isMade_92 (by decide) ?_
              refine jn_iadd hx hb dX11_isMade_93 ?_
              refine jn_iald (f := σ.2.1 0) hx hb hK.1 hP 1 0 (gM1 g σ tl) rfl (by omega) (Nat.le_of_ble_eq_true rfl) dX11_isMade_94 ?_
              refine jn_isubB hx hb (by omega) dX11_isMade_95 ?_
              refine lv_iload hx hb dX11_isMade_96 (lv_at hl 6 rfl) ?_
              refine lv_aload_n hx hb dX11_isMade_98 rfl (lv_at hl 1 rfl) ?_
              refine va_get (D := (g.1, g.2.1)) (ci := 13) (v := .ref (g.2.2.2 1)) (C := RX11) (T := TX11) (N := 30) hx hb hts iX11 hown hK.1 hP 0 (gM0 g σ tl) rfl 1 (by decide) k13 (fun _ h9 => h9) rfl dX11_isMade_99 ?_
              refine lv_iload hx hb dX11_isMade_102 (lv_at hl 0 rfl) ?_
              refine lv_iconst (v := nI 2) hx hb dX11_isMade_104 (by decide) ?_
              refine jn_iadd hx hb dX11_isMade_105 ?_
              refine jn_iald (f := σ.2.1 0) hx hb hK.1 hP 1 0 (gM1 g σ tl) rfl (by omega) (Nat.le_of_ble_eq_true rfl) dX11_isMade_106 ?_
              refine jn_isubB hx hb (by omega) dX11_isMade_107 ?_
              refine vp_callSi (va_Run.run (va_runV (As := [.int (nI l2), .int (nI pd), .int (nI (sb a ((σ.2.1 0) ((50 + (9 * l2)) + (3 * pd))))), .int (nI (sb b ((σ.2.1 0) (((50 + (9 * l2)) + (3 * pd)) + 1)))), .int (nI (sb c2 ((σ.2.1 0) (((50 + (9 * l2)) + (3 * pd)) + 2))))]) (rest := []) ⟨hx, hb, hml, hown, hts⟩ (c_X11_isMade_d4 l g tl σ l2 pd (sb a ((σ.2.1 0) ((50 + (9 * l2)) + (3 * pd)))) (sb b ((σ.2.1 0) (((50 + (9 * l2)) + (3 * pd)) + 1))) (sb c2 ((σ.2.1 0) (((50 + (9 * l2)) + (3 * pd)) + 2))) hl8 hLn hpd (sb_or ha9 p1) (sb_or hb9 p2) (sb_or hc9 p3) hmf) (cwV 5 hts gX11_isMade_X11_isMade rfl rfl rfl (by decide +kernel) ⟨Nat.le_of_ble_eq_true rfl, Nat.le_of_ble_eq_true rfl⟩) (okPV hK hP rfl (gM0 g σ tl)) rfl rfl hl.1 rfl (lv_room (Nat.le_of_ble_eq_true rfl)) dX11_isMade_108 ⟨Nat.le_of_ble_eq_true rfl, Nat.le_of_ble_eq_true rfl⟩)) (fun r_108 h_108 => ?_)
              subst h_108
              refine jn_beq hx hb (tgt := 118) dX11_isMade_111 (by decide) (fun c_111 => ?_) (fun c_111 => ?_)
              · refine lv_iconst (v := nI 0) hx hb dX11_isMade_118 (by decide) ?_
                exact hq _ _ ((nI 0)) dX11_isMade_119 jn_n0 (by first | exact n_if1 (hms.mpr (Or.inl c_69)) | exact n_if1 (hms.mpr (Or.inr c_111)) | exact n_if0 (fun q => (hms.mp q).elim c_69 c_111))
              · refine lv_iconst (v := nI 1) hx hb dX11_isMade_114 (by decide) ?_
                refine lv_goto (tgt := 119) hx hb dX11_isMade_115 (by decide) ?_
                exact hq _ _ ((nI 1)) dX11_isMade_119 jn_n1 (by first | exact n_if1 (hms.mpr (Or.inl c_69)) | exact n_if1 (hms.mpr (Or.inr c_111)) | exact n_if0 (fun q => (hms.mp q).elim c_69 c_111))
          · refine lv_iconst (v := nI 0) hx hb dX11_isMade_41 (by decide) ?_
            exact hq _ _ ((nI 0)) dX11_isMade_42 jn_n0 (n_if0 (fun q => by have q4 := cB_iff.mp q.2.2.2; rw [show (σ.2.1 0) (42 + l2) - pd = 0 by omega] at q4; obtain ⟨q5, q6, q7⟩ := q4; omega))
        · have ea : a = 0 := by omega
          have eb : b = 0 := by omega
          have ec : c2 = 0 := by omega
          refine lv_iconst (v := nI 1) hx hb dX11_isMade_26 (by decide) ?_
          exact hq _ _ ((nI 1)) dX11_isMade_27 jn_n1 (n_if1 ⟨by omega, by omega, by omega, cB_iff.mpr (by rw [ea, eb, ec]; exact md_0 _ _ _ _)⟩)
      · refine lv_iconst (v := nI 0) hx hb dX11_isMade_14 (by decide) ?_
        exact hq _ _ ((nI 0)) dX11_isMade_15 jn_n0 (n_if0 (fun q => by have q1 := q.1; have q2 := q.2.1; have q3 := q.2.2.1; omega))

abbrev r_c_X11_isMade_d6 : Room := { frames := 6, cells := 0, slots := 0, locals := 156 }
set_option maxHeartbeats 4000000 in
set_option maxRecDepth 100000 in
theorem c_X11_isMade_d6 (l : Launch) (g : GC) (tl : va_W) (σ : SS) (l2 pd a b c2 : Nat) (hl8 : l2 < 8) (hLn : Ln (σ.2.1 0) l2) (hpd : pd ≤ (σ.2.1 0) (42 + l2)) (ha : a < 10 ∨ (2147483648 ≤ a ∧ a < 4294967296)) (hb2 : b < 10 ∨ (2147483648 ≤ b ∧ b < 4294967296)) (hc : c2 < 10 ∨ (2147483648 ≤ c2 ∧ c2 < 4294967296)) (hd : a < 10 → b < 10 → c2 < 10 → (σ.2.1 0) (42 + l2) - pd + (a + b + c2) ≤ 6) : Met l yX11_isMade wsX11_isMade r_c_X11_isMade_d6 (va_Pc [.ref (g.2.2.2 0), .int (nI l2), .int (nI pd), .int (nI a), .int (nI b), .int (nI c2)] (PP g (wM g σ ++ tl))) (vp_Si (fun r => r = nI (if mdQ (σ.2.1 0) l2 ((σ.2.1 0) (42 + l2) - pd) pd a b c2 then 1 else 0))) 0 0 (fun _ => False) := by
  refine jn_pz (cc := cX11_isMade) (maxL := 7) (own := RX11) (by decide) rfl rfl (Nat.le_of_ble_eq_true rfl) ?_
  intro p e s m below meth c Q hx hb hml hown hts ⟨hP, hK⟩ hq ls hl
  have hl : lv_has ls 7 [(0, .ref (g.2.2.2 0)), (1, .int (nI l2)), (2, .int (nI pd)), (3, .int (nI a)), (4, .int (nI b)), (5, .int (nI c2))] := hl
  have iX11 : ∀ w ∈ wsX110, w ∈ wsX11_isMade := by decide +kernel
  have k13 := hts (.fieldLink RX11 13 "JumpingAutomataModel" "now" "[I") (by decide +kernel)
  have hH3 := hLn.2.1
  refine lv_iload_n hx hb dX11_isMade_0 rfl (lv_at hl 3 rfl) ?_
  refine jn_zlt hx hb (by omega) (tgt := 14) dX11_isMade_1 (by decide) (fun c_1 => ?_) (fun c_1 => ?_)
  · refine lv_iconst (v := nI 0) hx hb dX11_isMade_14 (by decide) ?_
    exact hq _ _ ((nI 0)) dX11_isMade_15 jn_n0 (n_if0 (fun q => by have q1 := q.1; have q2 := q.2.1; have q3 := q.2.2.1; omega))
  · refine lv_iload hx hb dX11_isMade_4 (lv_at hl 4 rfl) ?_
    refine jn_zlt hx hb (by omega) (tgt := 14) dX11_isMade_6 (by decide) (fun c_6 => ?_) (fun c_6 => ?_)
    · refine lv_iconst (v := nI 0) hx hb dX11_isMade_14 (by decide) ?_
      exact hq _ _ ((nI 0)) dX11_isMade_15 jn_n0 (n_if0 (fun q => by have q1 := q.1; have q2 := q.2.1; have q3 := q.2.2.1; omega))
    · refine lv_iload hx hb dX11_isMade_9 (lv_at hl 5 rfl) ?_
      refine jn_zge hx hb (by omega) (tgt := 16) dX11_isMade_11 (by decide) (fun c_11 => ?_) (fun c_11 => ?_)
      · refine lv_iload_n hx hb dX11_isMade_16 rfl (lv_at hl 3 rfl) ?_
        refine lv_iload hx hb dX11_isMade_17 (lv_at hl 4 rfl) ?_
        refine jn_iadd hx hb dX11_isMade_19 ?_
        refine lv_iload hx hb dX11_isMade_20 (lv_at hl 5 rfl) ?_
        refine jn_iadd hx hb dX11_isMade_22 ?_
        refine jn_zne hx hb (by omega) (tgt := 28) dX11_isMade_23 (by decide) (fun c_23 => ?_) (fun c_23 => ?_)
        · refine lv_iload_n hx hb dX11_isMade_28 rfl (lv_at hl 2 rfl) ?_
          refine lv_aload_n hx hb dX11_isMade_29 rfl (lv_at hl 0 rfl) ?_
          refine va_get (D := (g.1, g.2.1)) (ci := 13) (v := .ref (g.2.2.2 1)) (C := RX11) (T := TX11) (N := 30) hx hb hts iX11 hown hK.1 hP 0 (gM0 g σ tl) rfl 1 (by decide) k13 (fun _ h9 => h9) rfl dX11_isMade_30 ?_
          refine lv_bipush (v := nI 42) hx hb dX11_isMade_33 (by decide) ?_
          refine lv_iload_n hx hb dX11_isMade_35 rfl (lv_at hl 1 rfl) ?_
          refine jn_iadd hx hb dX11_isMade_36 ?_
          refine jn_iald (f := σ.2.1 0) hx hb hK.1 hP 1 0 (gM1 g σ tl) rfl (by omega) (Nat.le_of_ble_eq_true rfl) dX11_isMade_37 ?_
          refine jn_cne hx hb (by omega) (by omega) (tgt := 43) dX11_isMade_38 (by decide) (fun c_38 => ?_) (fun c_38 => ?_)
          · have hlt : pd < (σ.2.1 0) (42 + l2) := by omega
            obtain ⟨p1, p2, p3, p4⟩ := hLn.2.2 pd hlt
            have ha9 : a < 10 := by omega
            have hb9 : b < 10 := by omega
            have hc9 : c2 < 10 := by omega
            have hms := md_step (l := l2) hlt ha9 hb9 hc9 p1 p2 p3
            have hmf := md_fuel (l := l2) (d := 5) hlt ha9 hb9 hc9 p1 p2 p3 p4 (hd ha9 hb9 hc9)
            refine lv_bipush (v := nI 50) hx hb dX11_isMade_43 (by decide) ?_
            refine lv_bipush (v := nI 9) hx hb dX11_isMade_45 (by decide) ?_
            refine lv_iload_n hx hb dX11_isMade_47 rfl (lv_at hl 1 rfl) ?_
            refine jn_imul hx hb dX11_isMade_48 ?_
            refine jn_iadd hx hb dX11_isMade_49 ?_
            refine lv_iconst (v := nI 3) hx hb dX11_isMade_50 (by decide) ?_
            refine lv_iload_n hx hb dX11_isMade_51 rfl (lv_at hl 2 rfl) ?_
            refine jn_imul hx hb dX11_isMade_52 ?_
            refine jn_iadd hx hb dX11_isMade_53 ?_
            refine lv_istore (lv' := [(6, .int (nI ((50 + (9 * l2)) + (3 * pd)))), (0, .ref (g.2.2.2 0)), (1, .int (nI l2)), (2, .int (nI pd)), (3, .int (nI a)), (4, .int (nI b)), (5, .int (nI c2))]) hx hb dX11_isMade_54 hl (by decide) rfl (fun ls hl => ?_)
            refine lv_aload_n hx hb dX11_isMade_56 rfl (lv_at hl 1 rfl) ?_
            refine lv_iload_n hx hb dX11_isMade_57 rfl (lv_at hl 2 rfl) ?_
            refine lv_iload_n hx hb dX11_isMade_58 rfl (lv_at hl 3 rfl) ?_
            refine lv_iconst (v := nI 1) hx hb dX11_isMade_59 (by decide) ?_
            refine jn_iadd hx hb dX11_isMade_60 ?_
            refine lv_iload_n hx hb dX11_isMade_61 rfl (lv_at hl 4 rfl) ?_
            refine lv_iload hx hb dX11_isMade_62 (lv_at hl 5 rfl) ?_
            refine lv_iload hx hb dX11_isMade_64 (lv_at hl 6 rfl) ?_
            refine vp_callSi (va_Run.run (va_runV (As := [.int (nI l2), .int (nI (pd + 1)), .int (nI a), .int (nI b), .int (nI c2)]) (rest := []) ⟨hx, hb, hml, hown, hts⟩ (c_X11_isMade_d5 l g tl σ l2 (pd + 1) a b c2 hl8 hLn (by omega) ha hb2 hc (fun h1 h2 h3 => by have := hd h1 h2 h3; omega)) (cwV 5 hts gX11_isMade_X11_isMade rfl rfl rfl (by decide +kernel) ⟨Nat.le_of_ble_eq_true rfl, Nat.le_of_ble_eq_true rfl⟩) (okPV hK hP rfl (gM0 g σ tl)) rfl rfl hl.1 rfl (lv_room (Nat.le_of_ble_eq_true rfl)) dX11_isMade_66 ⟨Nat.le_of_ble_eq_true rfl, Nat.le_of_ble_eq_true rfl⟩)) (fun r_66 h_66 => ?_)
            subst h_66
            refine jn_bne hx hb (tgt := 114) dX11_isMade_69 (by decide) (fun c_69 => ?_) (fun c_69 => ?_)
            · refine lv_iconst (v := nI 1) hx hb dX11_isMade_114 (by decide) ?_
              refine lv_goto (tgt := 119) hx hb dX11_isMade_115 (by decide) ?_
              exact hq _ _ ((nI 1)) dX11_isMade_119 jn_n1 (by first | exact n_if1 (hms.mpr (Or.inl c_69)) | exact n_if1 (hms.mpr (Or.inr c_111)) | exact n_if0 (fun q => (hms.mp q).elim c_69 c_111))
            · refine lv_aload_n hx hb dX11_isMade_72 rfl (lv_at hl 1 rfl) ?_
              refine lv_iload_n hx hb dX11_isMade_73 rfl (lv_at hl 2 rfl) ?_
              refine lv_iload_n hx hb dX11_isMade_74 rfl (lv_at hl 3 rfl) ?_
              refine lv_iload_n hx hb dX11_isMade_75 rfl (lv_at hl 4 rfl) ?_
              refine lv_aload_n hx hb dX11_isMade_76 rfl (lv_at hl 1 rfl) ?_
              refine va_get (D := (g.1, g.2.1)) (ci := 13) (v := .ref (g.2.2.2 1)) (C := RX11) (T := TX11) (N := 30) hx hb hts iX11 hown hK.1 hP 0 (gM0 g σ tl) rfl 1 (by decide) k13 (fun _ h9 => h9) rfl dX11_isMade_77 ?_
              refine lv_iload hx hb dX11_isMade_80 (lv_at hl 0 rfl) ?_
              refine jn_iald (f := σ.2.1 0) hx hb hK.1 hP 1 0 (gM1 g σ tl) rfl (by omega) (Nat.le_of_ble_eq_true rfl) dX11_isMade_82 ?_
              refine jn_isubB hx hb (by omega) dX11_isMade_83 ?_
              refine lv_iload hx hb dX11_isMade_84 (lv_at hl 5 rfl) ?_
              refine lv_aload_n hx hb dX11_isMade_86 rfl (lv_at hl 1 rfl) ?_
              refine va_get (D := (g.1, g.2.1)) (ci := 13) (v := .ref (g.2.2.2 1)) (C := RX11) (T := TX11) (N := 30) hx hb hts iX11 hown hK.1 hP 0 (gM0 g σ tl) rfl 1 (by decide) k13 (fun _ h9 => h9) rfl dX11_isMade_87 ?_
              refine lv_iload hx hb dX11_isMade_90 (lv_at hl 0 rfl) ?_
              refine lv_iconst (v := nI 1) hx hb dX11_isMade_92 (by decide) ?_
              refine jn_iadd hx hb dX11_isMade_93 ?_
              refine jn_iald (f := σ.2.1 0) hx hb hK.1 hP 1 0 (gM1 g σ tl) rfl (by omega) (Nat.le_of_ble_eq_true rfl) dX11_isMade_94 ?_
              refine jn_isubB hx hb (by omega) dX11_isMade_95 ?_
              refine lv_iload hx hb dX11_isMade_96 (lv_at hl 6 rfl) ?_
              refine lv_aload_n hx hb dX11_isMade_98 rfl (lv_at hl 1 rfl) ?_
              refine va_get (D := (g.1, g.2.1)) (ci := 13) (v := .ref (g.2.2.2 1)) (C := RX11) (T := TX11) (N := 30) hx hb hts iX11 hown hK.1 hP 0 (gM0 g σ tl) rfl 1 (by decide) k13 (fun _ h9 => h9) rfl dX11_isMade_99 ?_
              refine lv_iload hx hb dX11_isMade_102 (lv_at hl 0 rfl) ?_
              refine lv_iconst (v := nI 2) hx hb dX11_isMade_104 (by decide) ?_
              refine jn_iadd hx hb dX11_isMade_105 ?_
              refine jn_iald (f := σ.2.1 0) hx hb hK.1 hP 1 0 (gM1 g σ tl) rfl (by omega) (Nat.le_of_ble_eq_true rfl) dX11_isMade_106 ?_
              refine jn_isubB hx hb (by omega) dX11_isMade_107 ?_
              refine vp_callSi (va_Run.run (va_runV (As := [.int (nI l2), .int (nI pd), .int (nI (sb a ((σ.2.1 0) ((50 + (9 * l2)) + (3 * pd))))), .int (nI (sb b ((σ.2.1 0) (((50 + (9 * l2)) + (3 * pd)) + 1)))), .int (nI (sb c2 ((σ.2.1 0) (((50 + (9 * l2)) + (3 * pd)) + 2))))]) (rest := []) ⟨hx, hb, hml, hown, hts⟩ (c_X11_isMade_d5 l g tl σ l2 pd (sb a ((σ.2.1 0) ((50 + (9 * l2)) + (3 * pd)))) (sb b ((σ.2.1 0) (((50 + (9 * l2)) + (3 * pd)) + 1))) (sb c2 ((σ.2.1 0) (((50 + (9 * l2)) + (3 * pd)) + 2))) hl8 hLn hpd (sb_or ha9 p1) (sb_or hb9 p2) (sb_or hc9 p3) hmf) (cwV 5 hts gX11_isMade_X11_isMade rfl rfl rfl (by decide +kernel) ⟨Nat.le_of_ble_eq_true rfl, Nat.le_of_ble_eq_true rfl⟩) (okPV hK hP rfl (gM0 g σ tl)) rfl rfl hl.1 rfl (lv_room (Nat.le_of_ble_eq_true rfl)) dX11_isMade_108 ⟨Nat.le_of_ble_eq_true rfl, Nat.le_of_ble_eq_true rfl⟩)) (fun r_108 h_108 => ?_)
              subst h_108
              refine jn_beq hx hb (tgt := 118) dX11_isMade_111 (by decide) (fun c_111 => ?_) (fun c_111 => ?_)
              · refine lv_iconst (v := nI 0) hx hb dX11_isMade_118 (by decide) ?_
                exact hq _ _ ((nI 0)) dX11_isMade_119 jn_n0 (by first | exact n_if1 (hms.mpr (Or.inl c_69)) | exact n_if1 (hms.mpr (Or.inr c_111)) | exact n_if0 (fun q => (hms.mp q).elim c_69 c_111))
              · refine lv_iconst (v := nI 1) hx hb dX11_isMade_114 (by decide) ?_
                refine lv_goto (tgt := 119) hx hb dX11_isMade_115 (by decide) ?_
                exact hq _ _ ((nI 1)) dX11_isMade_119 jn_n1 (by first | exact n_if1 (hms.mpr (Or.inl c_69)) | exact n_if1 (hms.mpr (Or.inr c_111)) | exact n_if0 (fun q => (hms.mp q).elim c_69 c_111))
          · refine lv_iconst (v := nI 0) hx hb dX11_isMade_41 (by decide) ?_
            exact hq _ _ ((nI 0)) dX11_isMade_42 jn_n0 (n_if0 (fun q => by have q4 := cB_iff.mp q.2.2.2; rw [show (σ.2.1 0) (42 + l2) - pd = 0 by omega] at q4; obtain ⟨q5, q6, q7⟩ := q4; omega))
        · have ea : a = 0 := by omega
          have eb : b = 0 := by omega
          have ec : c2 = 0 := by omega
          refine lv_iconst (v := nI 1) hx hb dX11_isMade_26 (by decide) ?_
          exact hq _ _ ((nI 1)) dX11_isMade_27 jn_n1 (n_if1 ⟨by omega, by omega, by omega, cB_iff.mpr (by rw [ea, eb, ec]; exact md_0 _ _ _ _)⟩)
      · refine lv_iconst (v := nI 0) hx hb dX11_isMade_14 (by decide) ?_
        exact hq _ _ ((nI 0)) dX11_isMade_15 jn_n0 (n_if0 (fun q => by have q1 := q.1; have q2 := q.2.1; have q3 := q.2.2.1; omega))

abbrev r_c_X11_isMade_d7 : Room := { frames := 7, cells := 0, slots := 0, locals := 182 }
set_option maxHeartbeats 4000000 in
set_option maxRecDepth 100000 in
theorem c_X11_isMade_d7 (l : Launch) (g : GC) (tl : va_W) (σ : SS) (l2 pd a b c2 : Nat) (hl8 : l2 < 8) (hLn : Ln (σ.2.1 0) l2) (hpd : pd ≤ (σ.2.1 0) (42 + l2)) (ha : a < 10 ∨ (2147483648 ≤ a ∧ a < 4294967296)) (hb2 : b < 10 ∨ (2147483648 ≤ b ∧ b < 4294967296)) (hc : c2 < 10 ∨ (2147483648 ≤ c2 ∧ c2 < 4294967296)) (hd : a < 10 → b < 10 → c2 < 10 → (σ.2.1 0) (42 + l2) - pd + (a + b + c2) ≤ 7) : Met l yX11_isMade wsX11_isMade r_c_X11_isMade_d7 (va_Pc [.ref (g.2.2.2 0), .int (nI l2), .int (nI pd), .int (nI a), .int (nI b), .int (nI c2)] (PP g (wM g σ ++ tl))) (vp_Si (fun r => r = nI (if mdQ (σ.2.1 0) l2 ((σ.2.1 0) (42 + l2) - pd) pd a b c2 then 1 else 0))) 0 0 (fun _ => False) := by
  refine jn_pz (cc := cX11_isMade) (maxL := 7) (own := RX11) (by decide) rfl rfl (Nat.le_of_ble_eq_true rfl) ?_
  intro p e s m below meth c Q hx hb hml hown hts ⟨hP, hK⟩ hq ls hl
  have hl : lv_has ls 7 [(0, .ref (g.2.2.2 0)), (1, .int (nI l2)), (2, .int (nI pd)), (3, .int (nI a)), (4, .int (nI b)), (5, .int (nI c2))] := hl
  have iX11 : ∀ w ∈ wsX110, w ∈ wsX11_isMade := by decide +kernel
  have k13 := hts (.fieldLink RX11 13 "JumpingAutomataModel" "now" "[I") (by decide +kernel)
  have hH3 := hLn.2.1
  refine lv_iload_n hx hb dX11_isMade_0 rfl (lv_at hl 3 rfl) ?_
  refine jn_zlt hx hb (by omega) (tgt := 14) dX11_isMade_1 (by decide) (fun c_1 => ?_) (fun c_1 => ?_)
  · refine lv_iconst (v := nI 0) hx hb dX11_isMade_14 (by decide) ?_
    exact hq _ _ ((nI 0)) dX11_isMade_15 jn_n0 (n_if0 (fun q => by have q1 := q.1; have q2 := q.2.1; have q3 := q.2.2.1; omega))
  · refine lv_iload hx hb dX11_isMade_4 (lv_at hl 4 rfl) ?_
    refine jn_zlt hx hb (by omega) (tgt := 14) dX11_isMade_6 (by decide) (fun c_6 => ?_) (fun c_6 => ?_)
    · refine lv_iconst (v := nI 0) hx hb dX11_isMade_14 (by decide) ?_
      exact hq _ _ ((nI 0)) dX11_isMade_15 jn_n0 (n_if0 (fun q => by have q1 := q.1; have q2 := q.2.1; have q3 := q.2.2.1; omega))
    · refine lv_iload hx hb dX11_isMade_9 (lv_at hl 5 rfl) ?_
      refine jn_zge hx hb (by omega) (tgt := 16) dX11_isMade_11 (by decide) (fun c_11 => ?_) (fun c_11 => ?_)
      · refine lv_iload_n hx hb dX11_isMade_16 rfl (lv_at hl 3 rfl) ?_
        refine lv_iload hx hb dX11_isMade_17 (lv_at hl 4 rfl) ?_
        refine jn_iadd hx hb dX11_isMade_19 ?_
        refine lv_iload hx hb dX11_isMade_20 (lv_at hl 5 rfl) ?_
        refine jn_iadd hx hb dX11_isMade_22 ?_
        refine jn_zne hx hb (by omega) (tgt := 28) dX11_isMade_23 (by decide) (fun c_23 => ?_) (fun c_23 => ?_)
        · refine lv_iload_n hx hb dX11_isMade_28 rfl (lv_at hl 2 rfl) ?_
          refine lv_aload_n hx hb dX11_isMade_29 rfl (lv_at hl 0 rfl) ?_
          refine va_get (D := (g.1, g.2.1)) (ci := 13) (v := .ref (g.2.2.2 1)) (C := RX11) (T := TX11) (N := 30) hx hb hts iX11 hown hK.1 hP 0 (gM0 g σ tl) rfl 1 (by decide) k13 (fun _ h9 => h9) rfl dX11_isMade_30 ?_
          refine lv_bipush (v := nI 42) hx hb dX11_isMade_33 (by decide) ?_
          refine lv_iload_n hx hb dX11_isMade_35 rfl (lv_at hl 1 rfl) ?_
          refine jn_iadd hx hb dX11_isMade_36 ?_
          refine jn_iald (f := σ.2.1 0) hx hb hK.1 hP 1 0 (gM1 g σ tl) rfl (by omega) (Nat.le_of_ble_eq_true rfl) dX11_isMade_37 ?_
          refine jn_cne hx hb (by omega) (by omega) (tgt := 43) dX11_isMade_38 (by decide) (fun c_38 => ?_) (fun c_38 => ?_)
          · have hlt : pd < (σ.2.1 0) (42 + l2) := by omega
            obtain ⟨p1, p2, p3, p4⟩ := hLn.2.2 pd hlt
            have ha9 : a < 10 := by omega
            have hb9 : b < 10 := by omega
            have hc9 : c2 < 10 := by omega
            have hms := md_step (l := l2) hlt ha9 hb9 hc9 p1 p2 p3
            have hmf := md_fuel (l := l2) (d := 6) hlt ha9 hb9 hc9 p1 p2 p3 p4 (hd ha9 hb9 hc9)
            refine lv_bipush (v := nI 50) hx hb dX11_isMade_43 (by decide) ?_
            refine lv_bipush (v := nI 9) hx hb dX11_isMade_45 (by decide) ?_
            refine lv_iload_n hx hb dX11_isMade_47 rfl (lv_at hl 1 rfl) ?_
            refine jn_imul hx hb dX11_isMade_48 ?_
            refine jn_iadd hx hb dX11_isMade_49 ?_
            refine lv_iconst (v := nI 3) hx hb dX11_isMade_50 (by decide) ?_
            refine lv_iload_n hx hb dX11_isMade_51 rfl (lv_at hl 2 rfl) ?_
            refine jn_imul hx hb dX11_isMade_52 ?_
            refine jn_iadd hx hb dX11_isMade_53 ?_
            refine lv_istore (lv' := [(6, .int (nI ((50 + (9 * l2)) + (3 * pd)))), (0, .ref (g.2.2.2 0)), (1, .int (nI l2)), (2, .int (nI pd)), (3, .int (nI a)), (4, .int (nI b)), (5, .int (nI c2))]) hx hb dX11_isMade_54 hl (by decide) rfl (fun ls hl => ?_)
            refine lv_aload_n hx hb dX11_isMade_56 rfl (lv_at hl 1 rfl) ?_
            refine lv_iload_n hx hb dX11_isMade_57 rfl (lv_at hl 2 rfl) ?_
            refine lv_iload_n hx hb dX11_isMade_58 rfl (lv_at hl 3 rfl) ?_
            refine lv_iconst (v := nI 1) hx hb dX11_isMade_59 (by decide) ?_
            refine jn_iadd hx hb dX11_isMade_60 ?_
            refine lv_iload_n hx hb dX11_isMade_61 rfl (lv_at hl 4 rfl) ?_
            refine lv_iload hx hb dX11_isMade_62 (lv_at hl 5 rfl) ?_
            refine lv_iload hx hb dX11_isMade_64 (lv_at hl 6 rfl) ?_
            refine vp_callSi (va_Run.run (va_runV (As := [.int (nI l2), .int (nI (pd + 1)), .int (nI a), .int (nI b), .int (nI c2)]) (rest := []) ⟨hx, hb, hml, hown, hts⟩ (c_X11_isMade_d6 l g tl σ l2 (pd + 1) a b c2 hl8 hLn (by omega) ha hb2 hc (fun h1 h2 h3 => by have := hd h1 h2 h3; omega)) (cwV 5 hts gX11_isMade_X11_isMade rfl rfl rfl (by decide +kernel) ⟨Nat.le_of_ble_eq_true rfl, Nat.le_of_ble_eq_true rfl⟩) (okPV hK hP rfl (gM0 g σ tl)) rfl rfl hl.1 rfl (lv_room (Nat.le_of_ble_eq_true rfl)) dX11_isMade_66 ⟨Nat.le_of_ble_eq_true rfl, Nat.le_of_ble_eq_true rfl⟩)) (fun r_66 h_66 => ?_)
            subst h_66
            refine jn_bne hx hb (tgt := 114) dX11_isMade_69 (by decide) (fun c_69 => ?_) (fun c_69 => ?_)
            · refine lv_iconst (v := nI 1) hx hb dX11_isMade_114 (by decide) ?_
              refine lv_goto (tgt := 119) hx hb dX11_isMade_115 (by decide) ?_
              exact hq _ _ ((nI 1)) dX11_isMade_119 jn_n1 (by first | exact n_if1 (hms.mpr (Or.inl c_69)) | exact n_if1 (hms.mpr (Or.inr c_111)) | exact n_if0 (fun q => (hms.mp q).elim c_69 c_111))
            · refine lv_aload_n hx hb dX11_isMade_72 rfl (lv_at hl 1 rfl) ?_
              refine lv_iload_n hx hb dX11_isMade_73 rfl (lv_at hl 2 rfl) ?_
              refine lv_iload_n hx hb dX11_isMade_74 rfl (lv_at hl 3 rfl) ?_
              refine lv_iload_n hx hb dX11_isMade_75 rfl (lv_at hl 4 rfl) ?_
              refine lv_aload_n hx hb dX11_isMade_76 rfl (lv_at hl 1 rfl) ?_
              refine va_get (D := (g.1, g.2.1)) (ci := 13) (v := .ref (g.2.2.2 1)) (C := RX11) (T := TX11) (N := 30) hx hb hts iX11 hown hK.1 hP 0 (gM0 g σ tl) rfl 1 (by decide) k13 (fun _ h9 => h9) rfl dX11_isMade_77 ?_
              refine lv_iload hx hb dX11_isMade_80 (lv_at hl 0 rfl) ?_
              refine jn_iald (f := σ.2.1 0) hx hb hK.1 hP 1 0 (gM1 g σ tl) rfl (by omega) (Nat.le_of_ble_eq_true rfl) dX11_isMade_82 ?_
              refine jn_isubB hx hb (by omega) dX11_isMade_83 ?_
              refine lv_iload hx hb dX11_isMade_84 (lv_at hl 5 rfl) ?_
              refine lv_aload_n hx hb dX11_isMade_86 rfl (lv_at hl 1 rfl) ?_
              refine va_get (D := (g.1, g.2.1)) (ci := 13) (v := .ref (g.2.2.2 1)) (C := RX11) (T := TX11) (N := 30) hx hb hts iX11 hown hK.1 hP 0 (gM0 g σ tl) rfl 1 (by decide) k13 (fun _ h9 => h9) rfl dX11_isMade_87 ?_
              refine lv_iload hx hb dX11_isMade_90 (lv_at hl 0 rfl) ?_
              refine lv_iconst (v := nI 1) hx hb dX11_isMade_92 (by decide) ?_
              refine jn_iadd hx hb dX11_isMade_93 ?_
              refine jn_iald (f := σ.2.1 0) hx hb hK.1 hP 1 0 (gM1 g σ tl) rfl (by omega) (Nat.le_of_ble_eq_true rfl) dX11_isMade_94 ?_
              refine jn_isubB hx hb (by omega) dX11_isMade_95 ?_
              refine lv_iload hx hb dX11_isMade_96 (lv_at hl 6 rfl) ?_
              refine lv_aload_n hx hb dX11_isMade_98 rfl (lv_at hl 1 rfl) ?_
              refine va_get (D := (g.1, g.2.1)) (ci := 13) (v := .ref (g.2.2.2 1)) (C := RX11) (T := TX11) (N := 30) hx hb hts iX11 hown hK.1 hP 0 (gM0 g σ tl) rfl 1 (by decide) k13 (fun _ h9 => h9) rfl dX11_isMade_99 ?_
              refine lv_iload hx hb dX11_isMade_102 (lv_at hl 0 rfl) ?_
              refine lv_iconst (v := nI 2) hx hb dX11_isMade_104 (by decide) ?_
              refine jn_iadd hx hb dX11_isMade_105 ?_
              refine jn_iald (f := σ.2.1 0) hx hb hK.1 hP 1 0 (gM1 g σ tl) rfl (by omega) (Nat.le_of_ble_eq_true rfl) dX11_isMade_106 ?_
              refine jn_isubB hx hb (by omega) dX11_isMade_107 ?_
              refine vp_callSi (va_Run.run (va_runV (As := [.int (nI l2), .int (nI pd), .int (nI (sb a ((σ.2.1 0) ((50 + (9 * l2)) + (3 * pd))))), .int (nI (sb b ((σ.2.1 0) (((50 + (9 * l2)) + (3 * pd)) + 1)))), .int (nI (sb c2 ((σ.2.1 0) (((50 + (9 * l2)) + (3 * pd)) + 2))))]) (rest := []) ⟨hx, hb, hml, hown, hts⟩ (c_X11_isMade_d6 l g tl σ l2 pd (sb a ((σ.2.1 0) ((50 + (9 * l2)) + (3 * pd)))) (sb b ((σ.2.1 0) (((50 + (9 * l2)) + (3 * pd)) + 1))) (sb c2 ((σ.2.1 0) (((50 + (9 * l2)) + (3 * pd)) + 2))) hl8 hLn hpd (sb_or ha9 p1) (sb_or hb9 p2) (sb_or hc9 p3) hmf) (cwV 5 hts gX11_isMade_X11_isMade rfl rfl rfl (by decide +kernel) ⟨Nat.le_of_ble_eq_true rfl, Nat.le_of_ble_eq_true rfl⟩) (okPV hK hP rfl (gM0 g σ tl)) rfl rfl hl.1 rfl (lv_room (Nat.le_of_ble_eq_true rfl)) dX11_isMade_108 ⟨Nat.le_of_ble_eq_true rfl, Nat.le_of_ble_eq_true rfl⟩)) (fun r_108 h_108 => ?_)
              subst h_108
              refine jn_beq hx hb (tgt := 118) dX11_isMade_111 (by decide) (fun c_111 => ?_) (fun c_111 => ?_)
              · refine lv_iconst (v := nI 0) hx hb dX11_isMade_118 (by decide) ?_
                exact hq _ _ ((nI 0)) dX11_isMade_119 jn_n0 (by first | exact n_if1 (hms.mpr (Or.inl c_69)) | exact n_if1 (hms.mpr (Or.inr c_111)) | exact n_if0 (fun q => (hms.mp q).elim c_69 c_111))
              · refine lv_iconst (v := nI 1) hx hb dX11_isMade_114 (by decide) ?_
                refine lv_goto (tgt := 119) hx hb dX11_isMade_115 (by decide) ?_
                exact hq _ _ ((nI 1)) dX11_isMade_119 jn_n1 (by first | exact n_if1 (hms.mpr (Or.inl c_69)) | exact n_if1 (hms.mpr (Or.inr c_111)) | exact n_if0 (fun q => (hms.mp q).elim c_69 c_111))
          · refine lv_iconst (v := nI 0) hx hb dX11_isMade_41 (by decide) ?_
            exact hq _ _ ((nI 0)) dX11_isMade_42 jn_n0 (n_if0 (fun q => by have q4 := cB_iff.mp q.2.2.2; rw [show (σ.2.1 0) (42 + l2) - pd = 0 by omega] at q4; obtain ⟨q5, q6, q7⟩ := q4; omega))
        · have ea : a = 0 := by omega
          have eb : b = 0 := by omega
          have ec : c2 = 0 := by omega
          refine lv_iconst (v := nI 1) hx hb dX11_isMade_26 (by decide) ?_
          exact hq _ _ ((nI 1)) dX11_isMade_27 jn_n1 (n_if1 ⟨by omega, by omega, by omega, cB_iff.mpr (by rw [ea, eb, ec]; exact md_0 _ _ _ _)⟩)
      · refine lv_iconst (v := nI 0) hx hb dX11_isMade_14 (by decide) ?_
        exact hq _ _ ((nI 0)) dX11_isMade_15 jn_n0 (n_if0 (fun q => by have q1 := q.1; have q2 := q.2.1; have q3 := q.2.2.1; omega))

abbrev r_c_X11_isMade_d8 : Room := { frames := 8, cells := 0, slots := 0, locals := 208 }
set_option maxHeartbeats 4000000 in
set_option maxRecDepth 100000 in
theorem c_X11_isMade_d8 (l : Launch) (g : GC) (tl : va_W) (σ : SS) (l2 pd a b c2 : Nat) (hl8 : l2 < 8) (hLn : Ln (σ.2.1 0) l2) (hpd : pd ≤ (σ.2.1 0) (42 + l2)) (ha : a < 10 ∨ (2147483648 ≤ a ∧ a < 4294967296)) (hb2 : b < 10 ∨ (2147483648 ≤ b ∧ b < 4294967296)) (hc : c2 < 10 ∨ (2147483648 ≤ c2 ∧ c2 < 4294967296)) (hd : a < 10 → b < 10 → c2 < 10 → (σ.2.1 0) (42 + l2) - pd + (a + b + c2) ≤ 8) : Met l yX11_isMade wsX11_isMade r_c_X11_isMade_d8 (va_Pc [.ref (g.2.2.2 0), .int (nI l2), .int (nI pd), .int (nI a), .int (nI b), .int (nI c2)] (PP g (wM g σ ++ tl))) (vp_Si (fun r => r = nI (if mdQ (σ.2.1 0) l2 ((σ.2.1 0) (42 + l2) - pd) pd a b c2 then 1 else 0))) 0 0 (fun _ => False) := by
  refine jn_pz (cc := cX11_isMade) (maxL := 7) (own := RX11) (by decide) rfl rfl (Nat.le_of_ble_eq_true rfl) ?_
  intro p e s m below meth c Q hx hb hml hown hts ⟨hP, hK⟩ hq ls hl
  have hl : lv_has ls 7 [(0, .ref (g.2.2.2 0)), (1, .int (nI l2)), (2, .int (nI pd)), (3, .int (nI a)), (4, .int (nI b)), (5, .int (nI c2))] := hl
  have iX11 : ∀ w ∈ wsX110, w ∈ wsX11_isMade := by decide +kernel
  have k13 := hts (.fieldLink RX11 13 "JumpingAutomataModel" "now" "[I") (by decide +kernel)
  have hH3 := hLn.2.1
  refine lv_iload_n hx hb dX11_isMade_0 rfl (lv_at hl 3 rfl) ?_
  refine jn_zlt hx hb (by omega) (tgt := 14) dX11_isMade_1 (by decide) (fun c_1 => ?_) (fun c_1 => ?_)
  · refine lv_iconst (v := nI 0) hx hb dX11_isMade_14 (by decide) ?_
    exact hq _ _ ((nI 0)) dX11_isMade_15 jn_n0 (n_if0 (fun q => by have q1 := q.1; have q2 := q.2.1; have q3 := q.2.2.1; omega))
  · refine lv_iload hx hb dX11_isMade_4 (lv_at hl 4 rfl) ?_
    refine jn_zlt hx hb (by omega) (tgt := 14) dX11_isMade_6 (by decide) (fun c_6 => ?_) (fun c_6 => ?_)
    · refine lv_iconst (v := nI 0) hx hb dX11_isMade_14 (by decide) ?_
      exact hq _ _ ((nI 0)) dX11_isMade_15 jn_n0 (n_if0 (fun q => by have q1 := q.1; have q2 := q.2.1; have q3 := q.2.2.1; omega))
    · refine lv_iload hx hb dX11_isMade_9 (lv_at hl 5 rfl) ?_
      refine jn_zge hx hb (by omega) (tgt := 16) dX11_isMade_11 (by decide) (fun c_11 => ?_) (fun c_11 => ?_)
      · refine lv_iload_n hx hb dX11_isMade_16 rfl (lv_at hl 3 rfl) ?_
        refine lv_iload hx hb dX11_isMade_17 (lv_at hl 4 rfl) ?_
        refine jn_iadd hx hb dX11_isMade_19 ?_
        refine lv_iload hx hb dX11_isMade_20 (lv_at hl 5 rfl) ?_
        refine jn_iadd hx hb dX11_isMade_22 ?_
        refine jn_zne hx hb (by omega) (tgt := 28) dX11_isMade_23 (by decide) (fun c_23 => ?_) (fun c_23 => ?_)
        · refine lv_iload_n hx hb dX11_isMade_28 rfl (lv_at hl 2 rfl) ?_
          refine lv_aload_n hx hb dX11_isMade_29 rfl (lv_at hl 0 rfl) ?_
          refine va_get (D := (g.1, g.2.1)) (ci := 13) (v := .ref (g.2.2.2 1)) (C := RX11) (T := TX11) (N := 30) hx hb hts iX11 hown hK.1 hP 0 (gM0 g σ tl) rfl 1 (by decide) k13 (fun _ h9 => h9) rfl dX11_isMade_30 ?_
          refine lv_bipush (v := nI 42) hx hb dX11_isMade_33 (by decide) ?_
          refine lv_iload_n hx hb dX11_isMade_35 rfl (lv_at hl 1 rfl) ?_
          refine jn_iadd hx hb dX11_isMade_36 ?_
          refine jn_iald (f := σ.2.1 0) hx hb hK.1 hP 1 0 (gM1 g σ tl) rfl (by omega) (Nat.le_of_ble_eq_true rfl) dX11_isMade_37 ?_
          refine jn_cne hx hb (by omega) (by omega) (tgt := 43) dX11_isMade_38 (by decide) (fun c_38 => ?_) (fun c_38 => ?_)
          · have hlt : pd < (σ.2.1 0) (42 + l2) := by omega
            obtain ⟨p1, p2, p3, p4⟩ := hLn.2.2 pd hlt
            have ha9 : a < 10 := by omega
            have hb9 : b < 10 := by omega
            have hc9 : c2 < 10 := by omega
            have hms := md_step (l := l2) hlt ha9 hb9 hc9 p1 p2 p3
            have hmf := md_fuel (l := l2) (d := 7) hlt ha9 hb9 hc9 p1 p2 p3 p4 (hd ha9 hb9 hc9)
            refine lv_bipush (v := nI 50) hx hb dX11_isMade_43 (by decide) ?_
            refine lv_bipush (v := nI 9) hx hb dX11_isMade_45 (by decide) ?_
            refine lv_iload_n hx hb dX11_isMade_47 rfl (lv_at hl 1 rfl) ?_
            refine jn_imul hx hb dX11_isMade_48 ?_
            refine jn_iadd hx hb dX11_isMade_49 ?_
            refine lv_iconst (v := nI 3) hx hb dX11_isMade_50 (by decide) ?_
            refine lv_iload_n hx hb dX11_isMade_51 rfl (lv_at hl 2 rfl) ?_
            refine jn_imul hx hb dX11_isMade_52 ?_
            refine jn_iadd hx hb dX11_isMade_53 ?_
            refine lv_istore (lv' := [(6, .int (nI ((50 + (9 * l2)) + (3 * pd)))), (0, .ref (g.2.2.2 0)), (1, .int (nI l2)), (2, .int (nI pd)), (3, .int (nI a)), (4, .int (nI b)), (5, .int (nI c2))]) hx hb dX11_isMade_54 hl (by decide) rfl (fun ls hl => ?_)
            refine lv_aload_n hx hb dX11_isMade_56 rfl (lv_at hl 1 rfl) ?_
            refine lv_iload_n hx hb dX11_isMade_57 rfl (lv_at hl 2 rfl) ?_
            refine lv_iload_n hx hb dX11_isMade_58 rfl (lv_at hl 3 rfl) ?_
            refine lv_iconst (v := nI 1) hx hb dX11_isMade_59 (by decide) ?_
            refine jn_iadd hx hb dX11_isMade_60 ?_
            refine lv_iload_n hx hb dX11_isMade_61 rfl (lv_at hl 4 rfl) ?_
            refine lv_iload hx hb dX11_isMade_62 (lv_at hl 5 rfl) ?_
            refine lv_iload hx hb dX11_isMade_64 (lv_at hl 6 rfl) ?_
            refine vp_callSi (va_Run.run (va_runV (As := [.int (nI l2), .int (nI (pd + 1)), .int (nI a), .int (nI b), .int (nI c2)]) (rest := []) ⟨hx, hb, hml, hown, hts⟩ (c_X11_isMade_d7 l g tl σ l2 (pd + 1) a b c2 hl8 hLn (by omega) ha hb2 hc (fun h1 h2 h3 => by have := hd h1 h2 h3; omega)) (cwV 5 hts gX11_isMade_X11_isMade rfl rfl rfl (by decide +kernel) ⟨Nat.le_of_ble_eq_true rfl, Nat.le_of_ble_eq_true rfl⟩) (okPV hK hP rfl (gM0 g σ tl)) rfl rfl hl.1 rfl (lv_room (Nat.le_of_ble_eq_true rfl)) dX11_isMade_66 ⟨Nat.le_of_ble_eq_true rfl, Nat.le_of_ble_eq_true rfl⟩)) (fun r_66 h_66 => ?_)
            subst h_66
            refine jn_bne hx hb (tgt := 114) dX11_isMade_69 (by decide) (fun c_69 => ?_) (fun c_69 => ?_)
            · refine lv_iconst (v := nI 1) hx hb dX11_isMade_114 (by decide) ?_
              refine lv_goto (tgt := 119) hx hb dX11_isMade_115 (by decide) ?_
              exact hq _ _ ((nI 1)) dX11_isMade_119 jn_n1 (by first | exact n_if1 (hms.mpr (Or.inl c_69)) | exact n_if1 (hms.mpr (Or.inr c_111)) | exact n_if0 (fun q => (hms.mp q).elim c_69 c_111))
            · refine lv_aload_n hx hb dX11_isMade_72 rfl (lv_at hl 1 rfl) ?_
              refine lv_iload_n hx hb dX11_isMade_73 rfl (lv_at hl 2 rfl) ?_
              refine lv_iload_n hx hb dX11_isMade_74 rfl (lv_at hl 3 rfl) ?_
              refine lv_iload_n hx hb dX11_isMade_75 rfl (lv_at hl 4 rfl) ?_
              refine lv_aload_n hx hb dX11_isMade_76 rfl (lv_at hl 1 rfl) ?_
              refine va_get (D := (g.1, g.2.1)) (ci := 13) (v := .ref (g.2.2.2 1)) (C := RX11) (T := TX11) (N := 30) hx hb hts iX11 hown hK.1 hP 0 (gM0 g σ tl) rfl 1 (by decide) k13 (fun _ h9 => h9) rfl dX11_isMade_77 ?_
              refine lv_iload hx hb dX11_isMade_80 (lv_at hl 0 rfl) ?_
              refine jn_iald (f := σ.2.1 0) hx hb hK.1 hP 1 0 (gM1 g σ tl) rfl (by omega) (Nat.le_of_ble_eq_true rfl) dX11_isMade_82 ?_
              refine jn_isubB hx hb (by omega) dX11_isMade_83 ?_
              refine lv_iload hx hb dX11_isMade_84 (lv_at hl 5 rfl) ?_
              refine lv_aload_n hx hb dX11_isMade_86 rfl (lv_at hl 1 rfl) ?_
              refine va_get (D := (g.1, g.2.1)) (ci := 13) (v := .ref (g.2.2.2 1)) (C := RX11) (T := TX11) (N := 30) hx hb hts iX11 hown hK.1 hP 0 (gM0 g σ tl) rfl 1 (by decide) k13 (fun _ h9 => h9) rfl dX11_isMade_87 ?_
              refine lv_iload hx hb dX11_isMade_90 (lv_at hl 0 rfl) ?_
              refine lv_iconst (v := nI 1) hx hb dX11_isMade_92 (by decide) ?_
              refine jn_iadd hx hb dX11_isMade_93 ?_
              refine jn_iald (f := σ.2.1 0) hx hb hK.1 hP 1 0 (gM1 g σ tl) rfl (by omega) (Nat.le_of_ble_eq_true rfl) dX11_isMade_94 ?_
              refine jn_isubB hx hb (by omega) dX11_isMade_95 ?_
              refine lv_iload hx hb dX11_isMade_96 (lv_at hl 6 rfl) ?_
              refine lv_aload_n hx hb dX11_isMade_98 rfl (lv_at hl 1 rfl) ?_
              refine va_get (D := (g.1, g.2.1)) (ci := 13) (v := .ref (g.2.2.2 1)) (C := RX11) (T := TX11) (N := 30) hx hb hts iX11 hown hK.1 hP 0 (gM0 g σ tl) rfl 1 (by decide) k13 (fun _ h9 => h9) rfl dX11_isMade_99 ?_
              refine lv_iload hx hb dX11_isMade_102 (lv_at hl 0 rfl) ?_
              refine lv_iconst (v := nI 2) hx hb dX11_isMade_104 (by decide) ?_
              refine jn_iadd hx hb dX11_isMade_105 ?_
              refine jn_iald (f := σ.2.1 0) hx hb hK.1 hP 1 0 (gM1 g σ tl) rfl (by omega) (Nat.le_of_ble_eq_true rfl) dX11_isMade_106 ?_
              refine jn_isubB hx hb (by omega) dX11_isMade_107 ?_
              refine vp_callSi (va_Run.run (va_runV (As := [.int (nI l2), .int (nI pd), .int (nI (sb a ((σ.2.1 0) ((50 + (9 * l2)) + (3 * pd))))), .int (nI (sb b ((σ.2.1 0) (((50 + (9 * l2)) + (3 * pd)) + 1)))), .int (nI (sb c2 ((σ.2.1 0) (((50 + (9 * l2)) + (3 * pd)) + 2))))]) (rest := []) ⟨hx, hb, hml, hown, hts⟩ (c_X11_isMade_d7 l g tl σ l2 pd (sb a ((σ.2.1 0) ((50 + (9 * l2)) + (3 * pd)))) (sb b ((σ.2.1 0) (((50 + (9 * l2)) + (3 * pd)) + 1))) (sb c2 ((σ.2.1 0) (((50 + (9 * l2)) + (3 * pd)) + 2))) hl8 hLn hpd (sb_or ha9 p1) (sb_or hb9 p2) (sb_or hc9 p3) hmf) (cwV 5 hts gX11_isMade_X11_isMade rfl rfl rfl (by decide +kernel) ⟨Nat.le_of_ble_eq_true rfl, Nat.le_of_ble_eq_true rfl⟩) (okPV hK hP rfl (gM0 g σ tl)) rfl rfl hl.1 rfl (lv_room (Nat.le_of_ble_eq_true rfl)) dX11_isMade_108 ⟨Nat.le_of_ble_eq_true rfl, Nat.le_of_ble_eq_true rfl⟩)) (fun r_108 h_108 => ?_)
              subst h_108
              refine jn_beq hx hb (tgt := 118) dX11_isMade_111 (by decide) (fun c_111 => ?_) (fun c_111 => ?_)
              · refine lv_iconst (v := nI 0) hx hb dX11_isMade_118 (by decide) ?_
                exact hq _ _ ((nI 0)) dX11_isMade_119 jn_n0 (by first | exact n_if1 (hms.mpr (Or.inl c_69)) | exact n_if1 (hms.mpr (Or.inr c_111)) | exact n_if0 (fun q => (hms.mp q).elim c_69 c_111))
              · refine lv_iconst (v := nI 1) hx hb dX11_isMade_114 (by decide) ?_
                refine lv_goto (tgt := 119) hx hb dX11_isMade_115 (by decide) ?_
                exact hq _ _ ((nI 1)) dX11_isMade_119 jn_n1 (by first | exact n_if1 (hms.mpr (Or.inl c_69)) | exact n_if1 (hms.mpr (Or.inr c_111)) | exact n_if0 (fun q => (hms.mp q).elim c_69 c_111))
          · refine lv_iconst (v := nI 0) hx hb dX11_isMade_41 (by decide) ?_
            exact hq _ _ ((nI 0)) dX11_isMade_42 jn_n0 (n_if0 (fun q => by have q4 := cB_iff.mp q.2.2.2; rw [show (σ.2.1 0) (42 + l2) - pd = 0 by omega] at q4; obtain ⟨q5, q6, q7⟩ := q4; omega))
        · have ea : a = 0 := by omega
          have eb : b = 0 := by omega
          have ec : c2 = 0 := by omega
          refine lv_iconst (v := nI 1) hx hb dX11_isMade_26 (by decide) ?_
          exact hq _ _ ((nI 1)) dX11_isMade_27 jn_n1 (n_if1 ⟨by omega, by omega, by omega, cB_iff.mpr (by rw [ea, eb, ec]; exact md_0 _ _ _ _)⟩)
      · refine lv_iconst (v := nI 0) hx hb dX11_isMade_14 (by decide) ?_
        exact hq _ _ ((nI 0)) dX11_isMade_15 jn_n0 (n_if0 (fun q => by have q1 := q.1; have q2 := q.2.1; have q3 := q.2.2.1; omega))

abbrev r_c_X11_isMade_d9 : Room := { frames := 9, cells := 0, slots := 0, locals := 234 }
set_option maxHeartbeats 4000000 in
set_option maxRecDepth 100000 in
theorem c_X11_isMade_d9 (l : Launch) (g : GC) (tl : va_W) (σ : SS) (l2 pd a b c2 : Nat) (hl8 : l2 < 8) (hLn : Ln (σ.2.1 0) l2) (hpd : pd ≤ (σ.2.1 0) (42 + l2)) (ha : a < 10 ∨ (2147483648 ≤ a ∧ a < 4294967296)) (hb2 : b < 10 ∨ (2147483648 ≤ b ∧ b < 4294967296)) (hc : c2 < 10 ∨ (2147483648 ≤ c2 ∧ c2 < 4294967296)) (hd : a < 10 → b < 10 → c2 < 10 → (σ.2.1 0) (42 + l2) - pd + (a + b + c2) ≤ 9) : Met l yX11_isMade wsX11_isMade r_c_X11_isMade_d9 (va_Pc [.ref (g.2.2.2 0), .int (nI l2), .int (nI pd), .int (nI a), .int (nI b), .int (nI c2)] (PP g (wM g σ ++ tl))) (vp_Si (fun r => r = nI (if mdQ (σ.2.1 0) l2 ((σ.2.1 0) (42 + l2) - pd) pd a b c2 then 1 else 0))) 0 0 (fun _ => False) := by
  refine jn_pz (cc := cX11_isMade) (maxL := 7) (own := RX11) (by decide) rfl rfl (Nat.le_of_ble_eq_true rfl) ?_
  intro p e s m below meth c Q hx hb hml hown hts ⟨hP, hK⟩ hq ls hl
  have hl : lv_has ls 7 [(0, .ref (g.2.2.2 0)), (1, .int (nI l2)), (2, .int (nI pd)), (3, .int (nI a)), (4, .int (nI b)), (5, .int (nI c2))] := hl
  have iX11 : ∀ w ∈ wsX110, w ∈ wsX11_isMade := by decide +kernel
  have k13 := hts (.fieldLink RX11 13 "JumpingAutomataModel" "now" "[I") (by decide +kernel)
  have hH3 := hLn.2.1
  refine lv_iload_n hx hb dX11_isMade_0 rfl (lv_at hl 3 rfl) ?_
  refine jn_zlt hx hb (by omega) (tgt := 14) dX11_isMade_1 (by decide) (fun c_1 => ?_) (fun c_1 => ?_)
  · refine lv_iconst (v := nI 0) hx hb dX11_isMade_14 (by decide) ?_
    exact hq _ _ ((nI 0)) dX11_isMade_15 jn_n0 (n_if0 (fun q => by have q1 := q.1; have q2 := q.2.1; have q3 := q.2.2.1; omega))
  · refine lv_iload hx hb dX11_isMade_4 (lv_at hl 4 rfl) ?_
    refine jn_zlt hx hb (by omega) (tgt := 14) dX11_isMade_6 (by decide) (fun c_6 => ?_) (fun c_6 => ?_)
    · refine lv_iconst (v := nI 0) hx hb dX11_isMade_14 (by decide) ?_
      exact hq _ _ ((nI 0)) dX11_isMade_15 jn_n0 (n_if0 (fun q => by have q1 := q.1; have q2 := q.2.1; have q3 := q.2.2.1; omega))
    · refine lv_iload hx hb dX11_isMade_9 (lv_at hl 5 rfl) ?_
      refine jn_zge hx hb (by omega) (tgt := 16) dX11_isMade_11 (by decide) (fun c_11 => ?_) (fun c_11 => ?_)
      · refine lv_iload_n hx hb dX11_isMade_16 rfl (lv_at hl 3 rfl) ?_
        refine lv_iload hx hb dX11_isMade_17 (lv_at hl 4 rfl) ?_
        refine jn_iadd hx hb dX11_isMade_19 ?_
        refine lv_iload hx hb dX11_isMade_20 (lv_at hl 5 rfl) ?_
        refine jn_iadd hx hb dX11_isMade_22 ?_
        refine jn_zne hx hb (by omega) (tgt := 28) dX11_isMade_23 (by decide) (fun c_23 => ?_) (fun c_23 => ?_)
        · refine lv_iload_n hx hb dX11_isMade_28 rfl (lv_at hl 2 rfl) ?_
          refine lv_aload_n hx hb dX11_isMade_29 rfl (lv_at hl 0 rfl) ?_
          refine va_get (D := (g.1, g.2.1)) (ci := 13) (v := .ref (g.2.2.2 1)) (C := RX11) (T := TX11) (N := 30) hx hb hts iX11 hown hK.1 hP 0 (gM0 g σ tl) rfl 1 (by decide) k13 (fun _ h9 => h9) rfl dX11_isMade_30 ?_
          refine lv_bipush (v := nI 42) hx hb dX11_isMade_33 (by decide) ?_
          refine lv_iload_n hx hb dX11_isMade_35 rfl (lv_at hl 1 rfl) ?_
          refine jn_iadd hx hb dX11_isMade_36 ?_
          refine jn_iald (f := σ.2.1 0) hx hb hK.1 hP 1 0 (gM1 g σ tl) rfl (by omega) (Nat.le_of_ble_eq_true rfl) dX11_isMade_37 ?_
          refine jn_cne hx hb (by omega) (by omega) (tgt := 43) dX11_isMade_38 (by decide) (fun c_38 => ?_) (fun c_38 => ?_)
          · have hlt : pd < (σ.2.1 0) (42 + l2) := by omega
            obtain ⟨p1, p2, p3, p4⟩ := hLn.2.2 pd hlt
            have ha9 : a < 10 := by omega
            have hb9 : b < 10 := by omega
            have hc9 : c2 < 10 := by omega
            have hms := md_step (l := l2) hlt ha9 hb9 hc9 p1 p2 p3
            have hmf := md_fuel (l := l2) (d := 8) hlt ha9 hb9 hc9 p1 p2 p3 p4 (hd ha9 hb9 hc9)
            refine lv_bipush (v := nI 50) hx hb dX11_isMade_43 (by decide) ?_
            refine lv_bipush (v := nI 9) hx hb dX11_isMade_45 (by decide) ?_
            refine lv_iload_n hx hb dX11_isMade_47 rfl (lv_at hl 1 rfl) ?_
            refine jn_imul hx hb dX11_isMade_48 ?_
            refine jn_iadd hx hb dX11_isMade_49 ?_
            refine lv_iconst (v := nI 3) hx hb dX11_isMade_50 (by decide) ?_
            refine lv_iload_n hx hb dX11_isMade_51 rfl (lv_at hl 2 rfl) ?_
            refine jn_imul hx hb dX11_isMade_52 ?_
            refine jn_iadd hx hb dX11_isMade_53 ?_
            refine lv_istore (lv' := [(6, .int (nI ((50 + (9 * l2)) + (3 * pd)))), (0, .ref (g.2.2.2 0)), (1, .int (nI l2)), (2, .int (nI pd)), (3, .int (nI a)), (4, .int (nI b)), (5, .int (nI c2))]) hx hb dX11_isMade_54 hl (by decide) rfl (fun ls hl => ?_)
            refine lv_aload_n hx hb dX11_isMade_56 rfl (lv_at hl 1 rfl) ?_
            refine lv_iload_n hx hb dX11_isMade_57 rfl (lv_at hl 2 rfl) ?_
            refine lv_iload_n hx hb dX11_isMade_58 rfl (lv_at hl 3 rfl) ?_
            refine lv_iconst (v := nI 1) hx hb dX11_isMade_59 (by decide) ?_
            refine jn_iadd hx hb dX11_isMade_60 ?_
            refine lv_iload_n hx hb dX11_isMade_61 rfl (lv_at hl 4 rfl) ?_
            refine lv_iload hx hb dX11_isMade_62 (lv_at hl 5 rfl) ?_
            refine lv_iload hx hb dX11_isMade_64 (lv_at hl 6 rfl) ?_
            refine vp_callSi (va_Run.run (va_runV (As := [.int (nI l2), .int (nI (pd + 1)), .int (nI a), .int (nI b), .int (nI c2)]) (rest := []) ⟨hx, hb, hml, hown, hts⟩ (c_X11_isMade_d8 l g tl σ l2 (pd + 1) a b c2 hl8 hLn (by omega) ha hb2 hc (fun h1 h2 h3 => by have := hd h1 h2 h3; omega)) (cwV 5 hts gX11_isMade_X11_isMade rfl rfl rfl (by decide +kernel) ⟨Nat.le_of_ble_eq_true rfl, Nat.le_of_ble_eq_true rfl⟩) (okPV hK hP rfl (gM0 g σ tl)) rfl rfl hl.1 rfl (lv_room (Nat.le_of_ble_eq_true rfl)) dX11_isMade_66 ⟨Nat.le_of_ble_eq_true rfl, Nat.le_of_ble_eq_true rfl⟩)) (fun r_66 h_66 => ?_)
            subst h_66
            refine jn_bne hx hb (tgt := 114) dX11_isMade_69 (by decide) (fun c_69 => ?_) (fun c_69 => ?_)
            · refine lv_iconst (v := nI 1) hx hb dX11_isMade_114 (by decide) ?_
              refine lv_goto (tgt := 119) hx hb dX11_isMade_115 (by decide) ?_
              exact hq _ _ ((nI 1)) dX11_isMade_119 jn_n1 (by first | exact n_if1 (hms.mpr (Or.inl c_69)) | exact n_if1 (hms.mpr (Or.inr c_111)) | exact n_if0 (fun q => (hms.mp q).elim c_69 c_111))
            · refine lv_aload_n hx hb dX11_isMade_72 rfl (lv_at hl 1 rfl) ?_
              refine lv_iload_n hx hb dX11_isMade_73 rfl (lv_at hl 2 rfl) ?_
              refine lv_iload_n hx hb dX11_isMade_74 rfl (lv_at hl 3 rfl) ?_
              refine lv_iload_n hx hb dX11_isMade_75 rfl (lv_at hl 4 rfl) ?_
              refine lv_aload_n hx hb dX11_isMade_76 rfl (lv_at hl 1 rfl) ?_
              refine va_get (D := (g.1, g.2.1)) (ci := 13) (v := .ref (g.2.2.2 1)) (C := RX11) (T := TX11) (N := 30) hx hb hts iX11 hown hK.1 hP 0 (gM0 g σ tl) rfl 1 (by decide) k13 (fun _ h9 => h9) rfl dX11_isMade_77 ?_
              refine lv_iload hx hb dX11_isMade_80 (lv_at hl 0 rfl) ?_
              refine jn_iald (f := σ.2.1 0) hx hb hK.1 hP 1 0 (gM1 g σ tl) rfl (by omega) (Nat.le_of_ble_eq_true rfl) dX11_isMade_82 ?_
              refine jn_isubB hx hb (by omega) dX11_isMade_83 ?_
              refine lv_iload hx hb dX11_isMade_84 (lv_at hl 5 rfl) ?_
              refine lv_aload_n hx hb dX11_isMade_86 rfl (lv_at hl 1 rfl) ?_
              refine va_get (D := (g.1, g.2.1)) (ci := 13) (v := .ref (g.2.2.2 1)) (C := RX11) (T := TX11) (N := 30) hx hb hts iX11 hown hK.1 hP 0 (gM0 g σ tl) rfl 1 (by decide) k13 (fun _ h9 => h9) rfl dX11_isMade_87 ?_
              refine lv_iload hx hb dX11_isMade_90 (lv_at hl 0 rfl) ?_
              refine lv_iconst (v := nI 1) hx hb dX11_isMade_92 (by decide) ?_
              refine jn_iadd hx hb dX11_isMade_93 ?_
              refine jn_iald (f := σ.2.1 0) hx hb hK.1 hP 1 0 (gM1 g σ tl) rfl (by omega) (Nat.le_of_ble_eq_true rfl) dX11_isMade_94 ?_
              refine jn_isubB hx hb (by omega) dX11_isMade_95 ?_
              refine lv_iload hx hb dX11_isMade_96 (lv_at hl 6 rfl) ?_
              refine lv_aload_n hx hb dX11_isMade_98 rfl (lv_at hl 1 rfl) ?_
              refine va_get (D := (g.1, g.2.1)) (ci := 13) (v := .ref (g.2.2.2 1)) (C := RX11) (T := TX11) (N := 30) hx hb hts iX11 hown hK.1 hP 0 (gM0 g σ tl) rfl 1 (by decide) k13 (fun _ h9 => h9) rfl dX11_isMade_99 ?_
              refine lv_iload hx hb dX11_isMade_102 (lv_at hl 0 rfl) ?_
              refine lv_iconst (v := nI 2) hx hb dX11_isMade_104 (by decide) ?_
              refine jn_iadd hx hb dX11_isMade_105 ?_
              refine jn_iald (f := σ.2.1 0) hx hb hK.1 hP 1 0 (gM1 g σ tl) rfl (by omega) (Nat.le_of_ble_eq_true rfl) dX11_isMade_106 ?_
              refine jn_isubB hx hb (by omega) dX11_isMade_107 ?_
              refine vp_callSi (va_Run.run (va_runV (As := [.int (nI l2), .int (nI pd), .int (nI (sb a ((σ.2.1 0) ((50 + (9 * l2)) + (3 * pd))))), .int (nI (sb b ((σ.2.1 0) (((50 + (9 * l2)) + (3 * pd)) + 1)))), .int (nI (sb c2 ((σ.2.1 0) (((50 + (9 * l2)) + (3 * pd)) + 2))))]) (rest := []) ⟨hx, hb, hml, hown, hts⟩ (c_X11_isMade_d8 l g tl σ l2 pd (sb a ((σ.2.1 0) ((50 + (9 * l2)) + (3 * pd)))) (sb b ((σ.2.1 0) (((50 + (9 * l2)) + (3 * pd)) + 1))) (sb c2 ((σ.2.1 0) (((50 + (9 * l2)) + (3 * pd)) + 2))) hl8 hLn hpd (sb_or ha9 p1) (sb_or hb9 p2) (sb_or hc9 p3) hmf) (cwV 5 hts gX11_isMade_X11_isMade rfl rfl rfl (by decide +kernel) ⟨Nat.le_of_ble_eq_true rfl, Nat.le_of_ble_eq_true rfl⟩) (okPV hK hP rfl (gM0 g σ tl)) rfl rfl hl.1 rfl (lv_room (Nat.le_of_ble_eq_true rfl)) dX11_isMade_108 ⟨Nat.le_of_ble_eq_true rfl, Nat.le_of_ble_eq_true rfl⟩)) (fun r_108 h_108 => ?_)
              subst h_108
              refine jn_beq hx hb (tgt := 118) dX11_isMade_111 (by decide) (fun c_111 => ?_) (fun c_111 => ?_)
              · refine lv_iconst (v := nI 0) hx hb dX11_isMade_118 (by decide) ?_
                exact hq _ _ ((nI 0)) dX11_isMade_119 jn_n0 (by first | exact n_if1 (hms.mpr (Or.inl c_69)) | exact n_if1 (hms.mpr (Or.inr c_111)) | exact n_if0 (fun q => (hms.mp q).elim c_69 c_111))
              · refine lv_iconst (v := nI 1) hx hb dX11_isMade_114 (by decide) ?_
                refine lv_goto (tgt := 119) hx hb dX11_isMade_115 (by decide) ?_
                exact hq _ _ ((nI 1)) dX11_isMade_119 jn_n1 (by first | exact n_if1 (hms.mpr (Or.inl c_69)) | exact n_if1 (hms.mpr (Or.inr c_111)) | exact n_if0 (fun q => (hms.mp q).elim c_69 c_111))
          · refine lv_iconst (v := nI 0) hx hb dX11_isMade_41 (by decide) ?_
            exact hq _ _ ((nI 0)) dX11_isMade_42 jn_n0 (n_if0 (fun q => by have q4 := cB_iff.mp q.2.2.2; rw [show (σ.2.1 0) (42 + l2) - pd = 0 by omega] at q4; obtain ⟨q5, q6, q7⟩ := q4; omega))
        · have ea : a = 0 := by omega
          have eb : b = 0 := by omega
          have ec : c2 = 0 := by omega
          refine lv_iconst (v := nI 1) hx hb dX11_isMade_26 (by decide) ?_
          exact hq _ _ ((nI 1)) dX11_isMade_27 jn_n1 (n_if1 ⟨by omega, by omega, by omega, cB_iff.mpr (by rw [ea, eb, ec]; exact md_0 _ _ _ _)⟩)
      · refine lv_iconst (v := nI 0) hx hb dX11_isMade_14 (by decide) ?_
        exact hq _ _ ((nI 0)) dX11_isMade_15 jn_n0 (n_if0 (fun q => by have q1 := q.1; have q2 := q.2.1; have q3 := q.2.2.1; omega))

abbrev r_c_X11_isMade_d10 : Room := { frames := 10, cells := 0, slots := 0, locals := 260 }
set_option maxHeartbeats 4000000 in
set_option maxRecDepth 100000 in
theorem c_X11_isMade_d10 (l : Launch) (g : GC) (tl : va_W) (σ : SS) (l2 pd a b c2 : Nat) (hl8 : l2 < 8) (hLn : Ln (σ.2.1 0) l2) (hpd : pd ≤ (σ.2.1 0) (42 + l2)) (ha : a < 10 ∨ (2147483648 ≤ a ∧ a < 4294967296)) (hb2 : b < 10 ∨ (2147483648 ≤ b ∧ b < 4294967296)) (hc : c2 < 10 ∨ (2147483648 ≤ c2 ∧ c2 < 4294967296)) (hd : a < 10 → b < 10 → c2 < 10 → (σ.2.1 0) (42 + l2) - pd + (a + b + c2) ≤ 10) : Met l yX11_isMade wsX11_isMade r_c_X11_isMade_d10 (va_Pc [.ref (g.2.2.2 0), .int (nI l2), .int (nI pd), .int (nI a), .int (nI b), .int (nI c2)] (PP g (wM g σ ++ tl))) (vp_Si (fun r => r = nI (if mdQ (σ.2.1 0) l2 ((σ.2.1 0) (42 + l2) - pd) pd a b c2 then 1 else 0))) 0 0 (fun _ => False) := by
  refine jn_pz (cc := cX11_isMade) (maxL := 7) (own := RX11) (by decide) rfl rfl (Nat.le_of_ble_eq_true rfl) ?_
  intro p e s m below meth c Q hx hb hml hown hts ⟨hP, hK⟩ hq ls hl
  have hl : lv_has ls 7 [(0, .ref (g.2.2.2 0)), (1, .int (nI l2)), (2, .int (nI pd)), (3, .int (nI a)), (4, .int (nI b)), (5, .int (nI c2))] := hl
  have iX11 : ∀ w ∈ wsX110, w ∈ wsX11_isMade := by decide +kernel
  have k13 := hts (.fieldLink RX11 13 "JumpingAutomataModel" "now" "[I") (by decide +kernel)
  have hH3 := hLn.2.1
  refine lv_iload_n hx hb dX11_isMade_0 rfl (lv_at hl 3 rfl) ?_
  refine jn_zlt hx hb (by omega) (tgt := 14) dX11_isMade_1 (by decide) (fun c_1 => ?_) (fun c_1 => ?_)
  · refine lv_iconst (v := nI 0) hx hb dX11_isMade_14 (by decide) ?_
    exact hq _ _ ((nI 0)) dX11_isMade_15 jn_n0 (n_if0 (fun q => by have q1 := q.1; have q2 := q.2.1; have q3 := q.2.2.1; omega))
  · refine lv_iload hx hb dX11_isMade_4 (lv_at hl 4 rfl) ?_
    refine jn_zlt hx hb (by omega) (tgt := 14) dX11_isMade_6 (by decide) (fun c_6 => ?_) (fun c_6 => ?_)
    · refine lv_iconst (v := nI 0) hx hb dX11_isMade_14 (by decide) ?_
      exact hq _ _ ((nI 0)) dX11_isMade_15 jn_n0 (n_if0 (fun q => by have q1 := q.1; have q2 := q.2.1; have q3 := q.2.2.1; omega))
    · refine lv_iload hx hb dX11_isMade_9 (lv_at hl 5 rfl) ?_
      refine jn_zge hx hb (by omega) (tgt := 16) dX11_isMade_11 (by decide) (fun c_11 => ?_) (fun c_11 => ?_)
      · refine lv_iload_n hx hb dX11_isMade_16 rfl (lv_at hl 3 rfl) ?_
        refine lv_iload hx hb dX11_isMade_17 (lv_at hl 4 rfl) ?_
        refine jn_iadd hx hb dX11_isMade_19 ?_
        refine lv_iload hx hb dX11_isMade_20 (lv_at hl 5 rfl) ?_
        refine jn_iadd hx hb dX11_isMade_22 ?_
        refine jn_zne hx hb (by omega) (tgt := 28) dX11_isMade_23 (by decide) (fun c_23 => ?_) (fun c_23 => ?_)
        · refine lv_iload_n hx hb dX11_isMade_28 rfl (lv_at hl 2 rfl) ?_
          refine lv_aload_n hx hb dX11_isMade_29 rfl (lv_at hl 0 rfl) ?_
          refine va_get (D := (g.1, g.2.1)) (ci := 13) (v := .ref (g.2.2.2 1)) (C := RX11) (T := TX11) (N := 30) hx hb hts iX11 hown hK.1 hP 0 (gM0 g σ tl) rfl 1 (by decide) k13 (fun _ h9 => h9) rfl dX11_isMade_30 ?_
          refine lv_bipush (v := nI 42) hx hb dX11_isMade_33 (by decide) ?_
          refine lv_iload_n hx hb dX11_isMade_35 rfl (lv_at hl 1 rfl) ?_
          refine jn_iadd hx hb dX11_isMade_36 ?_
          refine jn_iald (f := σ.2.1 0) hx hb hK.1 hP 1 0 (gM1 g σ tl) rfl (by omega) (Nat.le_of_ble_eq_true rfl) dX11_isMade_37 ?_
          refine jn_cne hx hb (by omega) (by omega) (tgt := 43) dX11_isMade_38 (by decide) (fun c_38 => ?_) (fun c_38 => ?_)
          · have hlt : pd < (σ.2.1 0) (42 + l2) := by omega
            obtain ⟨p1, p2, p3, p4⟩ := hLn.2.2 pd hlt
            have ha9 : a < 10 := by omega
            have hb9 : b < 10 := by omega
            have hc9 : c2 < 10 := by omega
            have hms := md_step (l := l2) hlt ha9 hb9 hc9 p1 p2 p3
            have hmf := md_fuel (l := l2) (d := 9) hlt ha9 hb9 hc9 p1 p2 p3 p4 (hd ha9 hb9 hc9)
            refine lv_bipush (v := nI 50) hx hb dX11_isMade_43 (by decide) ?_
            refine lv_bipush (v := nI 9) hx hb dX11_isMade_45 (by decide) ?_
            refine lv_iload_n hx hb dX11_isMade_47 rfl (lv_at hl 1 rfl) ?_
            refine jn_imul hx hb dX11_isMade_48 ?_
            refine jn_iadd hx hb dX11_isMade_49 ?_
            refine lv_iconst (v := nI 3) hx hb dX11_isMade_50 (by decide) ?_
            refine lv_iload_n hx hb dX11_isMade_51 rfl (lv_at hl 2 rfl) ?_
            refine jn_imul hx hb dX11_isMade_52 ?_
            refine jn_iadd hx hb dX11_isMade_53 ?_
            refine lv_istore (lv' := [(6, .int (nI ((50 + (9 * l2)) + (3 * pd)))), (0, .ref (g.2.2.2 0)), (1, .int (nI l2)), (2, .int (nI pd)), (3, .int (nI a)), (4, .int (nI b)), (5, .int (nI c2))]) hx hb dX11_isMade_54 hl (by decide) rfl (fun ls hl => ?_)
            refine lv_aload_n hx hb dX11_isMade_56 rfl (lv_at hl 1 rfl) ?_
            refine lv_iload_n hx hb dX11_isMade_57 rfl (lv_at hl 2 rfl) ?_
            refine lv_iload_n hx hb dX11_isMade_58 rfl (lv_at hl 3 rfl) ?_
            refine lv_iconst (v := nI 1) hx hb dX11_isMade_59 (by decide) ?_
            refine jn_iadd hx hb dX11_isMade_60 ?_
            refine lv_iload_n hx hb dX11_isMade_61 rfl (lv_at hl 4 rfl) ?_
            refine lv_iload hx hb dX11_isMade_62 (lv_at hl 5 rfl) ?_
            refine lv_iload hx hb dX11_isMade_64 (lv_at hl 6 rfl) ?_
            refine vp_callSi (va_Run.run (va_runV (As := [.int (nI l2), .int (nI (pd + 1)), .int (nI a), .int (nI b), .int (nI c2)]) (rest := []) ⟨hx, hb, hml, hown, hts⟩ (c_X11_isMade_d9 l g tl σ l2 (pd + 1) a b c2 hl8 hLn (by omega) ha hb2 hc (fun h1 h2 h3 => by have := hd h1 h2 h3; omega)) (cwV 5 hts gX11_isMade_X11_isMade rfl rfl rfl (by decide +kernel) ⟨Nat.le_of_ble_eq_true rfl, Nat.le_of_ble_eq_true rfl⟩) (okPV hK hP rfl (gM0 g σ tl)) rfl rfl hl.1 rfl (lv_room (Nat.le_of_ble_eq_true rfl)) dX11_isMade_66 ⟨Nat.le_of_ble_eq_true rfl, Nat.le_of_ble_eq_true rfl⟩)) (fun r_66 h_66 => ?_)
            subst h_66
            refine jn_bne hx hb (tgt := 114) dX11_isMade_69 (by decide) (fun c_69 => ?_) (fun c_69 => ?_)
            · refine lv_iconst (v := nI 1) hx hb dX11_isMade_114 (by decide) ?_
              refine lv_goto (tgt := 119) hx hb dX11_isMade_115 (by decide) ?_
              exact hq _ _ ((nI 1)) dX11_isMade_119 jn_n1 (by first | exact n_if1 (hms.mpr (Or.inl c_69)) | exact n_if1 (hms.mpr (Or.inr c_111)) | exact n_if0 (fun q => (hms.mp q).elim c_69 c_111))
            · refine lv_aload_n hx hb dX11_isMade_72 rfl (lv_at hl 1 rfl) ?_
              refine lv_iload_n hx hb dX11_isMade_73 rfl (lv_at hl 2 rfl) ?_
              refine lv_iload_n hx hb dX11_isMade_74 rfl (lv_at hl 3 rfl) ?_
              refine lv_iload_n hx hb dX11_isMade_75 rfl (lv_at hl 4 rfl) ?_
              refine lv_aload_n hx hb dX11_isMade_76 rfl (lv_at hl 1 rfl) ?_
              refine va_get (D := (g.1, g.2.1)) (ci := 13) (v := .ref (g.2.2.2 1)) (C := RX11) (T := TX11) (N := 30) hx hb hts iX11 hown hK.1 hP 0 (gM0 g σ tl) rfl 1 (by decide) k13 (fun _ h9 => h9) rfl dX11_isMade_77 ?_
              refine lv_iload hx hb dX11_isMade_80 (lv_at hl 0 rfl) ?_
              refine jn_iald (f := σ.2.1 0) hx hb hK.1 hP 1 0 (gM1 g σ tl) rfl (by omega) (Nat.le_of_ble_eq_true rfl) dX11_isMade_82 ?_
              refine jn_isubB hx hb (by omega) dX11_isMade_83 ?_
              refine lv_iload hx hb dX11_isMade_84 (lv_at hl 5 rfl) ?_
              refine lv_aload_n hx hb dX11_isMade_86 rfl (lv_at hl 1 rfl) ?_
              refine va_get (D := (g.1, g.2.1)) (ci := 13) (v := .ref (g.2.2.2 1)) (C := RX11) (T := TX11) (N := 30) hx hb hts iX11 hown hK.1 hP 0 (gM0 g σ tl) rfl 1 (by decide) k13 (fun _ h9 => h9) rfl dX11_isMade_87 ?_
              refine lv_iload hx hb dX11_isMade_90 (lv_at hl 0 rfl) ?_
              refine lv_iconst (v := nI 1) hx hb dX11_isMade_92 (by decide) ?_
              refine jn_iadd hx hb dX11_isMade_93 ?_
              refine jn_iald (f := σ.2.1 0) hx hb hK.1 hP 1 0 (gM1 g σ tl) rfl (by omega) (Nat.le_of_ble_eq_true rfl) dX11_isMade_94 ?_
              refine jn_isubB hx hb (by omega) dX11_isMade_95 ?_
              refine lv_iload hx hb dX11_isMade_96 (lv_at hl 6 rfl) ?_
              refine lv_aload_n hx hb dX11_isMade_98 rfl (lv_at hl 1 rfl) ?_
              refine va_get (D := (g.1, g.2.1)) (ci := 13) (v := .ref (g.2.2.2 1)) (C := RX11) (T := TX11) (N := 30) hx hb hts iX11 hown hK.1 hP 0 (gM0 g σ tl) rfl 1 (by decide) k13 (fun _ h9 => h9) rfl dX11_isMade_99 ?_
              refine lv_iload hx hb dX11_isMade_102 (lv_at hl 0 rfl) ?_
              refine lv_iconst (v := nI 2) hx hb dX11_isMade_104 (by decide) ?_
              refine jn_iadd hx hb dX11_isMade_105 ?_
              refine jn_iald (f := σ.2.1 0) hx hb hK.1 hP 1 0 (gM1 g σ tl) rfl (by omega) (Nat.le_of_ble_eq_true rfl) dX11_isMade_106 ?_
              refine jn_isubB hx hb (by omega) dX11_isMade_107 ?_
              refine vp_callSi (va_Run.run (va_runV (As := [.int (nI l2), .int (nI pd), .int (nI (sb a ((σ.2.1 0) ((50 + (9 * l2)) + (3 * pd))))), .int (nI (sb b ((σ.2.1 0) (((50 + (9 * l2)) + (3 * pd)) + 1)))), .int (nI (sb c2 ((σ.2.1 0) (((50 + (9 * l2)) + (3 * pd)) + 2))))]) (rest := []) ⟨hx, hb, hml, hown, hts⟩ (c_X11_isMade_d9 l g tl σ l2 pd (sb a ((σ.2.1 0) ((50 + (9 * l2)) + (3 * pd)))) (sb b ((σ.2.1 0) (((50 + (9 * l2)) + (3 * pd)) + 1))) (sb c2 ((σ.2.1 0) (((50 + (9 * l2)) + (3 * pd)) + 2))) hl8 hLn hpd (sb_or ha9 p1) (sb_or hb9 p2) (sb_or hc9 p3) hmf) (cwV 5 hts gX11_isMade_X11_isMade rfl rfl rfl (by decide +kernel) ⟨Nat.le_of_ble_eq_true rfl, Nat.le_of_ble_eq_true rfl⟩) (okPV hK hP rfl (gM0 g σ tl)) rfl rfl hl.1 rfl (lv_room (Nat.le_of_ble_eq_true rfl)) dX11_isMade_108 ⟨Nat.le_of_ble_eq_true rfl, Nat.le_of_ble_eq_true rfl⟩)) (fun r_108 h_108 => ?_)
              subst h_108
              refine jn_beq hx hb (tgt := 118) dX11_isMade_111 (by decide) (fun c_111 => ?_) (fun c_111 => ?_)
              · refine lv_iconst (v := nI 0) hx hb dX11_isMade_118 (by decide) ?_
                exact hq _ _ ((nI 0)) dX11_isMade_119 jn_n0 (by first | exact n_if1 (hms.mpr (Or.inl c_69)) | exact n_if1 (hms.mpr (Or.inr c_111)) | exact n_if0 (fun q => (hms.mp q).elim c_69 c_111))
              · refine lv_iconst (v := nI 1) hx hb dX11_isMade_114 (by decide) ?_
                refine lv_goto (tgt := 119) hx hb dX11_isMade_115 (by decide) ?_
                exact hq _ _ ((nI 1)) dX11_isMade_119 jn_n1 (by first | exact n_if1 (hms.mpr (Or.inl c_69)) | exact n_if1 (hms.mpr (Or.inr c_111)) | exact n_if0 (fun q => (hms.mp q).elim c_69 c_111))
          · refine lv_iconst (v := nI 0) hx hb dX11_isMade_41 (by decide) ?_
            exact hq _ _ ((nI 0)) dX11_isMade_42 jn_n0 (n_if0 (fun q => by have q4 := cB_iff.mp q.2.2.2; rw [show (σ.2.1 0) (42 + l2) - pd = 0 by omega] at q4; obtain ⟨q5, q6, q7⟩ := q4; omega))
        · have ea : a = 0 := by omega
          have eb : b = 0 := by omega
          have ec : c2 = 0 := by omega
          refine lv_iconst (v := nI 1) hx hb dX11_isMade_26 (by decide) ?_
          exact hq _ _ ((nI 1)) dX11_isMade_27 jn_n1 (n_if1 ⟨by omega, by omega, by omega, cB_iff.mpr (by rw [ea, eb, ec]; exact md_0 _ _ _ _)⟩)
      · refine lv_iconst (v := nI 0) hx hb dX11_isMade_14 (by decide) ?_
        exact hq _ _ ((nI 0)) dX11_isMade_15 jn_n0 (n_if0 (fun q => by have q1 := q.1; have q2 := q.2.1; have q3 := q.2.2.1; omega))

abbrev r_c_X11_isMade_d11 : Room := { frames := 11, cells := 0, slots := 0, locals := 286 }
set_option maxHeartbeats 4000000 in
set_option maxRecDepth 100000 in
theorem c_X11_isMade_d11 (l : Launch) (g : GC) (tl : va_W) (σ : SS) (l2 pd a b c2 : Nat) (hl8 : l2 < 8) (hLn : Ln (σ.2.1 0) l2) (hpd : pd ≤ (σ.2.1 0) (42 + l2)) (ha : a < 10 ∨ (2147483648 ≤ a ∧ a < 4294967296)) (hb2 : b < 10 ∨ (2147483648 ≤ b ∧ b < 4294967296)) (hc : c2 < 10 ∨ (2147483648 ≤ c2 ∧ c2 < 4294967296)) (hd : a < 10 → b < 10 → c2 < 10 → (σ.2.1 0) (42 + l2) - pd + (a + b + c2) ≤ 11) : Met l yX11_isMade wsX11_isMade r_c_X11_isMade_d11 (va_Pc [.ref (g.2.2.2 0), .int (nI l2), .int (nI pd), .int (nI a), .int (nI b), .int (nI c2)] (PP g (wM g σ ++ tl))) (vp_Si (fun r => r = nI (if mdQ (σ.2.1 0) l2 ((σ.2.1 0) (42 + l2) - pd) pd a b c2 then 1 else 0))) 0 0 (fun _ => False) := by
  refine jn_pz (cc := cX11_isMade) (maxL := 7) (own := RX11) (by decide) rfl rfl (Nat.le_of_ble_eq_true rfl) ?_
  intro p e s m below meth c Q hx hb hml hown hts ⟨hP, hK⟩ hq ls hl
  have hl : lv_has ls 7 [(0, .ref (g.2.2.2 0)), (1, .int (nI l2)), (2, .int (nI pd)), (3, .int (nI a)), (4, .int (nI b)), (5, .int (nI c2))] := hl
  have iX11 : ∀ w ∈ wsX110, w ∈ wsX11_isMade := by decide +kernel
  have k13 := hts (.fieldLink RX11 13 "JumpingAutomataModel" "now" "[I") (by decide +kernel)
  have hH3 := hLn.2.1
  refine lv_iload_n hx hb dX11_isMade_0 rfl (lv_at hl 3 rfl) ?_
  refine jn_zlt hx hb (by omega) (tgt := 14) dX11_isMade_1 (by decide) (fun c_1 => ?_) (fun c_1 => ?_)
  · refine lv_iconst (v := nI 0) hx hb dX11_isMade_14 (by decide) ?_
    exact hq _ _ ((nI 0)) dX11_isMade_15 jn_n0 (n_if0 (fun q => by have q1 := q.1; have q2 := q.2.1; have q3 := q.2.2.1; omega))
  · refine lv_iload hx hb dX11_isMade_4 (lv_at hl 4 rfl) ?_
    refine jn_zlt hx hb (by omega) (tgt := 14) dX11_isMade_6 (by decide) (fun c_6 => ?_) (fun c_6 => ?_)
    · refine lv_iconst (v := nI 0) hx hb dX11_isMade_14 (by decide) ?_
      exact hq _ _ ((nI 0)) dX11_isMade_15 jn_n0 (n_if0 (fun q => by have q1 := q.1; have q2 := q.2.1; have q3 := q.2.2.1; omega))
    · refine lv_iload hx hb dX11_isMade_9 (lv_at hl 5 rfl) ?_
      refine jn_zge hx hb (by omega) (tgt := 16) dX11_isMade_11 (by decide) (fun c_11 => ?_) (fun c_11 => ?_)
      · refine lv_iload_n hx hb dX11_isMade_16 rfl (lv_at hl 3 rfl) ?_
        refine lv_iload hx hb dX11_isMade_17 (lv_at hl 4 rfl) ?_
        refine jn_iadd hx hb dX11_isMade_19 ?_
        refine lv_iload hx hb dX11_isMade_20 (lv_at hl 5 rfl) ?_
        refine jn_iadd hx hb dX11_isMade_22 ?_
        refine jn_zne hx hb (by omega) (tgt := 28) dX11_isMade_23 (by decide) (fun c_23 => ?_) (fun c_23 => ?_)
        · refine lv_iload_n hx hb dX11_isMade_28 rfl (lv_at hl 2 rfl) ?_
          refine lv_aload_n hx hb dX11_isMade_29 rfl (lv_at hl 0 rfl) ?_
          refine va_get (D := (g.1, g.2.1)) (ci := 13) (v := .ref (g.2.2.2 1)) (C := RX11) (T := TX11) (N := 30) hx hb hts iX11 hown hK.1 hP 0 (gM0 g σ tl) rfl 1 (by decide) k13 (fun _ h9 => h9) rfl dX11_isMade_30 ?_
          refine lv_bipush (v := nI 42) hx hb dX11_isMade_33 (by decide) ?_
          refine lv_iload_n hx hb dX11_isMade_35 rfl (lv_at hl 1 rfl) ?_
          refine jn_iadd hx hb dX11_isMade_36 ?_
          refine jn_iald (f := σ.2.1 0) hx hb hK.1 hP 1 0 (gM1 g σ tl) rfl (by omega) (Nat.le_of_ble_eq_true rfl) dX11_isMade_37 ?_
          refine jn_cne hx hb (by omega) (by omega) (tgt := 43) dX11_isMade_38 (by decide) (fun c_38 => ?_) (fun c_38 => ?_)
          · have hlt : pd < (σ.2.1 0) (42 + l2) := by omega
            obtain ⟨p1, p2, p3, p4⟩ := hLn.2.2 pd hlt
            have ha9 : a < 10 := by omega
            have hb9 : b < 10 := by omega
            have hc9 : c2 < 10 := by omega
            have hms := md_step (l := l2) hlt ha9 hb9 hc9 p1 p2 p3
            have hmf := md_fuel (l := l2) (d := 10) hlt ha9 hb9 hc9 p1 p2 p3 p4 (hd ha9 hb9 hc9)
            refine lv_bipush (v := nI 50) hx hb dX11_isMade_43 (by decide) ?_
            refine lv_bipush (v := nI 9) hx hb dX11_isMade_45 (by decide) ?_
            refine lv_iload_n hx hb dX11_isMade_47 rfl (lv_at hl 1 rfl) ?_
            refine jn_imul hx hb dX11_isMade_48 ?_
            refine jn_iadd hx hb dX11_isMade_49 ?_
            refine lv_iconst (v := nI 3) hx hb dX11_isMade_50 (by decide) ?_
            refine lv_iload_n hx hb dX11_isMade_51 rfl (lv_at hl 2 rfl) ?_
            refine jn_imul hx hb dX11_isMade_52 ?_
            refine jn_iadd hx hb dX11_isMade_53 ?_
            refine lv_istore (lv' := [(6, .int (nI ((50 + (9 * l2)) + (3 * pd)))), (0, .ref (g.2.2.2 0)), (1, .int (nI l2)), (2, .int (nI pd)), (3, .int (nI a)), (4, .int (nI b)), (5, .int (nI c2))]) hx hb dX11_isMade_54 hl (by decide) rfl (fun ls hl => ?_)
            refine lv_aload_n hx hb dX11_isMade_56 rfl (lv_at hl 1 rfl) ?_
            refine lv_iload_n hx hb dX11_isMade_57 rfl (lv_at hl 2 rfl) ?_
            refine lv_iload_n hx hb dX11_isMade_58 rfl (lv_at hl 3 rfl) ?_
            refine lv_iconst (v := nI 1) hx hb dX11_isMade_59 (by decide) ?_
            refine jn_iadd hx hb dX11_isMade_60 ?_
            refine lv_iload_n hx hb dX11_isMade_61 rfl (lv_at hl 4 rfl) ?_
            refine lv_iload hx hb dX11_isMade_62 (lv_at hl 5 rfl) ?_
            refine lv_iload hx hb dX11_isMade_64 (lv_at hl 6 rfl) ?_
            refine vp_callSi (va_Run.run (va_runV (As := [.int (nI l2), .int (nI (pd + 1)), .int (nI a), .int (nI b), .int (nI c2)]) (rest := []) ⟨hx, hb, hml, hown, hts⟩ (c_X11_isMade_d10 l g tl σ l2 (pd + 1) a b c2 hl8 hLn (by omega) ha hb2 hc (fun h1 h2 h3 => by have := hd h1 h2 h3; omega)) (cwV 5 hts gX11_isMade_X11_isMade rfl rfl rfl (by decide +kernel) ⟨Nat.le_of_ble_eq_true rfl, Nat.le_of_ble_eq_true rfl⟩) (okPV hK hP rfl (gM0 g σ tl)) rfl rfl hl.1 rfl (lv_room (Nat.le_of_ble_eq_true rfl)) dX11_isMade_66 ⟨Nat.le_of_ble_eq_true rfl, Nat.le_of_ble_eq_true rfl⟩)) (fun r_66 h_66 => ?_)
            subst h_66
            refine jn_bne hx hb (tgt := 114) dX11_isMade_69 (by decide) (fun c_69 => ?_) (fun c_69 => ?_)
            · refine lv_iconst (v := nI 1) hx hb dX11_isMade_114 (by decide) ?_
              refine lv_goto (tgt := 119) hx hb dX11_isMade_115 (by decide) ?_
              exact hq _ _ ((nI 1)) dX11_isMade_119 jn_n1 (by first | exact n_if1 (hms.mpr (Or.inl c_69)) | exact n_if1 (hms.mpr (Or.inr c_111)) | exact n_if0 (fun q => (hms.mp q).elim c_69 c_111))
            · refine lv_aload_n hx hb dX11_isMade_72 rfl (lv_at hl 1 rfl) ?_
              refine lv_iload_n hx hb dX11_isMade_73 rfl (lv_at hl 2 rfl) ?_
              refine lv_iload_n hx hb dX11_isMade_74 rfl (lv_at hl 3 rfl) ?_
              refine lv_iload_n hx hb dX11_isMade_75 rfl (lv_at hl 4 rfl) ?_
              refine lv_aload_n hx hb dX11_isMade_76 rfl (lv_at hl 1 rfl) ?_
              refine va_get (D := (g.1, g.2.1)) (ci := 13) (v := .ref (g.2.2.2 1)) (C := RX11) (T := TX11) (N := 30) hx hb hts iX11 hown hK.1 hP 0 (gM0 g σ tl) rfl 1 (by decide) k13 (fun _ h9 => h9) rfl dX11_isMade_77 ?_
              refine lv_iload hx hb dX11_isMade_80 (lv_at hl 0 rfl) ?_
              refine jn_iald (f := σ.2.1 0) hx hb hK.1 hP 1 0 (gM1 g σ tl) rfl (by omega) (Nat.le_of_ble_eq_true rfl) dX11_isMade_82 ?_
              refine jn_isubB hx hb (by omega) dX11_isMade_83 ?_
              refine lv_iload hx hb dX11_isMade_84 (lv_at hl 5 rfl) ?_
              refine lv_aload_n hx hb dX11_isMade_86 rfl (lv_at hl 1 rfl) ?_
              refine va_get (D := (g.1, g.2.1)) (ci := 13) (v := .ref (g.2.2.2 1)) (C := RX11) (T := TX11) (N := 30) hx hb hts iX11 hown hK.1 hP 0 (gM0 g σ tl) rfl 1 (by decide) k13 (fun _ h9 => h9) rfl dX11_isMade_87 ?_
              refine lv_iload hx hb dX11_isMade_90 (lv_at hl 0 rfl) ?_
              refine lv_iconst (v := nI 1) hx hb dX11_isMade_92 (by decide) ?_
              refine jn_iadd hx hb dX11_isMade_93 ?_
              refine jn_iald (f := σ.2.1 0) hx hb hK.1 hP 1 0 (gM1 g σ tl) rfl (by omega) (Nat.le_of_ble_eq_true rfl) dX11_isMade_94 ?_
              refine jn_isubB hx hb (by omega) dX11_isMade_95 ?_
              refine lv_iload hx hb dX11_isMade_96 (lv_at hl 6 rfl) ?_
              refine lv_aload_n hx hb dX11_isMade_98 rfl (lv_at hl 1 rfl) ?_
              refine va_get (D := (g.1, g.2.1)) (ci := 13) (v := .ref (g.2.2.2 1)) (C := RX11) (T := TX11) (N := 30) hx hb hts iX11 hown hK.1 hP 0 (gM0 g σ tl) rfl 1 (by decide) k13 (fun _ h9 => h9) rfl dX11_isMade_99 ?_
              refine lv_iload hx hb dX11_isMade_102 (lv_at hl 0 rfl) ?_
              refine lv_iconst (v := nI 2) hx hb dX11_isMade_104 (by decide) ?_
              refine jn_iadd hx hb dX11_isMade_105 ?_
              refine jn_iald (f := σ.2.1 0) hx hb hK.1 hP 1 0 (gM1 g σ tl) rfl (by omega) (Nat.le_of_ble_eq_true rfl) dX11_isMade_106 ?_
              refine jn_isubB hx hb (by omega) dX11_isMade_107 ?_
              refine vp_callSi (va_Run.run (va_runV (As := [.int (nI l2), .int (nI pd), .int (nI (sb a ((σ.2.1 0) ((50 + (9 * l2)) + (3 * pd))))), .int (nI (sb b ((σ.2.1 0) (((50 + (9 * l2)) + (3 * pd)) + 1)))), .int (nI (sb c2 ((σ.2.1 0) (((50 + (9 * l2)) + (3 * pd)) + 2))))]) (rest := []) ⟨hx, hb, hml, hown, hts⟩ (c_X11_isMade_d10 l g tl σ l2 pd (sb a ((σ.2.1 0) ((50 + (9 * l2)) + (3 * pd)))) (sb b ((σ.2.1 0) (((50 + (9 * l2)) + (3 * pd)) + 1))) (sb c2 ((σ.2.1 0) (((50 + (9 * l2)) + (3 * pd)) + 2))) hl8 hLn hpd (sb_or ha9 p1) (sb_or hb9 p2) (sb_or hc9 p3) hmf) (cwV 5 hts gX11_isMade_X11_isMade rfl rfl rfl (by decide +kernel) ⟨Nat.le_of_ble_eq_true rfl, Nat.le_of_ble_eq_true rfl⟩) (okPV hK hP rfl (gM0 g σ tl)) rfl rfl hl.1 rfl (lv_room (Nat.le_of_ble_eq_true rfl)) dX11_isMade_108 ⟨Nat.le_of_ble_eq_true rfl, Nat.le_of_ble_eq_true rfl⟩)) (fun r_108 h_108 => ?_)
              subst h_108
              refine jn_beq hx hb (tgt := 118) dX11_isMade_111 (by decide) (fun c_111 => ?_) (fun c_111 => ?_)
              · refine lv_iconst (v := nI 0) hx hb dX11_isMade_118 (by decide) ?_
                exact hq _ _ ((nI 0)) dX11_isMade_119 jn_n0 (by first | exact n_if1 (hms.mpr (Or.inl c_69)) | exact n_if1 (hms.mpr (Or.inr c_111)) | exact n_if0 (fun q => (hms.mp q).elim c_69 c_111))
              · refine lv_iconst (v := nI 1) hx hb dX11_isMade_114 (by decide) ?_
                refine lv_goto (tgt := 119) hx hb dX11_isMade_115 (by decide) ?_
                exact hq _ _ ((nI 1)) dX11_isMade_119 jn_n1 (by first | exact n_if1 (hms.mpr (Or.inl c_69)) | exact n_if1 (hms.mpr (Or.inr c_111)) | exact n_if0 (fun q => (hms.mp q).elim c_69 c_111))
          · refine lv_iconst (v := nI 0) hx hb dX11_isMade_41 (by decide) ?_
            exact hq _ _ ((nI 0)) dX11_isMade_42 jn_n0 (n_if0 (fun q => by have q4 := cB_iff.mp q.2.2.2; rw [show (σ.2.1 0) (42 + l2) - pd = 0 by omega] at q4; obtain ⟨q5, q6, q7⟩ := q4; omega))
        · have ea : a = 0 := by omega
          have eb : b = 0 := by omega
          have ec : c2 = 0 := by omega
          refine lv_iconst (v := nI 1) hx hb dX11_isMade_26 (by decide) ?_
          exact hq _ _ ((nI 1)) dX11_isMade_27 jn_n1 (n_if1 ⟨by omega, by omega, by omega, cB_iff.mpr (by rw [ea, eb, ec]; exact md_0 _ _ _ _)⟩)
      · refine lv_iconst (v := nI 0) hx hb dX11_isMade_14 (by decide) ?_
        exact hq _ _ ((nI 0)) dX11_isMade_15 jn_n0 (n_if0 (fun q => by have q1 := q.1; have q2 := q.2.1; have q3 := q.2.2.1; omega))

abbrev r_c_X11_isMade_d12 : Room := { frames := 12, cells := 0, slots := 0, locals := 312 }
set_option maxHeartbeats 4000000 in
set_option maxRecDepth 100000 in
theorem c_X11_isMade_d12 (l : Launch) (g : GC) (tl : va_W) (σ : SS) (l2 pd a b c2 : Nat) (hl8 : l2 < 8) (hLn : Ln (σ.2.1 0) l2) (hpd : pd ≤ (σ.2.1 0) (42 + l2)) (ha : a < 10 ∨ (2147483648 ≤ a ∧ a < 4294967296)) (hb2 : b < 10 ∨ (2147483648 ≤ b ∧ b < 4294967296)) (hc : c2 < 10 ∨ (2147483648 ≤ c2 ∧ c2 < 4294967296)) (hd : a < 10 → b < 10 → c2 < 10 → (σ.2.1 0) (42 + l2) - pd + (a + b + c2) ≤ 12) : Met l yX11_isMade wsX11_isMade r_c_X11_isMade_d12 (va_Pc [.ref (g.2.2.2 0), .int (nI l2), .int (nI pd), .int (nI a), .int (nI b), .int (nI c2)] (PP g (wM g σ ++ tl))) (vp_Si (fun r => r = nI (if mdQ (σ.2.1 0) l2 ((σ.2.1 0) (42 + l2) - pd) pd a b c2 then 1 else 0))) 0 0 (fun _ => False) := by
  refine jn_pz (cc := cX11_isMade) (maxL := 7) (own := RX11) (by decide) rfl rfl (Nat.le_of_ble_eq_true rfl) ?_
  intro p e s m below meth c Q hx hb hml hown hts ⟨hP, hK⟩ hq ls hl
  have hl : lv_has ls 7 [(0, .ref (g.2.2.2 0)), (1, .int (nI l2)), (2, .int (nI pd)), (3, .int (nI a)), (4, .int (nI b)), (5, .int (nI c2))] := hl
  have iX11 : ∀ w ∈ wsX110, w ∈ wsX11_isMade := by decide +kernel
  have k13 := hts (.fieldLink RX11 13 "JumpingAutomataModel" "now" "[I") (by decide +kernel)
  have hH3 := hLn.2.1
  refine lv_iload_n hx hb dX11_isMade_0 rfl (lv_at hl 3 rfl) ?_
  refine jn_zlt hx hb (by omega) (tgt := 14) dX11_isMade_1 (by decide) (fun c_1 => ?_) (fun c_1 => ?_)
  · refine lv_iconst (v := nI 0) hx hb dX11_isMade_14 (by decide) ?_
    exact hq _ _ ((nI 0)) dX11_isMade_15 jn_n0 (n_if0 (fun q => by have q1 := q.1; have q2 := q.2.1; have q3 := q.2.2.1; omega))
  · refine lv_iload hx hb dX11_isMade_4 (lv_at hl 4 rfl) ?_
    refine jn_zlt hx hb (by omega) (tgt := 14) dX11_isMade_6 (by decide) (fun c_6 => ?_) (fun c_6 => ?_)
    · refine lv_iconst (v := nI 0) hx hb dX11_isMade_14 (by decide) ?_
      exact hq _ _ ((nI 0)) dX11_isMade_15 jn_n0 (n_if0 (fun q => by have q1 := q.1; have q2 := q.2.1; have q3 := q.2.2.1; omega))
    · refine lv_iload hx hb dX11_isMade_9 (lv_at hl 5 rfl) ?_
      refine jn_zge hx hb (by omega) (tgt := 16) dX11_isMade_11 (by decide) (fun c_11 => ?_) (fun c_11 => ?_)
      · refine lv_iload_n hx hb dX11_isMade_16 rfl (lv_at hl 3 rfl) ?_
        refine lv_iload hx hb dX11_isMade_17 (lv_at hl 4 rfl) ?_
        refine jn_iadd hx hb dX11_isMade_19 ?_
        refine lv_iload hx hb dX11_isMade_20 (lv_at hl 5 rfl) ?_
        refine jn_iadd hx hb dX11_isMade_22 ?_
        refine jn_zne hx hb (by omega) (tgt := 28) dX11_isMade_23 (by decide) (fun c_23 => ?_) (fun c_23 => ?_)
        · refine lv_iload_n hx hb dX11_isMade_28 rfl (lv_at hl 2 rfl) ?_
          refine lv_aload_n hx hb dX11_isMade_29 rfl (lv_at hl 0 rfl) ?_
          refine va_get (D := (g.1, g.2.1)) (ci := 13) (v := .ref (g.2.2.2 1)) (C := RX11) (T := TX11) (N := 30) hx hb hts iX11 hown hK.1 hP 0 (gM0 g σ tl) rfl 1 (by decide) k13 (fun _ h9 => h9) rfl dX11_isMade_30 ?_
          refine lv_bipush (v := nI 42) hx hb dX11_isMade_33 (by decide) ?_
          refine lv_iload_n hx hb dX11_isMade_35 rfl (lv_at hl 1 rfl) ?_
          refine jn_iadd hx hb dX11_isMade_36 ?_
          refine jn_iald (f := σ.2.1 0) hx hb hK.1 hP 1 0 (gM1 g σ tl) rfl (by omega) (Nat.le_of_ble_eq_true rfl) dX11_isMade_37 ?_
          refine jn_cne hx hb (by omega) (by omega) (tgt := 43) dX11_isMade_38 (by decide) (fun c_38 => ?_) (fun c_38 => ?_)
          · have hlt : pd < (σ.2.1 0) (42 + l2) := by omega
            obtain ⟨p1, p2, p3, p4⟩ := hLn.2.2 pd hlt
            have ha9 : a < 10 := by omega
            have hb9 : b < 10 := by omega
            have hc9 : c2 < 10 := by omega
            have hms := md_step (l := l2) hlt ha9 hb9 hc9 p1 p2 p3
            have hmf := md_fuel (l := l2) (d := 11) hlt ha9 hb9 hc9 p1 p2 p3 p4 (hd ha9 hb9 hc9)
            refine lv_bipush (v := nI 50) hx hb dX11_isMade_43 (by decide) ?_
            refine lv_bipush (v := nI 9) hx hb dX11_isMade_45 (by decide) ?_
            refine lv_iload_n hx hb dX11_isMade_47 rfl (lv_at hl 1 rfl) ?_
            refine jn_imul hx hb dX11_isMade_48 ?_
            refine jn_iadd hx hb dX11_isMade_49 ?_
            refine lv_iconst (v := nI 3) hx hb dX11_isMade_50 (by decide) ?_
            refine lv_iload_n hx hb dX11_isMade_51 rfl (lv_at hl 2 rfl) ?_
            refine jn_imul hx hb dX11_isMade_52 ?_
            refine jn_iadd hx hb dX11_isMade_53 ?_
            refine lv_istore (lv' := [(6, .int (nI ((50 + (9 * l2)) + (3 * pd)))), (0, .ref (g.2.2.2 0)), (1, .int (nI l2)), (2, .int (nI pd)), (3, .int (nI a)), (4, .int (nI b)), (5, .int (nI c2))]) hx hb dX11_isMade_54 hl (by decide) rfl (fun ls hl => ?_)
            refine lv_aload_n hx hb dX11_isMade_56 rfl (lv_at hl 1 rfl) ?_
            refine lv_iload_n hx hb dX11_isMade_57 rfl (lv_at hl 2 rfl) ?_
            refine lv_iload_n hx hb dX11_isMade_58 rfl (lv_at hl 3 rfl) ?_
            refine lv_iconst (v := nI 1) hx hb dX11_isMade_59 (by decide) ?_
            refine jn_iadd hx hb dX11_isMade_60 ?_
            refine lv_iload_n hx hb dX11_isMade_61 rfl (lv_at hl 4 rfl) ?_
            refine lv_iload hx hb dX11_isMade_62 (lv_at hl 5 rfl) ?_
            refine lv_iload hx hb dX11_isMade_64 (lv_at hl 6 rfl) ?_
            refine vp_callSi (va_Run.run (va_runV (As := [.int (nI l2), .int (nI (pd + 1)), .int (nI a), .int (nI b), .int (nI c2)]) (rest := []) ⟨hx, hb, hml, hown, hts⟩ (c_X11_isMade_d11 l g tl σ l2 (pd + 1) a b c2 hl8 hLn (by omega) ha hb2 hc (fun h1 h2 h3 => by have := hd h1 h2 h3; omega)) (cwV 5 hts gX11_isMade_X11_isMade rfl rfl rfl (by decide +kernel) ⟨Nat.le_of_ble_eq_true rfl, Nat.le_of_ble_eq_true rfl⟩) (okPV hK hP rfl (gM0 g σ tl)) rfl rfl hl.1 rfl (lv_room (Nat.le_of_ble_eq_true rfl)) dX11_isMade_66 ⟨Nat.le_of_ble_eq_true rfl, Nat.le_of_ble_eq_true rfl⟩)) (fun r_66 h_66 => ?_)
            subst h_66
            refine jn_bne hx hb (tgt := 114) dX11_isMade_69 (by decide) (fun c_69 => ?_) (fun c_69 => ?_)
            · refine lv_iconst (v := nI 1) hx hb dX11_isMade_114 (by decide) ?_
              refine lv_goto (tgt := 119) hx hb dX11_isMade_115 (by decide) ?_
              exact hq _ _ ((nI 1)) dX11_isMade_119 jn_n1 (by first | exact n_if1 (hms.mpr (Or.inl c_69)) | exact n_if1 (hms.mpr (Or.inr c_111)) | exact n_if0 (fun q => (hms.mp q).elim c_69 c_111))
            · refine lv_aload_n hx hb dX11_isMade_72 rfl (lv_at hl 1 rfl) ?_
              refine lv_iload_n hx hb dX11_isMade_73 rfl (lv_at hl 2 rfl) ?_
              refine lv_iload_n hx hb dX11_isMade_74 rfl (lv_at hl 3 rfl) ?_
              refine lv_iload_n hx hb dX11_isMade_75 rfl (lv_at hl 4 rfl) ?_
              refine lv_aload_n hx hb dX11_isMade_76 rfl (lv_at hl 1 rfl) ?_
              refine va_get (D := (g.1, g.2.1)) (ci := 13) (v := .ref (g.2.2.2 1)) (C := RX11) (T := TX11) (N := 30) hx hb hts iX11 hown hK.1 hP 0 (gM0 g σ tl) rfl 1 (by decide) k13 (fun _ h9 => h9) rfl dX11_isMade_77 ?_
              refine lv_iload hx hb dX11_isMade_80 (lv_at hl 0 rfl) ?_
              refine jn_iald (f := σ.2.1 0) hx hb hK.1 hP 1 0 (gM1 g σ tl) rfl (by omega) (Nat.le_of_ble_eq_true rfl) dX11_isMade_82 ?_
              refine jn_isubB hx hb (by omega) dX11_isMade_83 ?_
              refine lv_iload hx hb dX11_isMade_84 (lv_at hl 5 rfl) ?_
              refine lv_aload_n hx hb dX11_isMade_86 rfl (lv_at hl 1 rfl) ?_
              refine va_get (D := (g.1, g.2.1)) (ci := 13) (v := .ref (g.2.2.2 1)) (C := RX11) (T := TX11) (N := 30) hx hb hts iX11 hown hK.1 hP 0 (gM0 g σ tl) rfl 1 (by decide) k13 (fun _ h9 => h9) rfl dX11_isMade_87 ?_
              refine lv_iload hx hb dX11_isMade_90 (lv_at hl 0 rfl) ?_
              refine lv_iconst (v := nI 1) hx hb dX11_isMade_92 (by decide) ?_
              refine jn_iadd hx hb dX11_isMade_93 ?_
              refine jn_iald (f := σ.2.1 0) hx hb hK.1 hP 1 0 (gM1 g σ tl) rfl (by omega) (Nat.le_of_ble_eq_true rfl) dX11_isMade_94 ?_
              refine jn_isubB hx hb (by omega) dX11_isMade_95 ?_
              refine lv_iload hx hb dX11_isMade_96 (lv_at hl 6 rfl) ?_
              refine lv_aload_n hx hb dX11_isMade_98 rfl (lv_at hl 1 rfl) ?_
              refine va_get (D := (g.1, g.2.1)) (ci := 13) (v := .ref (g.2.2.2 1)) (C := RX11) (T := TX11) (N := 30) hx hb hts iX11 hown hK.1 hP 0 (gM0 g σ tl) rfl 1 (by decide) k13 (fun _ h9 => h9) rfl dX11_isMade_99 ?_
              refine lv_iload hx hb dX11_isMade_102 (lv_at hl 0 rfl) ?_
              refine lv_iconst (v := nI 2) hx hb dX11_isMade_104 (by decide) ?_
              refine jn_iadd hx hb dX11_isMade_105 ?_
              refine jn_iald (f := σ.2.1 0) hx hb hK.1 hP 1 0 (gM1 g σ tl) rfl (by omega) (Nat.le_of_ble_eq_true rfl) dX11_isMade_106 ?_
              refine jn_isubB hx hb (by omega) dX11_isMade_107 ?_
              refine vp_callSi (va_Run.run (va_runV (As := [.int (nI l2), .int (nI pd), .int (nI (sb a ((σ.2.1 0) ((50 + (9 * l2)) + (3 * pd))))), .int (nI (sb b ((σ.2.1 0) (((50 + (9 * l2)) + (3 * pd)) + 1)))), .int (nI (sb c2 ((σ.2.1 0) (((50 + (9 * l2)) + (3 * pd)) + 2))))]) (rest := []) ⟨hx, hb, hml, hown, hts⟩ (c_X11_isMade_d11 l g tl σ l2 pd (sb a ((σ.2.1 0) ((50 + (9 * l2)) + (3 * pd)))) (sb b ((σ.2.1 0) (((50 + (9 * l2)) + (3 * pd)) + 1))) (sb c2 ((σ.2.1 0) (((50 + (9 * l2)) + (3 * pd)) + 2))) hl8 hLn hpd (sb_or ha9 p1) (sb_or hb9 p2) (sb_or hc9 p3) hmf) (cwV 5 hts gX11_isMade_X11_isMade rfl rfl rfl (by decide +kernel) ⟨Nat.le_of_ble_eq_true rfl, Nat.le_of_ble_eq_true rfl⟩) (okPV hK hP rfl (gM0 g σ tl)) rfl rfl hl.1 rfl (lv_room (Nat.le_of_ble_eq_true rfl)) dX11_isMade_108 ⟨Nat.le_of_ble_eq_true rfl, Nat.le_of_ble_eq_true rfl⟩)) (fun r_108 h_108 => ?_)
              subst h_108
              refine jn_beq hx hb (tgt := 118) dX11_isMade_111 (by decide) (fun c_111 => ?_) (fun c_111 => ?_)
              · refine lv_iconst (v := nI 0) hx hb dX11_isMade_118 (by decide) ?_
                exact hq _ _ ((nI 0)) dX11_isMade_119 jn_n0 (by first | exact n_if1 (hms.mpr (Or.inl c_69)) | exact n_if1 (hms.mpr (Or.inr c_111)) | exact n_if0 (fun q => (hms.mp q).elim c_69 c_111))
              · refine lv_iconst (v := nI 1) hx hb dX11_isMade_114 (by decide) ?_
                refine lv_goto (tgt := 119) hx hb dX11_isMade_115 (by decide) ?_
                exact hq _ _ ((nI 1)) dX11_isMade_119 jn_n1 (by first | exact n_if1 (hms.mpr (Or.inl c_69)) | exact n_if1 (hms.mpr (Or.inr c_111)) | exact n_if0 (fun q => (hms.mp q).elim c_69 c_111))
          · refine lv_iconst (v := nI 0) hx hb dX11_isMade_41 (by decide) ?_
            exact hq _ _ ((nI 0)) dX11_isMade_42 jn_n0 (n_if0 (fun q => by have q4 := cB_iff.mp q.2.2.2; rw [show (σ.2.1 0) (42 + l2) - pd = 0 by omega] at q4; obtain ⟨q5, q6, q7⟩ := q4; omega))
        · have ea : a = 0 := by omega
          have eb : b = 0 := by omega
          have ec : c2 = 0 := by omega
          refine lv_iconst (v := nI 1) hx hb dX11_isMade_26 (by decide) ?_
          exact hq _ _ ((nI 1)) dX11_isMade_27 jn_n1 (n_if1 ⟨by omega, by omega, by omega, cB_iff.mpr (by rw [ea, eb, ec]; exact md_0 _ _ _ _)⟩)
      · refine lv_iconst (v := nI 0) hx hb dX11_isMade_14 (by decide) ?_
        exact hq _ _ ((nI 0)) dX11_isMade_15 jn_n0 (n_if0 (fun q => by have q1 := q.1; have q2 := q.2.1; have q3 := q.2.2.1; omega))

abbrev r_c_X11_isMade_d13 : Room := { frames := 13, cells := 0, slots := 0, locals := 338 }
set_option maxHeartbeats 4000000 in
set_option maxRecDepth 100000 in
theorem c_X11_isMade_d13 (l : Launch) (g : GC) (tl : va_W) (σ : SS) (l2 pd a b c2 : Nat) (hl8 : l2 < 8) (hLn : Ln (σ.2.1 0) l2) (hpd : pd ≤ (σ.2.1 0) (42 + l2)) (ha : a < 10 ∨ (2147483648 ≤ a ∧ a < 4294967296)) (hb2 : b < 10 ∨ (2147483648 ≤ b ∧ b < 4294967296)) (hc : c2 < 10 ∨ (2147483648 ≤ c2 ∧ c2 < 4294967296)) (hd : a < 10 → b < 10 → c2 < 10 → (σ.2.1 0) (42 + l2) - pd + (a + b + c2) ≤ 13) : Met l yX11_isMade wsX11_isMade r_c_X11_isMade_d13 (va_Pc [.ref (g.2.2.2 0), .int (nI l2), .int (nI pd), .int (nI a), .int (nI b), .int (nI c2)] (PP g (wM g σ ++ tl))) (vp_Si (fun r => r = nI (if mdQ (σ.2.1 0) l2 ((σ.2.1 0) (42 + l2) - pd) pd a b c2 then 1 else 0))) 0 0 (fun _ => False) := by
  refine jn_pz (cc := cX11_isMade) (maxL := 7) (own := RX11) (by decide) rfl rfl (Nat.le_of_ble_eq_true rfl) ?_
  intro p e s m below meth c Q hx hb hml hown hts ⟨hP, hK⟩ hq ls hl
  have hl : lv_has ls 7 [(0, .ref (g.2.2.2 0)), (1, .int (nI l2)), (2, .int (nI pd)), (3, .int (nI a)), (4, .int (nI b)), (5, .int (nI c2))] := hl
  have iX11 : ∀ w ∈ wsX110, w ∈ wsX11_isMade := by decide +kernel
  have k13 := hts (.fieldLink RX11 13 "JumpingAutomataModel" "now" "[I") (by decide +kernel)
  have hH3 := hLn.2.1
  refine lv_iload_n hx hb dX11_isMade_0 rfl (lv_at hl 3 rfl) ?_
  refine jn_zlt hx hb (by omega) (tgt := 14) dX11_isMade_1 (by decide) (fun c_1 => ?_) (fun c_1 => ?_)
  · refine lv_iconst (v := nI 0) hx hb dX11_isMade_14 (by decide) ?_
    exact hq _ _ ((nI 0)) dX11_isMade_15 jn_n0 (n_if0 (fun q => by have q1 := q.1; have q2 := q.2.1; have q3 := q.2.2.1; omega))
  · refine lv_iload hx hb dX11_isMade_4 (lv_at hl 4 rfl) ?_
    refine jn_zlt hx hb (by omega) (tgt := 14) dX11_isMade_6 (by decide) (fun c_6 => ?_) (fun c_6 => ?_)
    · refine lv_iconst (v := nI 0) hx hb dX11_isMade_14 (by decide) ?_
      exact hq _ _ ((nI 0)) dX11_isMade_15 jn_n0 (n_if0 (fun q => by have q1 := q.1; have q2 := q.2.1; have q3 := q.2.2.1; omega))
    · refine lv_iload hx hb dX11_isMade_9 (lv_at hl 5 rfl) ?_
      refine jn_zge hx hb (by omega) (tgt := 16) dX11_isMade_11 (by decide) (fun c_11 => ?_) (fun c_11 => ?_)
      · refine lv_iload_n hx hb dX11_isMade_16 rfl (lv_at hl 3 rfl) ?_
        refine lv_iload hx hb dX11_isMade_17 (lv_at hl 4 rfl) ?_
        refine jn_iadd hx hb dX11_isMade_19 ?_
        refine lv_iload hx hb dX11_isMade_20 (lv_at hl 5 rfl) ?_
        refine jn_iadd hx hb dX11_isMade_22 ?_
        refine jn_zne hx hb (by omega) (tgt := 28) dX11_isMade_23 (by decide) (fun c_23 => ?_) (fun c_23 => ?_)
        · refine lv_iload_n hx hb dX11_isMade_28 rfl (lv_at hl 2 rfl) ?_
          refine lv_aload_n hx hb dX11_isMade_29 rfl (lv_at hl 0 rfl) ?_
          refine va_get (D := (g.1, g.2.1)) (ci := 13) (v := .ref (g.2.2.2 1)) (C := RX11) (T := TX11) (N := 30) hx hb hts iX11 hown hK.1 hP 0 (gM0 g σ tl) rfl 1 (by decide) k13 (fun _ h9 => h9) rfl dX11_isMade_30 ?_
          refine lv_bipush (v := nI 42) hx hb dX11_isMade_33 (by decide) ?_
          refine lv_iload_n hx hb dX11_isMade_35 rfl (lv_at hl 1 rfl) ?_
          refine jn_iadd hx hb dX11_isMade_36 ?_
          refine jn_iald (f := σ.2.1 0) hx hb hK.1 hP 1 0 (gM1 g σ tl) rfl (by omega) (Nat.le_of_ble_eq_true rfl) dX11_isMade_37 ?_
          refine jn_cne hx hb (by omega) (by omega) (tgt := 43) dX11_isMade_38 (by decide) (fun c_38 => ?_) (fun c_38 => ?_)
          · have hlt : pd < (σ.2.1 0) (42 + l2) := by omega
            obtain ⟨p1, p2, p3, p4⟩ := hLn.2.2 pd hlt
            have ha9 : a < 10 := by omega
            have hb9 : b < 10 := by omega
            have hc9 : c2 < 10 := by omega
            have hms := md_step (l := l2) hlt ha9 hb9 hc9 p1 p2 p3
            have hmf := md_fuel (l := l2) (d := 12) hlt ha9 hb9 hc9 p1 p2 p3 p4 (hd ha9 hb9 hc9)
            refine lv_bipush (v := nI 50) hx hb dX11_isMade_43 (by decide) ?_
            refine lv_bipush (v := nI 9) hx hb dX11_isMade_45 (by decide) ?_
            refine lv_iload_n hx hb dX11_isMade_47 rfl (lv_at hl 1 rfl) ?_
            refine jn_imul hx hb dX11_isMade_48 ?_
            refine jn_iadd hx hb dX11_isMade_49 ?_
            refine lv_iconst (v := nI 3) hx hb dX11_isMade_50 (by decide) ?_
            refine lv_iload_n hx hb dX11_isMade_51 rfl (lv_at hl 2 rfl) ?_
            refine jn_imul hx hb dX11_isMade_52 ?_
            refine jn_iadd hx hb dX11_isMade_53 ?_
            refine lv_istore (lv' := [(6, .int (nI ((50 + (9 * l2)) + (3 * pd)))), (0, .ref (g.2.2.2 0)), (1, .int (nI l2)), (2, .int (nI pd)), (3, .int (nI a)), (4, .int (nI b)), (5, .int (nI c2))]) hx hb dX11_isMade_54 hl (by decide) rfl (fun ls hl => ?_)
            refine lv_aload_n hx hb dX11_isMade_56 rfl (lv_at hl 1 rfl) ?_
            refine lv_iload_n hx hb dX11_isMade_57 rfl (lv_at hl 2 rfl) ?_
            refine lv_iload_n hx hb dX11_isMade_58 rfl (lv_at hl 3 rfl) ?_
            refine lv_iconst (v := nI 1) hx hb dX11_isMade_59 (by decide) ?_
            refine jn_iadd hx hb dX11_isMade_60 ?_
            refine lv_iload_n hx hb dX11_isMade_61 rfl (lv_at hl 4 rfl) ?_
            refine lv_iload hx hb dX11_isMade_62 (lv_at hl 5 rfl) ?_
            refine lv_iload hx hb dX11_isMade_64 (lv_at hl 6 rfl) ?_
            refine vp_callSi (va_Run.run (va_runV (As := [.int (nI l2), .int (nI (pd + 1)), .int (nI a), .int (nI b), .int (nI c2)]) (rest := []) ⟨hx, hb, hml, hown, hts⟩ (c_X11_isMade_d12 l g tl σ l2 (pd + 1) a b c2 hl8 hLn (by omega) ha hb2 hc (fun h1 h2 h3 => by have := hd h1 h2 h3; omega)) (cwV 5 hts gX11_isMade_X11_isMade rfl rfl rfl (by decide +kernel) ⟨Nat.le_of_ble_eq_true rfl, Nat.le_of_ble_eq_true rfl⟩) (okPV hK hP rfl (gM0 g σ tl)) rfl rfl hl.1 rfl (lv_room (Nat.le_of_ble_eq_true rfl)) dX11_isMade_66 ⟨Nat.le_of_ble_eq_true rfl, Nat.le_of_ble_eq_true rfl⟩)) (fun r_66 h_66 => ?_)
            subst h_66
            refine jn_bne hx hb (tgt := 114) dX11_isMade_69 (by decide) (fun c_69 => ?_) (fun c_69 => ?_)
            · refine lv_iconst (v := nI 1) hx hb dX11_isMade_114 (by decide) ?_
              refine lv_goto (tgt := 119) hx hb dX11_isMade_115 (by decide) ?_
              exact hq _ _ ((nI 1)) dX11_isMade_119 jn_n1 (by first | exact n_if1 (hms.mpr (Or.inl c_69)) | exact n_if1 (hms.mpr (Or.inr c_111)) | exact n_if0 (fun q => (hms.mp q).elim c_69 c_111))
            · refine lv_aload_n hx hb dX11_isMade_72 rfl (lv_at hl 1 rfl) ?_
              refine lv_iload_n hx hb dX11_isMade_73 rfl (lv_at hl 2 rfl) ?_
              refine lv_iload_n hx hb dX11_isMade_74 rfl (lv_at hl 3 rfl) ?_
              refine lv_iload_n hx hb dX11_isMade_75 rfl (lv_at hl 4 rfl) ?_
              refine lv_aload_n hx hb dX11_isMade_76 rfl (lv_at hl 1 rfl) ?_
              refine va_get (D := (g.1, g.2.1)) (ci := 13) (v := .ref (g.2.2.2 1)) (C := RX11) (T := TX11) (N := 30) hx hb hts iX11 hown hK.1 hP 0 (gM0 g σ tl) rfl 1 (by decide) k13 (fun _ h9 => h9) rfl dX11_isMade_77 ?_
              refine lv_iload hx hb dX11_isMade_80 (lv_at hl 0 rfl) ?_
              refine jn_iald (f := σ.2.1 0) hx hb hK.1 hP 1 0 (gM1 g σ tl) rfl (by omega) (Nat.le_of_ble_eq_true rfl) dX11_isMade_82 ?_
              refine jn_isubB hx hb (by omega) dX11_isMade_83 ?_
              refine lv_iload hx hb dX11_isMade_84 (lv_at hl 5 rfl) ?_
              refine lv_aload_n hx hb dX11_isMade_86 rfl (lv_at hl 1 rfl) ?_
              refine va_get (D := (g.1, g.2.1)) (ci := 13) (v := .ref (g.2.2.2 1)) (C := RX11) (T := TX11) (N := 30) hx hb hts iX11 hown hK.1 hP 0 (gM0 g σ tl) rfl 1 (by decide) k13 (fun _ h9 => h9) rfl dX11_isMade_87 ?_
              refine lv_iload hx hb dX11_isMade_90 (lv_at hl 0 rfl) ?_
              refine lv_iconst (v := nI 1) hx hb dX11_isMade_92 (by decide) ?_
              refine jn_iadd hx hb dX11_isMade_93 ?_
              refine jn_iald (f := σ.2.1 0) hx hb hK.1 hP 1 0 (gM1 g σ tl) rfl (by omega) (Nat.le_of_ble_eq_true rfl) dX11_isMade_94 ?_
              refine jn_isubB hx hb (by omega) dX11_isMade_95 ?_
              refine lv_iload hx hb dX11_isMade_96 (lv_at hl 6 rfl) ?_
              refine lv_aload_n hx hb dX11_isMade_98 rfl (lv_at hl 1 rfl) ?_
              refine va_get (D := (g.1, g.2.1)) (ci := 13) (v := .ref (g.2.2.2 1)) (C := RX11) (T := TX11) (N := 30) hx hb hts iX11 hown hK.1 hP 0 (gM0 g σ tl) rfl 1 (by decide) k13 (fun _ h9 => h9) rfl dX11_isMade_99 ?_
              refine lv_iload hx hb dX11_isMade_102 (lv_at hl 0 rfl) ?_
              refine lv_iconst (v := nI 2) hx hb dX11_isMade_104 (by decide) ?_
              refine jn_iadd hx hb dX11_isMade_105 ?_
              refine jn_iald (f := σ.2.1 0) hx hb hK.1 hP 1 0 (gM1 g σ tl) rfl (by omega) (Nat.le_of_ble_eq_true rfl) dX11_isMade_106 ?_
              refine jn_isubB hx hb (by omega) dX11_isMade_107 ?_
              refine vp_callSi (va_Run.run (va_runV (As := [.int (nI l2), .int (nI pd), .int (nI (sb a ((σ.2.1 0) ((50 + (9 * l2)) + (3 * pd))))), .int (nI (sb b ((σ.2.1 0) (((50 + (9 * l2)) + (3 * pd)) + 1)))), .int (nI (sb c2 ((σ.2.1 0) (((50 + (9 * l2)) + (3 * pd)) + 2))))]) (rest := []) ⟨hx, hb, hml, hown, hts⟩ (c_X11_isMade_d12 l g tl σ l2 pd (sb a ((σ.2.1 0) ((50 + (9 * l2)) + (3 * pd)))) (sb b ((σ.2.1 0) (((50 + (9 * l2)) + (3 * pd)) + 1))) (sb c2 ((σ.2.1 0) (((50 + (9 * l2)) + (3 * pd)) + 2))) hl8 hLn hpd (sb_or ha9 p1) (sb_or hb9 p2) (sb_or hc9 p3) hmf) (cwV 5 hts gX11_isMade_X11_isMade rfl rfl rfl (by decide +kernel) ⟨Nat.le_of_ble_eq_true rfl, Nat.le_of_ble_eq_true rfl⟩) (okPV hK hP rfl (gM0 g σ tl)) rfl rfl hl.1 rfl (lv_room (Nat.le_of_ble_eq_true rfl)) dX11_isMade_108 ⟨Nat.le_of_ble_eq_true rfl, Nat.le_of_ble_eq_true rfl⟩)) (fun r_108 h_108 => ?_)
              subst h_108
              refine jn_beq hx hb (tgt := 118) dX11_isMade_111 (by decide) (fun c_111 => ?_) (fun c_111 => ?_)
              · refine lv_iconst (v := nI 0) hx hb dX11_isMade_118 (by decide) ?_
                exact hq _ _ ((nI 0)) dX11_isMade_119 jn_n0 (by first | exact n_if1 (hms.mpr (Or.inl c_69)) | exact n_if1 (hms.mpr (Or.inr c_111)) | exact n_if0 (fun q => (hms.mp q).elim c_69 c_111))
              · refine lv_iconst (v := nI 1) hx hb dX11_isMade_114 (by decide) ?_
                refine lv_goto (tgt := 119) hx hb dX11_isMade_115 (by decide) ?_
                exact hq _ _ ((nI 1)) dX11_isMade_119 jn_n1 (by first | exact n_if1 (hms.mpr (Or.inl c_69)) | exact n_if1 (hms.mpr (Or.inr c_111)) | exact n_if0 (fun q => (hms.mp q).elim c_69 c_111))
          · refine lv_iconst (v := nI 0) hx hb dX11_isMade_41 (by decide) ?_
            exact hq _ _ ((nI 0)) dX11_isMade_42 jn_n0 (n_if0 (fun q => by have q4 := cB_iff.mp q.2.2.2; rw [show (σ.2.1 0) (42 + l2) - pd = 0 by omega] at q4; obtain ⟨q5, q6, q7⟩ := q4; omega))
        · have ea : a = 0 := by omega
          have eb : b = 0 := by omega
          have ec : c2 = 0 := by omega
          refine lv_iconst (v := nI 1) hx hb dX11_isMade_26 (by decide) ?_
          exact hq _ _ ((nI 1)) dX11_isMade_27 jn_n1 (n_if1 ⟨by omega, by omega, by omega, cB_iff.mpr (by rw [ea, eb, ec]; exact md_0 _ _ _ _)⟩)
      · refine lv_iconst (v := nI 0) hx hb dX11_isMade_14 (by decide) ?_
        exact hq _ _ ((nI 0)) dX11_isMade_15 jn_n0 (n_if0 (fun q => by have q1 := q.1; have q2 := q.2.1; have q3 := q.2.2.1; omega))

abbrev r_c_X11_isMade_d14 : Room := { frames := 14, cells := 0, slots := 0, locals := 364 }
set_option maxHeartbeats 4000000 in
set_option maxRecDepth 100000 in
theorem c_X11_isMade_d14 (l : Launch) (g : GC) (tl : va_W) (σ : SS) (l2 pd a b c2 : Nat) (hl8 : l2 < 8) (hLn : Ln (σ.2.1 0) l2) (hpd : pd ≤ (σ.2.1 0) (42 + l2)) (ha : a < 10 ∨ (2147483648 ≤ a ∧ a < 4294967296)) (hb2 : b < 10 ∨ (2147483648 ≤ b ∧ b < 4294967296)) (hc : c2 < 10 ∨ (2147483648 ≤ c2 ∧ c2 < 4294967296)) (hd : a < 10 → b < 10 → c2 < 10 → (σ.2.1 0) (42 + l2) - pd + (a + b + c2) ≤ 14) : Met l yX11_isMade wsX11_isMade r_c_X11_isMade_d14 (va_Pc [.ref (g.2.2.2 0), .int (nI l2), .int (nI pd), .int (nI a), .int (nI b), .int (nI c2)] (PP g (wM g σ ++ tl))) (vp_Si (fun r => r = nI (if mdQ (σ.2.1 0) l2 ((σ.2.1 0) (42 + l2) - pd) pd a b c2 then 1 else 0))) 0 0 (fun _ => False) := by
  refine jn_pz (cc := cX11_isMade) (maxL := 7) (own := RX11) (by decide) rfl rfl (Nat.le_of_ble_eq_true rfl) ?_
  intro p e s m below meth c Q hx hb hml hown hts ⟨hP, hK⟩ hq ls hl
  have hl : lv_has ls 7 [(0, .ref (g.2.2.2 0)), (1, .int (nI l2)), (2, .int (nI pd)), (3, .int (nI a)), (4, .int (nI b)), (5, .int (nI c2))] := hl
  have iX11 : ∀ w ∈ wsX110, w ∈ wsX11_isMade := by decide +kernel
  have k13 := hts (.fieldLink RX11 13 "JumpingAutomataModel" "now" "[I") (by decide +kernel)
  have hH3 := hLn.2.1
  refine lv_iload_n hx hb dX11_isMade_0 rfl (lv_at hl 3 rfl) ?_
  refine jn_zlt hx hb (by omega) (tgt := 14) dX11_isMade_1 (by decide) (fun c_1 => ?_) (fun c_1 => ?_)
  · refine lv_iconst (v := nI 0) hx hb dX11_isMade_14 (by decide) ?_
    exact hq _ _ ((nI 0)) dX11_isMade_15 jn_n0 (n_if0 (fun q => by have q1 := q.1; have q2 := q.2.1; have q3 := q.2.2.1; omega))
  · refine lv_iload hx hb dX11_isMade_4 (lv_at hl 4 rfl) ?_
    refine jn_zlt hx hb (by omega) (tgt := 14) dX11_isMade_6 (by decide) (fun c_6 => ?_) (fun c_6 => ?_)
    · refine lv_iconst (v := nI 0) hx hb dX11_isMade_14 (by decide) ?_
      exact hq _ _ ((nI 0)) dX11_isMade_15 jn_n0 (n_if0 (fun q => by have q1 := q.1; have q2 := q.2.1; have q3 := q.2.2.1; omega))
    · refine lv_iload hx hb dX11_isMade_9 (lv_at hl 5 rfl) ?_
      refine jn_zge hx hb (by omega) (tgt := 16) dX11_isMade_11 (by decide) (fun c_11 => ?_) (fun c_11 => ?_)
      · refine lv_iload_n hx hb dX11_isMade_16 rfl (lv_at hl 3 rfl) ?_
        refine lv_iload hx hb dX11_isMade_17 (lv_at hl 4 rfl) ?_
        refine jn_iadd hx hb dX11_isMade_19 ?_
        refine lv_iload hx hb dX11_isMade_20 (lv_at hl 5 rfl) ?_
        refine jn_iadd hx hb dX11_isMade_22 ?_
        refine jn_zne hx hb (by omega) (tgt := 28) dX11_isMade_23 (by decide) (fun c_23 => ?_) (fun c_23 => ?_)
        · refine lv_iload_n hx hb dX11_isMade_28 rfl (lv_at hl 2 rfl) ?_
          refine lv_aload_n hx hb dX11_isMade_29 rfl (lv_at hl 0 rfl) ?_
          refine va_get (D := (g.1, g.2.1)) (ci := 13) (v := .ref (g.2.2.2 1)) (C := RX11) (T := TX11) (N := 30) hx hb hts iX11 hown hK.1 hP 0 (gM0 g σ tl) rfl 1 (by decide) k13 (fun _ h9 => h9) rfl dX11_isMade_30 ?_
          refine lv_bipush (v := nI 42) hx hb dX11_isMade_33 (by decide) ?_
          refine lv_iload_n hx hb dX11_isMade_35 rfl (lv_at hl 1 rfl) ?_
          refine jn_iadd hx hb dX11_isMade_36 ?_
          refine jn_iald (f := σ.2.1 0) hx hb hK.1 hP 1 0 (gM1 g σ tl) rfl (by omega) (Nat.le_of_ble_eq_true rfl) dX11_isMade_37 ?_
          refine jn_cne hx hb (by omega) (by omega) (tgt := 43) dX11_isMade_38 (by decide) (fun c_38 => ?_) (fun c_38 => ?_)
          · have hlt : pd < (σ.2.1 0) (42 + l2) := by omega
            obtain ⟨p1, p2, p3, p4⟩ := hLn.2.2 pd hlt
            have ha9 : a < 10 := by omega
            have hb9 : b < 10 := by omega
            have hc9 : c2 < 10 := by omega
            have hms := md_step (l := l2) hlt ha9 hb9 hc9 p1 p2 p3
            have hmf := md_fuel (l := l2) (d := 13) hlt ha9 hb9 hc9 p1 p2 p3 p4 (hd ha9 hb9 hc9)
            refine lv_bipush (v := nI 50) hx hb dX11_isMade_43 (by decide) ?_
            refine lv_bipush (v := nI 9) hx hb dX11_isMade_45 (by decide) ?_
            refine lv_iload_n hx hb dX11_isMade_47 rfl (lv_at hl 1 rfl) ?_
            refine jn_imul hx hb dX11_isMade_48 ?_
            refine jn_iadd hx hb dX11_isMade_49 ?_
            refine lv_iconst (v := nI 3) hx hb dX11_isMade_50 (by decide) ?_
            refine lv_iload_n hx hb dX11_isMade_51 rfl (lv_at hl 2 rfl) ?_
            refine jn_imul hx hb dX11_isMade_52 ?_
            refine jn_iadd hx hb dX11_isMade_53 ?_
            refine lv_istore (lv' := [(6, .int (nI ((50 + (9 * l2)) + (3 * pd)))), (0, .ref (g.2.2.2 0)), (1, .int (nI l2)), (2, .int (nI pd)), (3, .int (nI a)), (4, .int (nI b)), (5, .int (nI c2))]) hx hb dX11_isMade_54 hl (by decide) rfl (fun ls hl => ?_)
            refine lv_aload_n hx hb dX11_isMade_56 rfl (lv_at hl 1 rfl) ?_
            refine lv_iload_n hx hb dX11_isMade_57 rfl (lv_at hl 2 rfl) ?_
            refine lv_iload_n hx hb dX11_isMade_58 rfl (lv_at hl 3 rfl) ?_
            refine lv_iconst (v := nI 1) hx hb dX11_isMade_59 (by decide) ?_
            refine jn_iadd hx hb dX11_isMade_60 ?_
            refine lv_iload_n hx hb dX11_isMade_61 rfl (lv_at hl 4 rfl) ?_
            refine lv_iload hx hb dX11_isMade_62 (lv_at hl 5 rfl) ?_
            refine lv_iload hx hb dX11_isMade_64 (lv_at hl 6 rfl) ?_
            refine vp_callSi (va_Run.run (va_runV (As := [.int (nI l2), .int (nI (pd + 1)), .int (nI a), .int (nI b), .int (nI c2)]) (rest := []) ⟨hx, hb, hml, hown, hts⟩ (c_X11_isMade_d13 l g tl σ l2 (pd + 1) a b c2 hl8 hLn (by omega) ha hb2 hc (fun h1 h2 h3 => by have := hd h1 h2 h3; omega)) (cwV 5 hts gX11_isMade_X11_isMade rfl rfl rfl (by decide +kernel) ⟨Nat.le_of_ble_eq_true rfl, Nat.le_of_ble_eq_true rfl⟩) (okPV hK hP rfl (gM0 g σ tl)) rfl rfl hl.1 rfl (lv_room (Nat.le_of_ble_eq_true rfl)) dX11_isMade_66 ⟨Nat.le_of_ble_eq_true rfl, Nat.le_of_ble_eq_true rfl⟩)) (fun r_66 h_66 => ?_)
            subst h_66
            refine jn_bne hx hb (tgt := 114) dX11_isMade_69 (by decide) (fun c_69 => ?_) (fun c_69 => ?_)
            · refine lv_iconst (v := nI 1) hx hb dX11_isMade_114 (by decide) ?_
              refine lv_goto (tgt := 119) hx hb dX11_isMade_115 (by decide) ?_
              exact hq _ _ ((nI 1)) dX11_isMade_119 jn_n1 (by first | exact n_if1 (hms.mpr (Or.inl c_69)) | exact n_if1 (hms.mpr (Or.inr c_111)) | exact n_if0 (fun q => (hms.mp q).elim c_69 c_111))
            · refine lv_aload_n hx hb dX11_isMade_72 rfl (lv_at hl 1 rfl) ?_
              refine lv_iload_n hx hb dX11_isMade_73 rfl (lv_at hl 2 rfl) ?_
              refine lv_iload_n hx hb dX11_isMade_74 rfl (lv_at hl 3 rfl) ?_
              refine lv_iload_n hx hb dX11_isMade_75 rfl (lv_at hl 4 rfl) ?_
              refine lv_aload_n hx hb dX11_isMade_76 rfl (lv_at hl 1 rfl) ?_
              refine va_get (D := (g.1, g.2.1)) (ci := 13) (v := .ref (g.2.2.2 1)) (C := RX11) (T := TX11) (N := 30) hx hb hts iX11 hown hK.1 hP 0 (gM0 g σ tl) rfl 1 (by decide) k13 (fun _ h9 => h9) rfl dX11_isMade_77 ?_
              refine lv_iload hx hb dX11_isMade_80 (lv_at hl 0 rfl) ?_
              refine jn_iald (f := σ.2.1 0) hx hb hK.1 hP 1 0 (gM1 g σ tl) rfl (by omega) (Nat.le_of_ble_eq_true rfl) dX11_isMade_82 ?_
              refine jn_isubB hx hb (by omega) dX11_isMade_83 ?_
              refine lv_iload hx hb dX11_isMade_84 (lv_at hl 5 rfl) ?_
              refine lv_aload_n hx hb dX11_isMade_86 rfl (lv_at hl 1 rfl) ?_
              refine va_get (D := (g.1, g.2.1)) (ci := 13) (v := .ref (g.2.2.2 1)) (C := RX11) (T := TX11) (N := 30) hx hb hts iX11 hown hK.1 hP 0 (gM0 g σ tl) rfl 1 (by decide) k13 (fun _ h9 => h9) rfl dX11_isMade_87 ?_
              refine lv_iload hx hb dX11_isMade_90 (lv_at hl 0 rfl) ?_
              refine lv_iconst (v := nI 1) hx hb dX11_isMade_92 (by decide) ?_
              refine jn_iadd hx hb dX11_isMade_93 ?_
              refine jn_iald (f := σ.2.1 0) hx hb hK.1 hP 1 0 (gM1 g σ tl) rfl (by omega) (Nat.le_of_ble_eq_true rfl) dX11_isMade_94 ?_
              refine jn_isubB hx hb (by omega) dX11_isMade_95 ?_
              refine lv_iload hx hb dX11_isMade_96 (lv_at hl 6 rfl) ?_
              refine lv_aload_n hx hb dX11_isMade_98 rfl (lv_at hl 1 rfl) ?_
              refine va_get (D := (g.1, g.2.1)) (ci := 13) (v := .ref (g.2.2.2 1)) (C := RX11) (T := TX11) (N := 30) hx hb hts iX11 hown hK.1 hP 0 (gM0 g σ tl) rfl 1 (by decide) k13 (fun _ h9 => h9) rfl dX11_isMade_99 ?_
              refine lv_iload hx hb dX11_isMade_102 (lv_at hl 0 rfl) ?_
              refine lv_iconst (v := nI 2) hx hb dX11_isMade_104 (by decide) ?_
              refine jn_iadd hx hb dX11_isMade_105 ?_
              refine jn_iald (f := σ.2.1 0) hx hb hK.1 hP 1 0 (gM1 g σ tl) rfl (by omega) (Nat.le_of_ble_eq_true rfl) dX11_isMade_106 ?_
              refine jn_isubB hx hb (by omega) dX11_isMade_107 ?_
              refine vp_callSi (va_Run.run (va_runV (As := [.int (nI l2), .int (nI pd), .int (nI (sb a ((σ.2.1 0) ((50 + (9 * l2)) + (3 * pd))))), .int (nI (sb b ((σ.2.1 0) (((50 + (9 * l2)) + (3 * pd)) + 1)))), .int (nI (sb c2 ((σ.2.1 0) (((50 + (9 * l2)) + (3 * pd)) + 2))))]) (rest := []) ⟨hx, hb, hml, hown, hts⟩ (c_X11_isMade_d13 l g tl σ l2 pd (sb a ((σ.2.1 0) ((50 + (9 * l2)) + (3 * pd)))) (sb b ((σ.2.1 0) (((50 + (9 * l2)) + (3 * pd)) + 1))) (sb c2 ((σ.2.1 0) (((50 + (9 * l2)) + (3 * pd)) + 2))) hl8 hLn hpd (sb_or ha9 p1) (sb_or hb9 p2) (sb_or hc9 p3) hmf) (cwV 5 hts gX11_isMade_X11_isMade rfl rfl rfl (by decide +kernel) ⟨Nat.le_of_ble_eq_true rfl, Nat.le_of_ble_eq_true rfl⟩) (okPV hK hP rfl (gM0 g σ tl)) rfl rfl hl.1 rfl (lv_room (Nat.le_of_ble_eq_true rfl)) dX11_isMade_108 ⟨Nat.le_of_ble_eq_true rfl, Nat.le_of_ble_eq_true rfl⟩)) (fun r_108 h_108 => ?_)
              subst h_108
              refine jn_beq hx hb (tgt := 118) dX11_isMade_111 (by decide) (fun c_111 => ?_) (fun c_111 => ?_)
              · refine lv_iconst (v := nI 0) hx hb dX11_isMade_118 (by decide) ?_
                exact hq _ _ ((nI 0)) dX11_isMade_119 jn_n0 (by first | exact n_if1 (hms.mpr (Or.inl c_69)) | exact n_if1 (hms.mpr (Or.inr c_111)) | exact n_if0 (fun q => (hms.mp q).elim c_69 c_111))
              · refine lv_iconst (v := nI 1) hx hb dX11_isMade_114 (by decide) ?_
                refine lv_goto (tgt := 119) hx hb dX11_isMade_115 (by decide) ?_
                exact hq _ _ ((nI 1)) dX11_isMade_119 jn_n1 (by first | exact n_if1 (hms.mpr (Or.inl c_69)) | exact n_if1 (hms.mpr (Or.inr c_111)) | exact n_if0 (fun q => (hms.mp q).elim c_69 c_111))
          · refine lv_iconst (v := nI 0) hx hb dX11_isMade_41 (by decide) ?_
            exact hq _ _ ((nI 0)) dX11_isMade_42 jn_n0 (n_if0 (fun q => by have q4 := cB_iff.mp q.2.2.2; rw [show (σ.2.1 0) (42 + l2) - pd = 0 by omega] at q4; obtain ⟨q5, q6, q7⟩ := q4; omega))
        · have ea : a = 0 := by omega
          have eb : b = 0 := by omega
          have ec : c2 = 0 := by omega
          refine lv_iconst (v := nI 1) hx hb dX11_isMade_26 (by decide) ?_
          exact hq _ _ ((nI 1)) dX11_isMade_27 jn_n1 (n_if1 ⟨by omega, by omega, by omega, cB_iff.mpr (by rw [ea, eb, ec]; exact md_0 _ _ _ _)⟩)
      · refine lv_iconst (v := nI 0) hx hb dX11_isMade_14 (by decide) ?_
        exact hq _ _ ((nI 0)) dX11_isMade_15 jn_n0 (n_if0 (fun q => by have q1 := q.1; have q2 := q.2.1; have q3 := q.2.2.1; omega))

abbrev r_c_X11_isMade_d15 : Room := { frames := 15, cells := 0, slots := 0, locals := 390 }
set_option maxHeartbeats 4000000 in
set_option maxRecDepth 100000 in
theorem c_X11_isMade_d15 (l : Launch) (g : GC) (tl : va_W) (σ : SS) (l2 pd a b c2 : Nat) (hl8 : l2 < 8) (hLn : Ln (σ.2.1 0) l2) (hpd : pd ≤ (σ.2.1 0) (42 + l2)) (ha : a < 10 ∨ (2147483648 ≤ a ∧ a < 4294967296)) (hb2 : b < 10 ∨ (2147483648 ≤ b ∧ b < 4294967296)) (hc : c2 < 10 ∨ (2147483648 ≤ c2 ∧ c2 < 4294967296)) (hd : a < 10 → b < 10 → c2 < 10 → (σ.2.1 0) (42 + l2) - pd + (a + b + c2) ≤ 15) : Met l yX11_isMade wsX11_isMade r_c_X11_isMade_d15 (va_Pc [.ref (g.2.2.2 0), .int (nI l2), .int (nI pd), .int (nI a), .int (nI b), .int (nI c2)] (PP g (wM g σ ++ tl))) (vp_Si (fun r => r = nI (if mdQ (σ.2.1 0) l2 ((σ.2.1 0) (42 + l2) - pd) pd a b c2 then 1 else 0))) 0 0 (fun _ => False) := by
  refine jn_pz (cc := cX11_isMade) (maxL := 7) (own := RX11) (by decide) rfl rfl (Nat.le_of_ble_eq_true rfl) ?_
  intro p e s m below meth c Q hx hb hml hown hts ⟨hP, hK⟩ hq ls hl
  have hl : lv_has ls 7 [(0, .ref (g.2.2.2 0)), (1, .int (nI l2)), (2, .int (nI pd)), (3, .int (nI a)), (4, .int (nI b)), (5, .int (nI c2))] := hl
  have iX11 : ∀ w ∈ wsX110, w ∈ wsX11_isMade := by decide +kernel
  have k13 := hts (.fieldLink RX11 13 "JumpingAutomataModel" "now" "[I") (by decide +kernel)
  have hH3 := hLn.2.1
  refine lv_iload_n hx hb dX11_isMade_0 rfl (lv_at hl 3 rfl) ?_
  refine jn_zlt hx hb (by omega) (tgt := 14) dX11_isMade_1 (by decide) (fun c_1 => ?_) (fun c_1 => ?_)
  · refine lv_iconst (v := nI 0) hx hb dX11_isMade_14 (by decide) ?_
    exact hq _ _ ((nI 0)) dX11_isMade_15 jn_n0 (n_if0 (fun q => by have q1 := q.1; have q2 := q.2.1; have q3 := q.2.2.1; omega))
  · refine lv_iload hx hb dX11_isMade_4 (lv_at hl 4 rfl) ?_
    refine jn_zlt hx hb (by omega) (tgt := 14) dX11_isMade_6 (by decide) (fun c_6 => ?_) (fun c_6 => ?_)
    · refine lv_iconst (v := nI 0) hx hb dX11_isMade_14 (by decide) ?_
      exact hq _ _ ((nI 0)) dX11_isMade_15 jn_n0 (n_if0 (fun q => by have q1 := q.1; have q2 := q.2.1; have q3 := q.2.2.1; omega))
    · refine lv_iload hx hb dX11_isMade_9 (lv_at hl 5 rfl) ?_
      refine jn_zge hx hb (by omega) (tgt := 16) dX11_isMade_11 (by decide) (fun c_11 => ?_) (fun c_11 => ?_)
      · refine lv_iload_n hx hb dX11_isMade_16 rfl (lv_at hl 3 rfl) ?_
        refine lv_iload hx hb dX11_isMade_17 (lv_at hl 4 rfl) ?_
        refine jn_iadd hx hb dX11_isMade_19 ?_
        refine lv_iload hx hb dX11_isMade_20 (lv_at hl 5 rfl) ?_
        refine jn_iadd hx hb dX11_isMade_22 ?_
        refine jn_zne hx hb (by omega) (tgt := 28) dX11_isMade_23 (by decide) (fun c_23 => ?_) (fun c_23 => ?_)
        · refine lv_iload_n hx hb dX11_isMade_28 rfl (lv_at hl 2 rfl) ?_
          refine lv_aload_n hx hb dX11_isMade_29 rfl (lv_at hl 0 rfl) ?_
          refine va_get (D := (g.1, g.2.1)) (ci := 13) (v := .ref (g.2.2.2 1)) (C := RX11) (T := TX11) (N := 30) hx hb hts iX11 hown hK.1 hP 0 (gM0 g σ tl) rfl 1 (by decide) k13 (fun _ h9 => h9) rfl dX11_isMade_30 ?_
          refine lv_bipush (v := nI 42) hx hb dX11_isMade_33 (by decide) ?_
          refine lv_iload_n hx hb dX11_isMade_35 rfl (lv_at hl 1 rfl) ?_
          refine jn_iadd hx hb dX11_isMade_36 ?_
          refine jn_iald (f := σ.2.1 0) hx hb hK.1 hP 1 0 (gM1 g σ tl) rfl (by omega) (Nat.le_of_ble_eq_true rfl) dX11_isMade_37 ?_
          refine jn_cne hx hb (by omega) (by omega) (tgt := 43) dX11_isMade_38 (by decide) (fun c_38 => ?_) (fun c_38 => ?_)
          · have hlt : pd < (σ.2.1 0) (42 + l2) := by omega
            obtain ⟨p1, p2, p3, p4⟩ := hLn.2.2 pd hlt
            have ha9 : a < 10 := by omega
            have hb9 : b < 10 := by omega
            have hc9 : c2 < 10 := by omega
            have hms := md_step (l := l2) hlt ha9 hb9 hc9 p1 p2 p3
            have hmf := md_fuel (l := l2) (d := 14) hlt ha9 hb9 hc9 p1 p2 p3 p4 (hd ha9 hb9 hc9)
            refine lv_bipush (v := nI 50) hx hb dX11_isMade_43 (by decide) ?_
            refine lv_bipush (v := nI 9) hx hb dX11_isMade_45 (by decide) ?_
            refine lv_iload_n hx hb dX11_isMade_47 rfl (lv_at hl 1 rfl) ?_
            refine jn_imul hx hb dX11_isMade_48 ?_
            refine jn_iadd hx hb dX11_isMade_49 ?_
            refine lv_iconst (v := nI 3) hx hb dX11_isMade_50 (by decide) ?_
            refine lv_iload_n hx hb dX11_isMade_51 rfl (lv_at hl 2 rfl) ?_
            refine jn_imul hx hb dX11_isMade_52 ?_
            refine jn_iadd hx hb dX11_isMade_53 ?_
            refine lv_istore (lv' := [(6, .int (nI ((50 + (9 * l2)) + (3 * pd)))), (0, .ref (g.2.2.2 0)), (1, .int (nI l2)), (2, .int (nI pd)), (3, .int (nI a)), (4, .int (nI b)), (5, .int (nI c2))]) hx hb dX11_isMade_54 hl (by decide) rfl (fun ls hl => ?_)
            refine lv_aload_n hx hb dX11_isMade_56 rfl (lv_at hl 1 rfl) ?_
            refine lv_iload_n hx hb dX11_isMade_57 rfl (lv_at hl 2 rfl) ?_
            refine lv_iload_n hx hb dX11_isMade_58 rfl (lv_at hl 3 rfl) ?_
            refine lv_iconst (v := nI 1) hx hb dX11_isMade_59 (by decide) ?_
            refine jn_iadd hx hb dX11_isMade_60 ?_
            refine lv_iload_n hx hb dX11_isMade_61 rfl (lv_at hl 4 rfl) ?_
            refine lv_iload hx hb dX11_isMade_62 (lv_at hl 5 rfl) ?_
            refine lv_iload hx hb dX11_isMade_64 (lv_at hl 6 rfl) ?_
            refine vp_callSi (va_Run.run (va_runV (As := [.int (nI l2), .int (nI (pd + 1)), .int (nI a), .int (nI b), .int (nI c2)]) (rest := []) ⟨hx, hb, hml, hown, hts⟩ (c_X11_isMade_d14 l g tl σ l2 (pd + 1) a b c2 hl8 hLn (by omega) ha hb2 hc (fun h1 h2 h3 => by have := hd h1 h2 h3; omega)) (cwV 5 hts gX11_isMade_X11_isMade rfl rfl rfl (by decide +kernel) ⟨Nat.le_of_ble_eq_true rfl, Nat.le_of_ble_eq_true rfl⟩) (okPV hK hP rfl (gM0 g σ tl)) rfl rfl hl.1 rfl (lv_room (Nat.le_of_ble_eq_true rfl)) dX11_isMade_66 ⟨Nat.le_of_ble_eq_true rfl, Nat.le_of_ble_eq_true rfl⟩)) (fun r_66 h_66 => ?_)
            subst h_66
            refine jn_bne hx hb (tgt := 114) dX11_isMade_69 (by decide) (fun c_69 => ?_) (fun c_69 => ?_)
            · refine lv_iconst (v := nI 1) hx hb dX11_isMade_114 (by decide) ?_
              refine lv_goto (tgt := 119) hx hb dX11_isMade_115 (by decide) ?_
              exact hq _ _ ((nI 1)) dX11_isMade_119 jn_n1 (by first | exact n_if1 (hms.mpr (Or.inl c_69)) | exact n_if1 (hms.mpr (Or.inr c_111)) | exact n_if0 (fun q => (hms.mp q).elim c_69 c_111))
            · refine lv_aload_n hx hb dX11_isMade_72 rfl (lv_at hl 1 rfl) ?_
              refine lv_iload_n hx hb dX11_isMade_73 rfl (lv_at hl 2 rfl) ?_
              refine lv_iload_n hx hb dX11_isMade_74 rfl (lv_at hl 3 rfl) ?_
              refine lv_iload_n hx hb dX11_isMade_75 rfl (lv_at hl 4 rfl) ?_
              refine lv_aload_n hx hb dX11_isMade_76 rfl (lv_at hl 1 rfl) ?_
              refine va_get (D := (g.1, g.2.1)) (ci := 13) (v := .ref (g.2.2.2 1)) (C := RX11) (T := TX11) (N := 30) hx hb hts iX11 hown hK.1 hP 0 (gM0 g σ tl) rfl 1 (by decide) k13 (fun _ h9 => h9) rfl dX11_isMade_77 ?_
              refine lv_iload hx hb dX11_isMade_80 (lv_at hl 0 rfl) ?_
              refine jn_iald (f := σ.2.1 0) hx hb hK.1 hP 1 0 (gM1 g σ tl) rfl (by omega) (Nat.le_of_ble_eq_true rfl) dX11_isMade_82 ?_
              refine jn_isubB hx hb (by omega) dX11_isMade_83 ?_
              refine lv_iload hx hb dX11_isMade_84 (lv_at hl 5 rfl) ?_
              refine lv_aload_n hx hb dX11_isMade_86 rfl (lv_at hl 1 rfl) ?_
              refine va_get (D := (g.1, g.2.1)) (ci := 13) (v := .ref (g.2.2.2 1)) (C := RX11) (T := TX11) (N := 30) hx hb hts iX11 hown hK.1 hP 0 (gM0 g σ tl) rfl 1 (by decide) k13 (fun _ h9 => h9) rfl dX11_isMade_87 ?_
              refine lv_iload hx hb dX11_isMade_90 (lv_at hl 0 rfl) ?_
              refine lv_iconst (v := nI 1) hx hb dX11_isMade_92 (by decide) ?_
              refine jn_iadd hx hb dX11_isMade_93 ?_
              refine jn_iald (f := σ.2.1 0) hx hb hK.1 hP 1 0 (gM1 g σ tl) rfl (by omega) (Nat.le_of_ble_eq_true rfl) dX11_isMade_94 ?_
              refine jn_isubB hx hb (by omega) dX11_isMade_95 ?_
              refine lv_iload hx hb dX11_isMade_96 (lv_at hl 6 rfl) ?_
              refine lv_aload_n hx hb dX11_isMade_98 rfl (lv_at hl 1 rfl) ?_
              refine va_get (D := (g.1, g.2.1)) (ci := 13) (v := .ref (g.2.2.2 1)) (C := RX11) (T := TX11) (N := 30) hx hb hts iX11 hown hK.1 hP 0 (gM0 g σ tl) rfl 1 (by decide) k13 (fun _ h9 => h9) rfl dX11_isMade_99 ?_
              refine lv_iload hx hb dX11_isMade_102 (lv_at hl 0 rfl) ?_
              refine lv_iconst (v := nI 2) hx hb dX11_isMade_104 (by decide) ?_
              refine jn_iadd hx hb dX11_isMade_105 ?_
              refine jn_iald (f := σ.2.1 0) hx hb hK.1 hP 1 0 (gM1 g σ tl) rfl (by omega) (Nat.le_of_ble_eq_true rfl) dX11_isMade_106 ?_
              refine jn_isubB hx hb (by omega) dX11_isMade_107 ?_
              refine vp_callSi (va_Run.run (va_runV (As := [.int (nI l2), .int (nI pd), .int (nI (sb a ((σ.2.1 0) ((50 + (9 * l2)) + (3 * pd))))), .int (nI (sb b ((σ.2.1 0) (((50 + (9 * l2)) + (3 * pd)) + 1)))), .int (nI (sb c2 ((σ.2.1 0) (((50 + (9 * l2)) + (3 * pd)) + 2))))]) (rest := []) ⟨hx, hb, hml, hown, hts⟩ (c_X11_isMade_d14 l g tl σ l2 pd (sb a ((σ.2.1 0) ((50 + (9 * l2)) + (3 * pd)))) (sb b ((σ.2.1 0) (((50 + (9 * l2)) + (3 * pd)) + 1))) (sb c2 ((σ.2.1 0) (((50 + (9 * l2)) + (3 * pd)) + 2))) hl8 hLn hpd (sb_or ha9 p1) (sb_or hb9 p2) (sb_or hc9 p3) hmf) (cwV 5 hts gX11_isMade_X11_isMade rfl rfl rfl (by decide +kernel) ⟨Nat.le_of_ble_eq_true rfl, Nat.le_of_ble_eq_true rfl⟩) (okPV hK hP rfl (gM0 g σ tl)) rfl rfl hl.1 rfl (lv_room (Nat.le_of_ble_eq_true rfl)) dX11_isMade_108 ⟨Nat.le_of_ble_eq_true rfl, Nat.le_of_ble_eq_true rfl⟩)) (fun r_108 h_108 => ?_)
              subst h_108
              refine jn_beq hx hb (tgt := 118) dX11_isMade_111 (by decide) (fun c_111 => ?_) (fun c_111 => ?_)
              · refine lv_iconst (v := nI 0) hx hb dX11_isMade_118 (by decide) ?_
                exact hq _ _ ((nI 0)) dX11_isMade_119 jn_n0 (by first | exact n_if1 (hms.mpr (Or.inl c_69)) | exact n_if1 (hms.mpr (Or.inr c_111)) | exact n_if0 (fun q => (hms.mp q).elim c_69 c_111))
              · refine lv_iconst (v := nI 1) hx hb dX11_isMade_114 (by decide) ?_
                refine lv_goto (tgt := 119) hx hb dX11_isMade_115 (by decide) ?_
                exact hq _ _ ((nI 1)) dX11_isMade_119 jn_n1 (by first | exact n_if1 (hms.mpr (Or.inl c_69)) | exact n_if1 (hms.mpr (Or.inr c_111)) | exact n_if0 (fun q => (hms.mp q).elim c_69 c_111))
          · refine lv_iconst (v := nI 0) hx hb dX11_isMade_41 (by decide) ?_
            exact hq _ _ ((nI 0)) dX11_isMade_42 jn_n0 (n_if0 (fun q => by have q4 := cB_iff.mp q.2.2.2; rw [show (σ.2.1 0) (42 + l2) - pd = 0 by omega] at q4; obtain ⟨q5, q6, q7⟩ := q4; omega))
        · have ea : a = 0 := by omega
          have eb : b = 0 := by omega
          have ec : c2 = 0 := by omega
          refine lv_iconst (v := nI 1) hx hb dX11_isMade_26 (by decide) ?_
          exact hq _ _ ((nI 1)) dX11_isMade_27 jn_n1 (n_if1 ⟨by omega, by omega, by omega, cB_iff.mpr (by rw [ea, eb, ec]; exact md_0 _ _ _ _)⟩)
      · refine lv_iconst (v := nI 0) hx hb dX11_isMade_14 (by decide) ?_
        exact hq _ _ ((nI 0)) dX11_isMade_15 jn_n0 (n_if0 (fun q => by have q1 := q.1; have q2 := q.2.1; have q3 := q.2.2.1; omega))

abbrev r_c_X11_isMade_d16 : Room := { frames := 16, cells := 0, slots := 0, locals := 416 }
set_option maxHeartbeats 4000000 in
set_option maxRecDepth 100000 in
theorem c_X11_isMade_d16 (l : Launch) (g : GC) (tl : va_W) (σ : SS) (l2 pd a b c2 : Nat) (hl8 : l2 < 8) (hLn : Ln (σ.2.1 0) l2) (hpd : pd ≤ (σ.2.1 0) (42 + l2)) (ha : a < 10 ∨ (2147483648 ≤ a ∧ a < 4294967296)) (hb2 : b < 10 ∨ (2147483648 ≤ b ∧ b < 4294967296)) (hc : c2 < 10 ∨ (2147483648 ≤ c2 ∧ c2 < 4294967296)) (hd : a < 10 → b < 10 → c2 < 10 → (σ.2.1 0) (42 + l2) - pd + (a + b + c2) ≤ 16) : Met l yX11_isMade wsX11_isMade r_c_X11_isMade_d16 (va_Pc [.ref (g.2.2.2 0), .int (nI l2), .int (nI pd), .int (nI a), .int (nI b), .int (nI c2)] (PP g (wM g σ ++ tl))) (vp_Si (fun r => r = nI (if mdQ (σ.2.1 0) l2 ((σ.2.1 0) (42 + l2) - pd) pd a b c2 then 1 else 0))) 0 0 (fun _ => False) := by
  refine jn_pz (cc := cX11_isMade) (maxL := 7) (own := RX11) (by decide) rfl rfl (Nat.le_of_ble_eq_true rfl) ?_
  intro p e s m below meth c Q hx hb hml hown hts ⟨hP, hK⟩ hq ls hl
  have hl : lv_has ls 7 [(0, .ref (g.2.2.2 0)), (1, .int (nI l2)), (2, .int (nI pd)), (3, .int (nI a)), (4, .int (nI b)), (5, .int (nI c2))] := hl
  have iX11 : ∀ w ∈ wsX110, w ∈ wsX11_isMade := by decide +kernel
  have k13 := hts (.fieldLink RX11 13 "JumpingAutomataModel" "now" "[I") (by decide +kernel)
  have hH3 := hLn.2.1
  refine lv_iload_n hx hb dX11_isMade_0 rfl (lv_at hl 3 rfl) ?_
  refine jn_zlt hx hb (by omega) (tgt := 14) dX11_isMade_1 (by decide) (fun c_1 => ?_) (fun c_1 => ?_)
  · refine lv_iconst (v := nI 0) hx hb dX11_isMade_14 (by decide) ?_
    exact hq _ _ ((nI 0)) dX11_isMade_15 jn_n0 (n_if0 (fun q => by have q1 := q.1; have q2 := q.2.1; have q3 := q.2.2.1; omega))
  · refine lv_iload hx hb dX11_isMade_4 (lv_at hl 4 rfl) ?_
    refine jn_zlt hx hb (by omega) (tgt := 14) dX11_isMade_6 (by decide) (fun c_6 => ?_) (fun c_6 => ?_)
    · refine lv_iconst (v := nI 0) hx hb dX11_isMade_14 (by decide) ?_
      exact hq _ _ ((nI 0)) dX11_isMade_15 jn_n0 (n_if0 (fun q => by have q1 := q.1; have q2 := q.2.1; have q3 := q.2.2.1; omega))
    · refine lv_iload hx hb dX11_isMade_9 (lv_at hl 5 rfl) ?_
      refine jn_zge hx hb (by omega) (tgt := 16) dX11_isMade_11 (by decide) (fun c_11 => ?_) (fun c_11 => ?_)
      · refine lv_iload_n hx hb dX11_isMade_16 rfl (lv_at hl 3 rfl) ?_
        refine lv_iload hx hb dX11_isMade_17 (lv_at hl 4 rfl) ?_
        refine jn_iadd hx hb dX11_isMade_19 ?_
        refine lv_iload hx hb dX11_isMade_20 (lv_at hl 5 rfl) ?_
        refine jn_iadd hx hb dX11_isMade_22 ?_
        refine jn_zne hx hb (by omega) (tgt := 28) dX11_isMade_23 (by decide) (fun c_23 => ?_) (fun c_23 => ?_)
        · refine lv_iload_n hx hb dX11_isMade_28 rfl (lv_at hl 2 rfl) ?_
          refine lv_aload_n hx hb dX11_isMade_29 rfl (lv_at hl 0 rfl) ?_
          refine va_get (D := (g.1, g.2.1)) (ci := 13) (v := .ref (g.2.2.2 1)) (C := RX11) (T := TX11) (N := 30) hx hb hts iX11 hown hK.1 hP 0 (gM0 g σ tl) rfl 1 (by decide) k13 (fun _ h9 => h9) rfl dX11_isMade_30 ?_
          refine lv_bipush (v := nI 42) hx hb dX11_isMade_33 (by decide) ?_
          refine lv_iload_n hx hb dX11_isMade_35 rfl (lv_at hl 1 rfl) ?_
          refine jn_iadd hx hb dX11_isMade_36 ?_
          refine jn_iald (f := σ.2.1 0) hx hb hK.1 hP 1 0 (gM1 g σ tl) rfl (by omega) (Nat.le_of_ble_eq_true rfl) dX11_isMade_37 ?_
          refine jn_cne hx hb (by omega) (by omega) (tgt := 43) dX11_isMade_38 (by decide) (fun c_38 => ?_) (fun c_38 => ?_)
          · have hlt : pd < (σ.2.1 0) (42 + l2) := by omega
            obtain ⟨p1, p2, p3, p4⟩ := hLn.2.2 pd hlt
            have ha9 : a < 10 := by omega
            have hb9 : b < 10 := by omega
            have hc9 : c2 < 10 := by omega
            have hms := md_step (l := l2) hlt ha9 hb9 hc9 p1 p2 p3
            have hmf := md_fuel (l := l2) (d := 15) hlt ha9 hb9 hc9 p1 p2 p3 p4 (hd ha9 hb9 hc9)
            refine lv_bipush (v := nI 50) hx hb dX11_isMade_43 (by decide) ?_
            refine lv_bipush (v := nI 9) hx hb dX11_isMade_45 (by decide) ?_
            refine lv_iload_n hx hb dX11_isMade_47 rfl (lv_at hl 1 rfl) ?_
            refine jn_imul hx hb dX11_isMade_48 ?_
            refine jn_iadd hx hb dX11_isMade_49 ?_
            refine lv_iconst (v := nI 3) hx hb dX11_isMade_50 (by decide) ?_
            refine lv_iload_n hx hb dX11_isMade_51 rfl (lv_at hl 2 rfl) ?_
            refine jn_imul hx hb dX11_isMade_52 ?_
            refine jn_iadd hx hb dX11_isMade_53 ?_
            refine lv_istore (lv' := [(6, .int (nI ((50 + (9 * l2)) + (3 * pd)))), (0, .ref (g.2.2.2 0)), (1, .int (nI l2)), (2, .int (nI pd)), (3, .int (nI a)), (4, .int (nI b)), (5, .int (nI c2))]) hx hb dX11_isMade_54 hl (by decide) rfl (fun ls hl => ?_)
            refine lv_aload_n hx hb dX11_isMade_56 rfl (lv_at hl 1 rfl) ?_
            refine lv_iload_n hx hb dX11_isMade_57 rfl (lv_at hl 2 rfl) ?_
            refine lv_iload_n hx hb dX11_isMade_58 rfl (lv_at hl 3 rfl) ?_
            refine lv_iconst (v := nI 1) hx hb dX11_isMade_59 (by decide) ?_
            refine jn_iadd hx hb dX11_isMade_60 ?_
            refine lv_iload_n hx hb dX11_isMade_61 rfl (lv_at hl 4 rfl) ?_
            refine lv_iload hx hb dX11_isMade_62 (lv_at hl 5 rfl) ?_
            refine lv_iload hx hb dX11_isMade_64 (lv_at hl 6 rfl) ?_
            refine vp_callSi (va_Run.run (va_runV (As := [.int (nI l2), .int (nI (pd + 1)), .int (nI a), .int (nI b), .int (nI c2)]) (rest := []) ⟨hx, hb, hml, hown, hts⟩ (c_X11_isMade_d15 l g tl σ l2 (pd + 1) a b c2 hl8 hLn (by omega) ha hb2 hc (fun h1 h2 h3 => by have := hd h1 h2 h3; omega)) (cwV 5 hts gX11_isMade_X11_isMade rfl rfl rfl (by decide +kernel) ⟨Nat.le_of_ble_eq_true rfl, Nat.le_of_ble_eq_true rfl⟩) (okPV hK hP rfl (gM0 g σ tl)) rfl rfl hl.1 rfl (lv_room (Nat.le_of_ble_eq_true rfl)) dX11_isMade_66 ⟨Nat.le_of_ble_eq_true rfl, Nat.le_of_ble_eq_true rfl⟩)) (fun r_66 h_66 => ?_)
            subst h_66
            refine jn_bne hx hb (tgt := 114) dX11_isMade_69 (by decide) (fun c_69 => ?_) (fun c_69 => ?_)
            · refine lv_iconst (v := nI 1) hx hb dX11_isMade_114 (by decide) ?_
              refine lv_goto (tgt := 119) hx hb dX11_isMade_115 (by decide) ?_
              exact hq _ _ ((nI 1)) dX11_isMade_119 jn_n1 (by first | exact n_if1 (hms.mpr (Or.inl c_69)) | exact n_if1 (hms.mpr (Or.inr c_111)) | exact n_if0 (fun q => (hms.mp q).elim c_69 c_111))
            · refine lv_aload_n hx hb dX11_isMade_72 rfl (lv_at hl 1 rfl) ?_
              refine lv_iload_n hx hb dX11_isMade_73 rfl (lv_at hl 2 rfl) ?_
              refine lv_iload_n hx hb dX11_isMade_74 rfl (lv_at hl 3 rfl) ?_
              refine lv_iload_n hx hb dX11_isMade_75 rfl (lv_at hl 4 rfl) ?_
              refine lv_aload_n hx hb dX11_isMade_76 rfl (lv_at hl 1 rfl) ?_
              refine va_get (D := (g.1, g.2.1)) (ci := 13) (v := .ref (g.2.2.2 1)) (C := RX11) (T := TX11) (N := 30) hx hb hts iX11 hown hK.1 hP 0 (gM0 g σ tl) rfl 1 (by decide) k13 (fun _ h9 => h9) rfl dX11_isMade_77 ?_
              refine lv_iload hx hb dX11_isMade_80 (lv_at hl 0 rfl) ?_
              refine jn_iald (f := σ.2.1 0) hx hb hK.1 hP 1 0 (gM1 g σ tl) rfl (by omega) (Nat.le_of_ble_eq_true rfl) dX11_isMade_82 ?_
              refine jn_isubB hx hb (by omega) dX11_isMade_83 ?_
              refine lv_iload hx hb dX11_isMade_84 (lv_at hl 5 rfl) ?_
              refine lv_aload_n hx hb dX11_isMade_86 rfl (lv_at hl 1 rfl) ?_
              refine va_get (D := (g.1, g.2.1)) (ci := 13) (v := .ref (g.2.2.2 1)) (C := RX11) (T := TX11) (N := 30) hx hb hts iX11 hown hK.1 hP 0 (gM0 g σ tl) rfl 1 (by decide) k13 (fun _ h9 => h9) rfl dX11_isMade_87 ?_
              refine lv_iload hx hb dX11_isMade_90 (lv_at hl 0 rfl) ?_
              refine lv_iconst (v := nI 1) hx hb dX11_isMade_92 (by decide) ?_
              refine jn_iadd hx hb dX11_isMade_93 ?_
              refine jn_iald (f := σ.2.1 0) hx hb hK.1 hP 1 0 (gM1 g σ tl) rfl (by omega) (Nat.le_of_ble_eq_true rfl) dX11_isMade_94 ?_
              refine jn_isubB hx hb (by omega) dX11_isMade_95 ?_
              refine lv_iload hx hb dX11_isMade_96 (lv_at hl 6 rfl) ?_
              refine lv_aload_n hx hb dX11_isMade_98 rfl (lv_at hl 1 rfl) ?_
              refine va_get (D := (g.1, g.2.1)) (ci := 13) (v := .ref (g.2.2.2 1)) (C := RX11) (T := TX11) (N := 30) hx hb hts iX11 hown hK.1 hP 0 (gM0 g σ tl) rfl 1 (by decide) k13 (fun _ h9 => h9) rfl dX11_isMade_99 ?_
              refine lv_iload hx hb dX11_isMade_102 (lv_at hl 0 rfl) ?_
              refine lv_iconst (v := nI 2) hx hb dX11_isMade_104 (by decide) ?_
              refine jn_iadd hx hb dX11_isMade_105 ?_
              refine jn_iald (f := σ.2.1 0) hx hb hK.1 hP 1 0 (gM1 g σ tl) rfl (by omega) (Nat.le_of_ble_eq_true rfl) dX11_isMade_106 ?_
              refine jn_isubB hx hb (by omega) dX11_isMade_107 ?_
              refine vp_callSi (va_Run.run (va_runV (As := [.int (nI l2), .int (nI pd), .int (nI (sb a ((σ.2.1 0) ((50 + (9 * l2)) + (3 * pd))))), .int (nI (sb b ((σ.2.1 0) (((50 + (9 * l2)) + (3 * pd)) + 1)))), .int (nI (sb c2 ((σ.2.1 0) (((50 + (9 * l2)) + (3 * pd)) + 2))))]) (rest := []) ⟨hx, hb, hml, hown, hts⟩ (c_X11_isMade_d15 l g tl σ l2 pd (sb a ((σ.2.1 0) ((50 + (9 * l2)) + (3 * pd)))) (sb b ((σ.2.1 0) (((50 + (9 * l2)) + (3 * pd)) + 1))) (sb c2 ((σ.2.1 0) (((50 + (9 * l2)) + (3 * pd)) + 2))) hl8 hLn hpd (sb_or ha9 p1) (sb_or hb9 p2) (sb_or hc9 p3) hmf) (cwV 5 hts gX11_isMade_X11_isMade rfl rfl rfl (by decide +kernel) ⟨Nat.le_of_ble_eq_true rfl, Nat.le_of_ble_eq_true rfl⟩) (okPV hK hP rfl (gM0 g σ tl)) rfl rfl hl.1 rfl (lv_room (Nat.le_of_ble_eq_true rfl)) dX11_isMade_108 ⟨Nat.le_of_ble_eq_true rfl, Nat.le_of_ble_eq_true rfl⟩)) (fun r_108 h_108 => ?_)
              subst h_108
              refine jn_beq hx hb (tgt := 118) dX11_isMade_111 (by decide) (fun c_111 => ?_) (fun c_111 => ?_)
              · refine lv_iconst (v := nI 0) hx hb dX11_isMade_118 (by decide) ?_
                exact hq _ _ ((nI 0)) dX11_isMade_119 jn_n0 (by first | exact n_if1 (hms.mpr (Or.inl c_69)) | exact n_if1 (hms.mpr (Or.inr c_111)) | exact n_if0 (fun q => (hms.mp q).elim c_69 c_111))
              · refine lv_iconst (v := nI 1) hx hb dX11_isMade_114 (by decide) ?_
                refine lv_goto (tgt := 119) hx hb dX11_isMade_115 (by decide) ?_
                exact hq _ _ ((nI 1)) dX11_isMade_119 jn_n1 (by first | exact n_if1 (hms.mpr (Or.inl c_69)) | exact n_if1 (hms.mpr (Or.inr c_111)) | exact n_if0 (fun q => (hms.mp q).elim c_69 c_111))
          · refine lv_iconst (v := nI 0) hx hb dX11_isMade_41 (by decide) ?_
            exact hq _ _ ((nI 0)) dX11_isMade_42 jn_n0 (n_if0 (fun q => by have q4 := cB_iff.mp q.2.2.2; rw [show (σ.2.1 0) (42 + l2) - pd = 0 by omega] at q4; obtain ⟨q5, q6, q7⟩ := q4; omega))
        · have ea : a = 0 := by omega
          have eb : b = 0 := by omega
          have ec : c2 = 0 := by omega
          refine lv_iconst (v := nI 1) hx hb dX11_isMade_26 (by decide) ?_
          exact hq _ _ ((nI 1)) dX11_isMade_27 jn_n1 (n_if1 ⟨by omega, by omega, by omega, cB_iff.mpr (by rw [ea, eb, ec]; exact md_0 _ _ _ _)⟩)
      · refine lv_iconst (v := nI 0) hx hb dX11_isMade_14 (by decide) ?_
        exact hq _ _ ((nI 0)) dX11_isMade_15 jn_n0 (n_if0 (fun q => by have q1 := q.1; have q2 := q.2.1; have q3 := q.2.2.1; omega))

abbrev r_c_X11_isMade_d17 : Room := { frames := 17, cells := 0, slots := 0, locals := 442 }
set_option maxHeartbeats 4000000 in
set_option maxRecDepth 100000 in
theorem c_X11_isMade_d17 (l : Launch) (g : GC) (tl : va_W) (σ : SS) (l2 pd a b c2 : Nat) (hl8 : l2 < 8) (hLn : Ln (σ.2.1 0) l2) (hpd : pd ≤ (σ.2.1 0) (42 + l2)) (ha : a < 10 ∨ (2147483648 ≤ a ∧ a < 4294967296)) (hb2 : b < 10 ∨ (2147483648 ≤ b ∧ b < 4294967296)) (hc : c2 < 10 ∨ (2147483648 ≤ c2 ∧ c2 < 4294967296)) (hd : a < 10 → b < 10 → c2 < 10 → (σ.2.1 0) (42 + l2) - pd + (a + b + c2) ≤ 17) : Met l yX11_isMade wsX11_isMade r_c_X11_isMade_d17 (va_Pc [.ref (g.2.2.2 0), .int (nI l2), .int (nI pd), .int (nI a), .int (nI b), .int (nI c2)] (PP g (wM g σ ++ tl))) (vp_Si (fun r => r = nI (if mdQ (σ.2.1 0) l2 ((σ.2.1 0) (42 + l2) - pd) pd a b c2 then 1 else 0))) 0 0 (fun _ => False) := by
  refine jn_pz (cc := cX11_isMade) (maxL := 7) (own := RX11) (by decide) rfl rfl (Nat.le_of_ble_eq_true rfl) ?_
  intro p e s m below meth c Q hx hb hml hown hts ⟨hP, hK⟩ hq ls hl
  have hl : lv_has ls 7 [(0, .ref (g.2.2.2 0)), (1, .int (nI l2)), (2, .int (nI pd)), (3, .int (nI a)), (4, .int (nI b)), (5, .int (nI c2))] := hl
  have iX11 : ∀ w ∈ wsX110, w ∈ wsX11_isMade := by decide +kernel
  have k13 := hts (.fieldLink RX11 13 "JumpingAutomataModel" "now" "[I") (by decide +kernel)
  have hH3 := hLn.2.1
  refine lv_iload_n hx hb dX11_isMade_0 rfl (lv_at hl 3 rfl) ?_
  refine jn_zlt hx hb (by omega) (tgt := 14) dX11_isMade_1 (by decide) (fun c_1 => ?_) (fun c_1 => ?_)
  · refine lv_iconst (v := nI 0) hx hb dX11_isMade_14 (by decide) ?_
    exact hq _ _ ((nI 0)) dX11_isMade_15 jn_n0 (n_if0 (fun q => by have q1 := q.1; have q2 := q.2.1; have q3 := q.2.2.1; omega))
  · refine lv_iload hx hb dX11_isMade_4 (lv_at hl 4 rfl) ?_
    refine jn_zlt hx hb (by omega) (tgt := 14) dX11_isMade_6 (by decide) (fun c_6 => ?_) (fun c_6 => ?_)
    · refine lv_iconst (v := nI 0) hx hb dX11_isMade_14 (by decide) ?_
      exact hq _ _ ((nI 0)) dX11_isMade_15 jn_n0 (n_if0 (fun q => by have q1 := q.1; have q2 := q.2.1; have q3 := q.2.2.1; omega))
    · refine lv_iload hx hb dX11_isMade_9 (lv_at hl 5 rfl) ?_
      refine jn_zge hx hb (by omega) (tgt := 16) dX11_isMade_11 (by decide) (fun c_11 => ?_) (fun c_11 => ?_)
      · refine lv_iload_n hx hb dX11_isMade_16 rfl (lv_at hl 3 rfl) ?_
        refine lv_iload hx hb dX11_isMade_17 (lv_at hl 4 rfl) ?_
        refine jn_iadd hx hb dX11_isMade_19 ?_
        refine lv_iload hx hb dX11_isMade_20 (lv_at hl 5 rfl) ?_
        refine jn_iadd hx hb dX11_isMade_22 ?_
        refine jn_zne hx hb (by omega) (tgt := 28) dX11_isMade_23 (by decide) (fun c_23 => ?_) (fun c_23 => ?_)
        · refine lv_iload_n hx hb dX11_isMade_28 rfl (lv_at hl 2 rfl) ?_
          refine lv_aload_n hx hb dX11_isMade_29 rfl (lv_at hl 0 rfl) ?_
          refine va_get (D := (g.1, g.2.1)) (ci := 13) (v := .ref (g.2.2.2 1)) (C := RX11) (T := TX11) (N := 30) hx hb hts iX11 hown hK.1 hP 0 (gM0 g σ tl) rfl 1 (by decide) k13 (fun _ h9 => h9) rfl dX11_isMade_30 ?_
          refine lv_bipush (v := nI 42) hx hb dX11_isMade_33 (by decide) ?_
          refine lv_iload_n hx hb dX11_isMade_35 rfl (lv_at hl 1 rfl) ?_
          refine jn_iadd hx hb dX11_isMade_36 ?_
          refine jn_iald (f := σ.2.1 0) hx hb hK.1 hP 1 0 (gM1 g σ tl) rfl (by omega) (Nat.le_of_ble_eq_true rfl) dX11_isMade_37 ?_
          refine jn_cne hx hb (by omega) (by omega) (tgt := 43) dX11_isMade_38 (by decide) (fun c_38 => ?_) (fun c_38 => ?_)
          · have hlt : pd < (σ.2.1 0) (42 + l2) := by omega
            obtain ⟨p1, p2, p3, p4⟩ := hLn.2.2 pd hlt
            have ha9 : a < 10 := by omega
            have hb9 : b < 10 := by omega
            have hc9 : c2 < 10 := by omega
            have hms := md_step (l := l2) hlt ha9 hb9 hc9 p1 p2 p3
            have hmf := md_fuel (l := l2) (d := 16) hlt ha9 hb9 hc9 p1 p2 p3 p4 (hd ha9 hb9 hc9)
            refine lv_bipush (v := nI 50) hx hb dX11_isMade_43 (by decide) ?_
            refine lv_bipush (v := nI 9) hx hb dX11_isMade_45 (by decide) ?_
            refine lv_iload_n hx hb dX11_isMade_47 rfl (lv_at hl 1 rfl) ?_
            refine jn_imul hx hb dX11_isMade_48 ?_
            refine jn_iadd hx hb dX11_isMade_49 ?_
            refine lv_iconst (v := nI 3) hx hb dX11_isMade_50 (by decide) ?_
            refine lv_iload_n hx hb dX11_isMade_51 rfl (lv_at hl 2 rfl) ?_
            refine jn_imul hx hb dX11_isMade_52 ?_
            refine jn_iadd hx hb dX11_isMade_53 ?_
            refine lv_istore (lv' := [(6, .int (nI ((50 + (9 * l2)) + (3 * pd)))), (0, .ref (g.2.2.2 0)), (1, .int (nI l2)), (2, .int (nI pd)), (3, .int (nI a)), (4, .int (nI b)), (5, .int (nI c2))]) hx hb dX11_isMade_54 hl (by decide) rfl (fun ls hl => ?_)
            refine lv_aload_n hx hb dX11_isMade_56 rfl (lv_at hl 1 rfl) ?_
            refine lv_iload_n hx hb dX11_isMade_57 rfl (lv_at hl 2 rfl) ?_
            refine lv_iload_n hx hb dX11_isMade_58 rfl (lv_at hl 3 rfl) ?_
            refine lv_iconst (v := nI 1) hx hb dX11_isMade_59 (by decide) ?_
            refine jn_iadd hx hb dX11_isMade_60 ?_
            refine lv_iload_n hx hb dX11_isMade_61 rfl (lv_at hl 4 rfl) ?_
            refine lv_iload hx hb dX11_isMade_62 (lv_at hl 5 rfl) ?_
            refine lv_iload hx hb dX11_isMade_64 (lv_at hl 6 rfl) ?_
            refine vp_callSi (va_Run.run (va_runV (As := [.int (nI l2), .int (nI (pd + 1)), .int (nI a), .int (nI b), .int (nI c2)]) (rest := []) ⟨hx, hb, hml, hown, hts⟩ (c_X11_isMade_d16 l g tl σ l2 (pd + 1) a b c2 hl8 hLn (by omega) ha hb2 hc (fun h1 h2 h3 => by have := hd h1 h2 h3; omega)) (cwV 5 hts gX11_isMade_X11_isMade rfl rfl rfl (by decide +kernel) ⟨Nat.le_of_ble_eq_true rfl, Nat.le_of_ble_eq_true rfl⟩) (okPV hK hP rfl (gM0 g σ tl)) rfl rfl hl.1 rfl (lv_room (Nat.le_of_ble_eq_true rfl)) dX11_isMade_66 ⟨Nat.le_of_ble_eq_true rfl, Nat.le_of_ble_eq_true rfl⟩)) (fun r_66 h_66 => ?_)
            subst h_66
            refine jn_bne hx hb (tgt := 114) dX11_isMade_69 (by decide) (fun c_69 => ?_) (fun c_69 => ?_)
            · refine lv_iconst (v := nI 1) hx hb dX11_isMade_114 (by decide) ?_
              refine lv_goto (tgt := 119) hx hb dX11_isMade_115 (by decide) ?_
              exact hq _ _ ((nI 1)) dX11_isMade_119 jn_n1 (by first | exact n_if1 (hms.mpr (Or.inl c_69)) | exact n_if1 (hms.mpr (Or.inr c_111)) | exact n_if0 (fun q => (hms.mp q).elim c_69 c_111))
            · refine lv_aload_n hx hb dX11_isMade_72 rfl (lv_at hl 1 rfl) ?_
              refine lv_iload_n hx hb dX11_isMade_73 rfl (lv_at hl 2 rfl) ?_
              refine lv_iload_n hx hb dX11_isMade_74 rfl (lv_at hl 3 rfl) ?_
              refine lv_iload_n hx hb dX11_isMade_75 rfl (lv_at hl 4 rfl) ?_
              refine lv_aload_n hx hb dX11_isMade_76 rfl (lv_at hl 1 rfl) ?_
              refine va_get (D := (g.1, g.2.1)) (ci := 13) (v := .ref (g.2.2.2 1)) (C := RX11) (T := TX11) (N := 30) hx hb hts iX11 hown hK.1 hP 0 (gM0 g σ tl) rfl 1 (by decide) k13 (fun _ h9 => h9) rfl dX11_isMade_77 ?_
              refine lv_iload hx hb dX11_isMade_80 (lv_at hl 0 rfl) ?_
              refine jn_iald (f := σ.2.1 0) hx hb hK.1 hP 1 0 (gM1 g σ tl) rfl (by omega) (Nat.le_of_ble_eq_true rfl) dX11_isMade_82 ?_
              refine jn_isubB hx hb (by omega) dX11_isMade_83 ?_
              refine lv_iload hx hb dX11_isMade_84 (lv_at hl 5 rfl) ?_
              refine lv_aload_n hx hb dX11_isMade_86 rfl (lv_at hl 1 rfl) ?_
              refine va_get (D := (g.1, g.2.1)) (ci := 13) (v := .ref (g.2.2.2 1)) (C := RX11) (T := TX11) (N := 30) hx hb hts iX11 hown hK.1 hP 0 (gM0 g σ tl) rfl 1 (by decide) k13 (fun _ h9 => h9) rfl dX11_isMade_87 ?_
              refine lv_iload hx hb dX11_isMade_90 (lv_at hl 0 rfl) ?_
              refine lv_iconst (v := nI 1) hx hb dX11_isMade_92 (by decide) ?_
              refine jn_iadd hx hb dX11_isMade_93 ?_
              refine jn_iald (f := σ.2.1 0) hx hb hK.1 hP 1 0 (gM1 g σ tl) rfl (by omega) (Nat.le_of_ble_eq_true rfl) dX11_isMade_94 ?_
              refine jn_isubB hx hb (by omega) dX11_isMade_95 ?_
              refine lv_iload hx hb dX11_isMade_96 (lv_at hl 6 rfl) ?_
              refine lv_aload_n hx hb dX11_isMade_98 rfl (lv_at hl 1 rfl) ?_
              refine va_get (D := (g.1, g.2.1)) (ci := 13) (v := .ref (g.2.2.2 1)) (C := RX11) (T := TX11) (N := 30) hx hb hts iX11 hown hK.1 hP 0 (gM0 g σ tl) rfl 1 (by decide) k13 (fun _ h9 => h9) rfl dX11_isMade_99 ?_
              refine lv_iload hx hb dX11_isMade_102 (lv_at hl 0 rfl) ?_
              refine lv_iconst (v := nI 2) hx hb dX11_isMade_104 (by decide) ?_
              refine jn_iadd hx hb dX11_isMade_105 ?_
              refine jn_iald (f := σ.2.1 0) hx hb hK.1 hP 1 0 (gM1 g σ tl) rfl (by omega) (Nat.le_of_ble_eq_true rfl) dX11_isMade_106 ?_
              refine jn_isubB hx hb (by omega) dX11_isMade_107 ?_
              refine vp_callSi (va_Run.run (va_runV (As := [.int (nI l2), .int (nI pd), .int (nI (sb a ((σ.2.1 0) ((50 + (9 * l2)) + (3 * pd))))), .int (nI (sb b ((σ.2.1 0) (((50 + (9 * l2)) + (3 * pd)) + 1)))), .int (nI (sb c2 ((σ.2.1 0) (((50 + (9 * l2)) + (3 * pd)) + 2))))]) (rest := []) ⟨hx, hb, hml, hown, hts⟩ (c_X11_isMade_d16 l g tl σ l2 pd (sb a ((σ.2.1 0) ((50 + (9 * l2)) + (3 * pd)))) (sb b ((σ.2.1 0) (((50 + (9 * l2)) + (3 * pd)) + 1))) (sb c2 ((σ.2.1 0) (((50 + (9 * l2)) + (3 * pd)) + 2))) hl8 hLn hpd (sb_or ha9 p1) (sb_or hb9 p2) (sb_or hc9 p3) hmf) (cwV 5 hts gX11_isMade_X11_isMade rfl rfl rfl (by decide +kernel) ⟨Nat.le_of_ble_eq_true rfl, Nat.le_of_ble_eq_true rfl⟩) (okPV hK hP rfl (gM0 g σ tl)) rfl rfl hl.1 rfl (lv_room (Nat.le_of_ble_eq_true rfl)) dX11_isMade_108 ⟨Nat.le_of_ble_eq_true rfl, Nat.le_of_ble_eq_true rfl⟩)) (fun r_108 h_108 => ?_)
              subst h_108
              refine jn_beq hx hb (tgt := 118) dX11_isMade_111 (by decide) (fun c_111 => ?_) (fun c_111 => ?_)
              · refine lv_iconst (v := nI 0) hx hb dX11_isMade_118 (by decide) ?_
                exact hq _ _ ((nI 0)) dX11_isMade_119 jn_n0 (by first | exact n_if1 (hms.mpr (Or.inl c_69)) | exact n_if1 (hms.mpr (Or.inr c_111)) | exact n_if0 (fun q => (hms.mp q).elim c_69 c_111))
              · refine lv_iconst (v := nI 1) hx hb dX11_isMade_114 (by decide) ?_
                refine lv_goto (tgt := 119) hx hb dX11_isMade_115 (by decide) ?_
                exact hq _ _ ((nI 1)) dX11_isMade_119 jn_n1 (by first | exact n_if1 (hms.mpr (Or.inl c_69)) | exact n_if1 (hms.mpr (Or.inr c_111)) | exact n_if0 (fun q => (hms.mp q).elim c_69 c_111))
          · refine lv_iconst (v := nI 0) hx hb dX11_isMade_41 (by decide) ?_
            exact hq _ _ ((nI 0)) dX11_isMade_42 jn_n0 (n_if0 (fun q => by have q4 := cB_iff.mp q.2.2.2; rw [show (σ.2.1 0) (42 + l2) - pd = 0 by omega] at q4; obtain ⟨q5, q6, q7⟩ := q4; omega))
        · have ea : a = 0 := by omega
          have eb : b = 0 := by omega
          have ec : c2 = 0 := by omega
          refine lv_iconst (v := nI 1) hx hb dX11_isMade_26 (by decide) ?_
          exact hq _ _ ((nI 1)) dX11_isMade_27 jn_n1 (n_if1 ⟨by omega, by omega, by omega, cB_iff.mpr (by rw [ea, eb, ec]; exact md_0 _ _ _ _)⟩)
      · refine lv_iconst (v := nI 0) hx hb dX11_isMade_14 (by decide) ?_
        exact hq _ _ ((nI 0)) dX11_isMade_15 jn_n0 (n_if0 (fun q => by have q1 := q.1; have q2 := q.2.1; have q3 := q.2.2.1; omega))

abbrev r_c_X11_isMade_d18 : Room := { frames := 18, cells := 0, slots := 0, locals := 468 }
set_option maxHeartbeats 4000000 in
set_option maxRecDepth 100000 in
theorem c_X11_isMade_d18 (l : Launch) (g : GC) (tl : va_W) (σ : SS) (l2 pd a b c2 : Nat) (hl8 : l2 < 8) (hLn : Ln (σ.2.1 0) l2) (hpd : pd ≤ (σ.2.1 0) (42 + l2)) (ha : a < 10 ∨ (2147483648 ≤ a ∧ a < 4294967296)) (hb2 : b < 10 ∨ (2147483648 ≤ b ∧ b < 4294967296)) (hc : c2 < 10 ∨ (2147483648 ≤ c2 ∧ c2 < 4294967296)) (hd : a < 10 → b < 10 → c2 < 10 → (σ.2.1 0) (42 + l2) - pd + (a + b + c2) ≤ 18) : Met l yX11_isMade wsX11_isMade r_c_X11_isMade_d18 (va_Pc [.ref (g.2.2.2 0), .int (nI l2), .int (nI pd), .int (nI a), .int (nI b), .int (nI c2)] (PP g (wM g σ ++ tl))) (vp_Si (fun r => r = nI (if mdQ (σ.2.1 0) l2 ((σ.2.1 0) (42 + l2) - pd) pd a b c2 then 1 else 0))) 0 0 (fun _ => False) := by
  refine jn_pz (cc := cX11_isMade) (maxL := 7) (own := RX11) (by decide) rfl rfl (Nat.le_of_ble_eq_true rfl) ?_
  intro p e s m below meth c Q hx hb hml hown hts ⟨hP, hK⟩ hq ls hl
  have hl : lv_has ls 7 [(0, .ref (g.2.2.2 0)), (1, .int (nI l2)), (2, .int (nI pd)), (3, .int (nI a)), (4, .int (nI b)), (5, .int (nI c2))] := hl
  have iX11 : ∀ w ∈ wsX110, w ∈ wsX11_isMade := by decide +kernel
  have k13 := hts (.fieldLink RX11 13 "JumpingAutomataModel" "now" "[I") (by decide +kernel)
  have hH3 := hLn.2.1
  refine lv_iload_n hx hb dX11_isMade_0 rfl (lv_at hl 3 rfl) ?_
  refine jn_zlt hx hb (by omega) (tgt := 14) dX11_isMade_1 (by decide) (fun c_1 => ?_) (fun c_1 => ?_)
  · refine lv_iconst (v := nI 0) hx hb dX11_isMade_14 (by decide) ?_
    exact hq _ _ ((nI 0)) dX11_isMade_15 jn_n0 (n_if0 (fun q => by have q1 := q.1; have q2 := q.2.1; have q3 := q.2.2.1; omega))
  · refine lv_iload hx hb dX11_isMade_4 (lv_at hl 4 rfl) ?_
    refine jn_zlt hx hb (by omega) (tgt := 14) dX11_isMade_6 (by decide) (fun c_6 => ?_) (fun c_6 => ?_)
    · refine lv_iconst (v := nI 0) hx hb dX11_isMade_14 (by decide) ?_
      exact hq _ _ ((nI 0)) dX11_isMade_15 jn_n0 (n_if0 (fun q => by have q1 := q.1; have q2 := q.2.1; have q3 := q.2.2.1; omega))
    · refine lv_iload hx hb dX11_isMade_9 (lv_at hl 5 rfl) ?_
      refine jn_zge hx hb (by omega) (tgt := 16) dX11_isMade_11 (by decide) (fun c_11 => ?_) (fun c_11 => ?_)
      · refine lv_iload_n hx hb dX11_isMade_16 rfl (lv_at hl 3 rfl) ?_
        refine lv_iload hx hb dX11_isMade_17 (lv_at hl 4 rfl) ?_
        refine jn_iadd hx hb dX11_isMade_19 ?_
        refine lv_iload hx hb dX11_isMade_20 (lv_at hl 5 rfl) ?_
        refine jn_iadd hx hb dX11_isMade_22 ?_
        refine jn_zne hx hb (by omega) (tgt := 28) dX11_isMade_23 (by decide) (fun c_23 => ?_) (fun c_23 => ?_)
        · refine lv_iload_n hx hb dX11_isMade_28 rfl (lv_at hl 2 rfl) ?_
          refine lv_aload_n hx hb dX11_isMade_29 rfl (lv_at hl 0 rfl) ?_
          refine va_get (D := (g.1, g.2.1)) (ci := 13) (v := .ref (g.2.2.2 1)) (C := RX11) (T := TX11) (N := 30) hx hb hts iX11 hown hK.1 hP 0 (gM0 g σ tl) rfl 1 (by decide) k13 (fun _ h9 => h9) rfl dX11_isMade_30 ?_
          refine lv_bipush (v := nI 42) hx hb dX11_isMade_33 (by decide) ?_
          refine lv_iload_n hx hb dX11_isMade_35 rfl (lv_at hl 1 rfl) ?_
          refine jn_iadd hx hb dX11_isMade_36 ?_
          refine jn_iald (f := σ.2.1 0) hx hb hK.1 hP 1 0 (gM1 g σ tl) rfl (by omega) (Nat.le_of_ble_eq_true rfl) dX11_isMade_37 ?_
          refine jn_cne hx hb (by omega) (by omega) (tgt := 43) dX11_isMade_38 (by decide) (fun c_38 => ?_) (fun c_38 => ?_)
          · have hlt : pd < (σ.2.1 0) (42 + l2) := by omega
            obtain ⟨p1, p2, p3, p4⟩ := hLn.2.2 pd hlt
            have ha9 : a < 10 := by omega
            have hb9 : b < 10 := by omega
            have hc9 : c2 < 10 := by omega
            have hms := md_step (l := l2) hlt ha9 hb9 hc9 p1 p2 p3
            have hmf := md_fuel (l := l2) (d := 17) hlt ha9 hb9 hc9 p1 p2 p3 p4 (hd ha9 hb9 hc9)
            refine lv_bipush (v := nI 50) hx hb dX11_isMade_43 (by decide) ?_
            refine lv_bipush (v := nI 9) hx hb dX11_isMade_45 (by decide) ?_
            refine lv_iload_n hx hb dX11_isMade_47 rfl (lv_at hl 1 rfl) ?_
            refine jn_imul hx hb dX11_isMade_48 ?_
            refine jn_iadd hx hb dX11_isMade_49 ?_
            refine lv_iconst (v := nI 3) hx hb dX11_isMade_50 (by decide) ?_
            refine lv_iload_n hx hb dX11_isMade_51 rfl (lv_at hl 2 rfl) ?_
            refine jn_imul hx hb dX11_isMade_52 ?_
            refine jn_iadd hx hb dX11_isMade_53 ?_
            refine lv_istore (lv' := [(6, .int (nI ((50 + (9 * l2)) + (3 * pd)))), (0, .ref (g.2.2.2 0)), (1, .int (nI l2)), (2, .int (nI pd)), (3, .int (nI a)), (4, .int (nI b)), (5, .int (nI c2))]) hx hb dX11_isMade_54 hl (by decide) rfl (fun ls hl => ?_)
            refine lv_aload_n hx hb dX11_isMade_56 rfl (lv_at hl 1 rfl) ?_
            refine lv_iload_n hx hb dX11_isMade_57 rfl (lv_at hl 2 rfl) ?_
            refine lv_iload_n hx hb dX11_isMade_58 rfl (lv_at hl 3 rfl) ?_
            refine lv_iconst (v := nI 1) hx hb dX11_isMade_59 (by decide) ?_
            refine jn_iadd hx hb dX11_isMade_60 ?_
            refine lv_iload_n hx hb dX11_isMade_61 rfl (lv_at hl 4 rfl) ?_
            refine lv_iload hx hb dX11_isMade_62 (lv_at hl 5 rfl) ?_
            refine lv_iload hx hb dX11_isMade_64 (lv_at hl 6 rfl) ?_
            refine vp_callSi (va_Run.run (va_runV (As := [.int (nI l2), .int (nI (pd + 1)), .int (nI a), .int (nI b), .int (nI c2)]) (rest := []) ⟨hx, hb, hml, hown, hts⟩ (c_X11_isMade_d17 l g tl σ l2 (pd + 1) a b c2 hl8 hLn (by omega) ha hb2 hc (fun h1 h2 h3 => by have := hd h1 h2 h3; omega)) (cwV 5 hts gX11_isMade_X11_isMade rfl rfl rfl (by decide +kernel) ⟨Nat.le_of_ble_eq_true rfl, Nat.le_of_ble_eq_true rfl⟩) (okPV hK hP rfl (gM0 g σ tl)) rfl rfl hl.1 rfl (lv_room (Nat.le_of_ble_eq_true rfl)) dX11_isMade_66 ⟨Nat.le_of_ble_eq_true rfl, Nat.le_of_ble_eq_true rfl⟩)) (fun r_66 h_66 => ?_)
            subst h_66
            refine jn_bne hx hb (tgt := 114) dX11_isMade_69 (by decide) (fun c_69 => ?_) (fun c_69 => ?_)
            · refine lv_iconst (v := nI 1) hx hb dX11_isMade_114 (by decide) ?_
              refine lv_goto (tgt := 119) hx hb dX11_isMade_115 (by decide) ?_
              exact hq _ _ ((nI 1)) dX11_isMade_119 jn_n1 (by first | exact n_if1 (hms.mpr (Or.inl c_69)) | exact n_if1 (hms.mpr (Or.inr c_111)) | exact n_if0 (fun q => (hms.mp q).elim c_69 c_111))
            · refine lv_aload_n hx hb dX11_isMade_72 rfl (lv_at hl 1 rfl) ?_
              refine lv_iload_n hx hb dX11_isMade_73 rfl (lv_at hl 2 rfl) ?_
              refine lv_iload_n hx hb dX11_isMade_74 rfl (lv_at hl 3 rfl) ?_
              refine lv_iload_n hx hb dX11_isMade_75 rfl (lv_at hl 4 rfl) ?_
              refine lv_aload_n hx hb dX11_isMade_76 rfl (lv_at hl 1 rfl) ?_
              refine va_get (D := (g.1, g.2.1)) (ci := 13) (v := .ref (g.2.2.2 1)) (C := RX11) (T := TX11) (N := 30) hx hb hts iX11 hown hK.1 hP 0 (gM0 g σ tl) rfl 1 (by decide) k13 (fun _ h9 => h9) rfl dX11_isMade_77 ?_
              refine lv_iload hx hb dX11_isMade_80 (lv_at hl 0 rfl) ?_
              refine jn_iald (f := σ.2.1 0) hx hb hK.1 hP 1 0 (gM1 g σ tl) rfl (by omega) (Nat.le_of_ble_eq_true rfl) dX11_isMade_82 ?_
              refine jn_isubB hx hb (by omega) dX11_isMade_83 ?_
              refine lv_iload hx hb dX11_isMade_84 (lv_at hl 5 rfl) ?_
              refine lv_aload_n hx hb dX11_isMade_86 rfl (lv_at hl 1 rfl) ?_
              refine va_get (D := (g.1, g.2.1)) (ci := 13) (v := .ref (g.2.2.2 1)) (C := RX11) (T := TX11) (N := 30) hx hb hts iX11 hown hK.1 hP 0 (gM0 g σ tl) rfl 1 (by decide) k13 (fun _ h9 => h9) rfl dX11_isMade_87 ?_
              refine lv_iload hx hb dX11_isMade_90 (lv_at hl 0 rfl) ?_
              refine lv_iconst (v := nI 1) hx hb dX11_isMade_92 (by decide) ?_
              refine jn_iadd hx hb dX11_isMade_93 ?_
              refine jn_iald (f := σ.2.1 0) hx hb hK.1 hP 1 0 (gM1 g σ tl) rfl (by omega) (Nat.le_of_ble_eq_true rfl) dX11_isMade_94 ?_
              refine jn_isubB hx hb (by omega) dX11_isMade_95 ?_
              refine lv_iload hx hb dX11_isMade_96 (lv_at hl 6 rfl) ?_
              refine lv_aload_n hx hb dX11_isMade_98 rfl (lv_at hl 1 rfl) ?_
              refine va_get (D := (g.1, g.2.1)) (ci := 13) (v := .ref (g.2.2.2 1)) (C := RX11) (T := TX11) (N := 30) hx hb hts iX11 hown hK.1 hP 0 (gM0 g σ tl) rfl 1 (by decide) k13 (fun _ h9 => h9) rfl dX11_isMade_99 ?_
              refine lv_iload hx hb dX11_isMade_102 (lv_at hl 0 rfl) ?_
              refine lv_iconst (v := nI 2) hx hb dX11_isMade_104 (by decide) ?_
              refine jn_iadd hx hb dX11_isMade_105 ?_
              refine jn_iald (f := σ.2.1 0) hx hb hK.1 hP 1 0 (gM1 g σ tl) rfl (by omega) (Nat.le_of_ble_eq_true rfl) dX11_isMade_106 ?_
              refine jn_isubB hx hb (by omega) dX11_isMade_107 ?_
              refine vp_callSi (va_Run.run (va_runV (As := [.int (nI l2), .int (nI pd), .int (nI (sb a ((σ.2.1 0) ((50 + (9 * l2)) + (3 * pd))))), .int (nI (sb b ((σ.2.1 0) (((50 + (9 * l2)) + (3 * pd)) + 1)))), .int (nI (sb c2 ((σ.2.1 0) (((50 + (9 * l2)) + (3 * pd)) + 2))))]) (rest := []) ⟨hx, hb, hml, hown, hts⟩ (c_X11_isMade_d17 l g tl σ l2 pd (sb a ((σ.2.1 0) ((50 + (9 * l2)) + (3 * pd)))) (sb b ((σ.2.1 0) (((50 + (9 * l2)) + (3 * pd)) + 1))) (sb c2 ((σ.2.1 0) (((50 + (9 * l2)) + (3 * pd)) + 2))) hl8 hLn hpd (sb_or ha9 p1) (sb_or hb9 p2) (sb_or hc9 p3) hmf) (cwV 5 hts gX11_isMade_X11_isMade rfl rfl rfl (by decide +kernel) ⟨Nat.le_of_ble_eq_true rfl, Nat.le_of_ble_eq_true rfl⟩) (okPV hK hP rfl (gM0 g σ tl)) rfl rfl hl.1 rfl (lv_room (Nat.le_of_ble_eq_true rfl)) dX11_isMade_108 ⟨Nat.le_of_ble_eq_true rfl, Nat.le_of_ble_eq_true rfl⟩)) (fun r_108 h_108 => ?_)
              subst h_108
              refine jn_beq hx hb (tgt := 118) dX11_isMade_111 (by decide) (fun c_111 => ?_) (fun c_111 => ?_)
              · refine lv_iconst (v := nI 0) hx hb dX11_isMade_118 (by decide) ?_
                exact hq _ _ ((nI 0)) dX11_isMade_119 jn_n0 (by first | exact n_if1 (hms.mpr (Or.inl c_69)) | exact n_if1 (hms.mpr (Or.inr c_111)) | exact n_if0 (fun q => (hms.mp q).elim c_69 c_111))
              · refine lv_iconst (v := nI 1) hx hb dX11_isMade_114 (by decide) ?_
                refine lv_goto (tgt := 119) hx hb dX11_isMade_115 (by decide) ?_
                exact hq _ _ ((nI 1)) dX11_isMade_119 jn_n1 (by first | exact n_if1 (hms.mpr (Or.inl c_69)) | exact n_if1 (hms.mpr (Or.inr c_111)) | exact n_if0 (fun q => (hms.mp q).elim c_69 c_111))
          · refine lv_iconst (v := nI 0) hx hb dX11_isMade_41 (by decide) ?_
            exact hq _ _ ((nI 0)) dX11_isMade_42 jn_n0 (n_if0 (fun q => by have q4 := cB_iff.mp q.2.2.2; rw [show (σ.2.1 0) (42 + l2) - pd = 0 by omega] at q4; obtain ⟨q5, q6, q7⟩ := q4; omega))
        · have ea : a = 0 := by omega
          have eb : b = 0 := by omega
          have ec : c2 = 0 := by omega
          refine lv_iconst (v := nI 1) hx hb dX11_isMade_26 (by decide) ?_
          exact hq _ _ ((nI 1)) dX11_isMade_27 jn_n1 (n_if1 ⟨by omega, by omega, by omega, cB_iff.mpr (by rw [ea, eb, ec]; exact md_0 _ _ _ _)⟩)
      · refine lv_iconst (v := nI 0) hx hb dX11_isMade_14 (by decide) ?_
        exact hq _ _ ((nI 0)) dX11_isMade_15 jn_n0 (n_if0 (fun q => by have q1 := q.1; have q2 := q.2.1; have q3 := q.2.2.1; omega))

abbrev r_c_X11_isMade_d19 : Room := { frames := 19, cells := 0, slots := 0, locals := 494 }
set_option maxHeartbeats 4000000 in
set_option maxRecDepth 100000 in
theorem c_X11_isMade_d19 (l : Launch) (g : GC) (tl : va_W) (σ : SS) (l2 pd a b c2 : Nat) (hl8 : l2 < 8) (hLn : Ln (σ.2.1 0) l2) (hpd : pd ≤ (σ.2.1 0) (42 + l2)) (ha : a < 10 ∨ (2147483648 ≤ a ∧ a < 4294967296)) (hb2 : b < 10 ∨ (2147483648 ≤ b ∧ b < 4294967296)) (hc : c2 < 10 ∨ (2147483648 ≤ c2 ∧ c2 < 4294967296)) (hd : a < 10 → b < 10 → c2 < 10 → (σ.2.1 0) (42 + l2) - pd + (a + b + c2) ≤ 19) : Met l yX11_isMade wsX11_isMade r_c_X11_isMade_d19 (va_Pc [.ref (g.2.2.2 0), .int (nI l2), .int (nI pd), .int (nI a), .int (nI b), .int (nI c2)] (PP g (wM g σ ++ tl))) (vp_Si (fun r => r = nI (if mdQ (σ.2.1 0) l2 ((σ.2.1 0) (42 + l2) - pd) pd a b c2 then 1 else 0))) 0 0 (fun _ => False) := by
  refine jn_pz (cc := cX11_isMade) (maxL := 7) (own := RX11) (by decide) rfl rfl (Nat.le_of_ble_eq_true rfl) ?_
  intro p e s m below meth c Q hx hb hml hown hts ⟨hP, hK⟩ hq ls hl
  have hl : lv_has ls 7 [(0, .ref (g.2.2.2 0)), (1, .int (nI l2)), (2, .int (nI pd)), (3, .int (nI a)), (4, .int (nI b)), (5, .int (nI c2))] := hl
  have iX11 : ∀ w ∈ wsX110, w ∈ wsX11_isMade := by decide +kernel
  have k13 := hts (.fieldLink RX11 13 "JumpingAutomataModel" "now" "[I") (by decide +kernel)
  have hH3 := hLn.2.1
  refine lv_iload_n hx hb dX11_isMade_0 rfl (lv_at hl 3 rfl) ?_
  refine jn_zlt hx hb (by omega) (tgt := 14) dX11_isMade_1 (by decide) (fun c_1 => ?_) (fun c_1 => ?_)
  · refine lv_iconst (v := nI 0) hx hb dX11_isMade_14 (by decide) ?_
    exact hq _ _ ((nI 0)) dX11_isMade_15 jn_n0 (n_if0 (fun q => by have q1 := q.1; have q2 := q.2.1; have q3 := q.2.2.1; omega))
  · refine lv_iload hx hb dX11_isMade_4 (lv_at hl 4 rfl) ?_
    refine jn_zlt hx hb (by omega) (tgt := 14) dX11_isMade_6 (by decide) (fun c_6 => ?_) (fun c_6 => ?_)
    · refine lv_iconst (v := nI 0) hx hb dX11_isMade_14 (by decide) ?_
      exact hq _ _ ((nI 0)) dX11_isMade_15 jn_n0 (n_if0 (fun q => by have q1 := q.1; have q2 := q.2.1; have q3 := q.2.2.1; omega))
    · refine lv_iload hx hb dX11_isMade_9 (lv_at hl 5 rfl) ?_
      refine jn_zge hx hb (by omega) (tgt := 16) dX11_isMade_11 (by decide) (fun c_11 => ?_) (fun c_11 => ?_)
      · refine lv_iload_n hx hb dX11_isMade_16 rfl (lv_at hl 3 rfl) ?_
        refine lv_iload hx hb dX11_isMade_17 (lv_at hl 4 rfl) ?_
        refine jn_iadd hx hb dX11_isMade_19 ?_
        refine lv_iload hx hb dX11_isMade_20 (lv_at hl 5 rfl) ?_
        refine jn_iadd hx hb dX11_isMade_22 ?_
        refine jn_zne hx hb (by omega) (tgt := 28) dX11_isMade_23 (by decide) (fun c_23 => ?_) (fun c_23 => ?_)
        · refine lv_iload_n hx hb dX11_isMade_28 rfl (lv_at hl 2 rfl) ?_
          refine lv_aload_n hx hb dX11_isMade_29 rfl (lv_at hl 0 rfl) ?_
          refine va_get (D := (g.1, g.2.1)) (ci := 13) (v := .ref (g.2.2.2 1)) (C := RX11) (T := TX11) (N := 30) hx hb hts iX11 hown hK.1 hP 0 (gM0 g σ tl) rfl 1 (by decide) k13 (fun _ h9 => h9) rfl dX11_isMade_30 ?_
          refine lv_bipush (v := nI 42) hx hb dX11_isMade_33 (by decide) ?_
          refine lv_iload_n hx hb dX11_isMade_35 rfl (lv_at hl 1 rfl) ?_
          refine jn_iadd hx hb dX11_isMade_36 ?_
          refine jn_iald (f := σ.2.1 0) hx hb hK.1 hP 1 0 (gM1 g σ tl) rfl (by omega) (Nat.le_of_ble_eq_true rfl) dX11_isMade_37 ?_
          refine jn_cne hx hb (by omega) (by omega) (tgt := 43) dX11_isMade_38 (by decide) (fun c_38 => ?_) (fun c_38 => ?_)
          · have hlt : pd < (σ.2.1 0) (42 + l2) := by omega
            obtain ⟨p1, p2, p3, p4⟩ := hLn.2.2 pd hlt
            have ha9 : a < 10 := by omega
            have hb9 : b < 10 := by omega
            have hc9 : c2 < 10 := by omega
            have hms := md_step (l := l2) hlt ha9 hb9 hc9 p1 p2 p3
            have hmf := md_fuel (l := l2) (d := 18) hlt ha9 hb9 hc9 p1 p2 p3 p4 (hd ha9 hb9 hc9)
            refine lv_bipush (v := nI 50) hx hb dX11_isMade_43 (by decide) ?_
            refine lv_bipush (v := nI 9) hx hb dX11_isMade_45 (by decide) ?_
            refine lv_iload_n hx hb dX11_isMade_47 rfl (lv_at hl 1 rfl) ?_
            refine jn_imul hx hb dX11_isMade_48 ?_
            refine jn_iadd hx hb dX11_isMade_49 ?_
            refine lv_iconst (v := nI 3) hx hb dX11_isMade_50 (by decide) ?_
            refine lv_iload_n hx hb dX11_isMade_51 rfl (lv_at hl 2 rfl) ?_
            refine jn_imul hx hb dX11_isMade_52 ?_
            refine jn_iadd hx hb dX11_isMade_53 ?_
            refine lv_istore (lv' := [(6, .int (nI ((50 + (9 * l2)) + (3 * pd)))), (0, .ref (g.2.2.2 0)), (1, .int (nI l2)), (2, .int (nI pd)), (3, .int (nI a)), (4, .int (nI b)), (5, .int (nI c2))]) hx hb dX11_isMade_54 hl (by decide) rfl (fun ls hl => ?_)
            refine lv_aload_n hx hb dX11_isMade_56 rfl (lv_at hl 1 rfl) ?_
            refine lv_iload_n hx hb dX11_isMade_57 rfl (lv_at hl 2 rfl) ?_
            refine lv_iload_n hx hb dX11_isMade_58 rfl (lv_at hl 3 rfl) ?_
            refine lv_iconst (v := nI 1) hx hb dX11_isMade_59 (by decide) ?_
            refine jn_iadd hx hb dX11_isMade_60 ?_
            refine lv_iload_n hx hb dX11_isMade_61 rfl (lv_at hl 4 rfl) ?_
            refine lv_iload hx hb dX11_isMade_62 (lv_at hl 5 rfl) ?_
            refine lv_iload hx hb dX11_isMade_64 (lv_at hl 6 rfl) ?_
            refine vp_callSi (va_Run.run (va_runV (As := [.int (nI l2), .int (nI (pd + 1)), .int (nI a), .int (nI b), .int (nI c2)]) (rest := []) ⟨hx, hb, hml, hown, hts⟩ (c_X11_isMade_d18 l g tl σ l2 (pd + 1) a b c2 hl8 hLn (by omega) ha hb2 hc (fun h1 h2 h3 => by have := hd h1 h2 h3; omega)) (cwV 5 hts gX11_isMade_X11_isMade rfl rfl rfl (by decide +kernel) ⟨Nat.le_of_ble_eq_true rfl, Nat.le_of_ble_eq_true rfl⟩) (okPV hK hP rfl (gM0 g σ tl)) rfl rfl hl.1 rfl (lv_room (Nat.le_of_ble_eq_true rfl)) dX11_isMade_66 ⟨Nat.le_of_ble_eq_true rfl, Nat.le_of_ble_eq_true rfl⟩)) (fun r_66 h_66 => ?_)
            subst h_66
            refine jn_bne hx hb (tgt := 114) dX11_isMade_69 (by decide) (fun c_69 => ?_) (fun c_69 => ?_)
            · refine lv_iconst (v := nI 1) hx hb dX11_isMade_114 (by decide) ?_
              refine lv_goto (tgt := 119) hx hb dX11_isMade_115 (by decide) ?_
              exact hq _ _ ((nI 1)) dX11_isMade_119 jn_n1 (by first | exact n_if1 (hms.mpr (Or.inl c_69)) | exact n_if1 (hms.mpr (Or.inr c_111)) | exact n_if0 (fun q => (hms.mp q).elim c_69 c_111))
            · refine lv_aload_n hx hb dX11_isMade_72 rfl (lv_at hl 1 rfl) ?_
              refine lv_iload_n hx hb dX11_isMade_73 rfl (lv_at hl 2 rfl) ?_
              refine lv_iload_n hx hb dX11_isMade_74 rfl (lv_at hl 3 rfl) ?_
              refine lv_iload_n hx hb dX11_isMade_75 rfl (lv_at hl 4 rfl) ?_
              refine lv_aload_n hx hb dX11_isMade_76 rfl (lv_at hl 1 rfl) ?_
              refine va_get (D := (g.1, g.2.1)) (ci := 13) (v := .ref (g.2.2.2 1)) (C := RX11) (T := TX11) (N := 30) hx hb hts iX11 hown hK.1 hP 0 (gM0 g σ tl) rfl 1 (by decide) k13 (fun _ h9 => h9) rfl dX11_isMade_77 ?_
              refine lv_iload hx hb dX11_isMade_80 (lv_at hl 0 rfl) ?_
              refine jn_iald (f := σ.2.1 0) hx hb hK.1 hP 1 0 (gM1 g σ tl) rfl (by omega) (Nat.le_of_ble_eq_true rfl) dX11_isMade_82 ?_
              refine jn_isubB hx hb (by omega) dX11_isMade_83 ?_
              refine lv_iload hx hb dX11_isMade_84 (lv_at hl 5 rfl) ?_
              refine lv_aload_n hx hb dX11_isMade_86 rfl (lv_at hl 1 rfl) ?_
              refine va_get (D := (g.1, g.2.1)) (ci := 13) (v := .ref (g.2.2.2 1)) (C := RX11) (T := TX11) (N := 30) hx hb hts iX11 hown hK.1 hP 0 (gM0 g σ tl) rfl 1 (by decide) k13 (fun _ h9 => h9) rfl dX11_isMade_87 ?_
              refine lv_iload hx hb dX11_isMade_90 (lv_at hl 0 rfl) ?_
              refine lv_iconst (v := nI 1) hx hb dX11_isMade_92 (by decide) ?_
              refine jn_iadd hx hb dX11_isMade_93 ?_
              refine jn_iald (f := σ.2.1 0) hx hb hK.1 hP 1 0 (gM1 g σ tl) rfl (by omega) (Nat.le_of_ble_eq_true rfl) dX11_isMade_94 ?_
              refine jn_isubB hx hb (by omega) dX11_isMade_95 ?_
              refine lv_iload hx hb dX11_isMade_96 (lv_at hl 6 rfl) ?_
              refine lv_aload_n hx hb dX11_isMade_98 rfl (lv_at hl 1 rfl) ?_
              refine va_get (D := (g.1, g.2.1)) (ci := 13) (v := .ref (g.2.2.2 1)) (C := RX11) (T := TX11) (N := 30) hx hb hts iX11 hown hK.1 hP 0 (gM0 g σ tl) rfl 1 (by decide) k13 (fun _ h9 => h9) rfl dX11_isMade_99 ?_
              refine lv_iload hx hb dX11_isMade_102 (lv_at hl 0 rfl) ?_
              refine lv_iconst (v := nI 2) hx hb dX11_isMade_104 (by decide) ?_
              refine jn_iadd hx hb dX11_isMade_105 ?_
              refine jn_iald (f := σ.2.1 0) hx hb hK.1 hP 1 0 (gM1 g σ tl) rfl (by omega) (Nat.le_of_ble_eq_true rfl) dX11_isMade_106 ?_
              refine jn_isubB hx hb (by omega) dX11_isMade_107 ?_
              refine vp_callSi (va_Run.run (va_runV (As := [.int (nI l2), .int (nI pd), .int (nI (sb a ((σ.2.1 0) ((50 + (9 * l2)) + (3 * pd))))), .int (nI (sb b ((σ.2.1 0) (((50 + (9 * l2)) + (3 * pd)) + 1)))), .int (nI (sb c2 ((σ.2.1 0) (((50 + (9 * l2)) + (3 * pd)) + 2))))]) (rest := []) ⟨hx, hb, hml, hown, hts⟩ (c_X11_isMade_d18 l g tl σ l2 pd (sb a ((σ.2.1 0) ((50 + (9 * l2)) + (3 * pd)))) (sb b ((σ.2.1 0) (((50 + (9 * l2)) + (3 * pd)) + 1))) (sb c2 ((σ.2.1 0) (((50 + (9 * l2)) + (3 * pd)) + 2))) hl8 hLn hpd (sb_or ha9 p1) (sb_or hb9 p2) (sb_or hc9 p3) hmf) (cwV 5 hts gX11_isMade_X11_isMade rfl rfl rfl (by decide +kernel) ⟨Nat.le_of_ble_eq_true rfl, Nat.le_of_ble_eq_true rfl⟩) (okPV hK hP rfl (gM0 g σ tl)) rfl rfl hl.1 rfl (lv_room (Nat.le_of_ble_eq_true rfl)) dX11_isMade_108 ⟨Nat.le_of_ble_eq_true rfl, Nat.le_of_ble_eq_true rfl⟩)) (fun r_108 h_108 => ?_)
              subst h_108
              refine jn_beq hx hb (tgt := 118) dX11_isMade_111 (by decide) (fun c_111 => ?_) (fun c_111 => ?_)
              · refine lv_iconst (v := nI 0) hx hb dX11_isMade_118 (by decide) ?_
                exact hq _ _ ((nI 0)) dX11_isMade_119 jn_n0 (by first | exact n_if1 (hms.mpr (Or.inl c_69)) | exact n_if1 (hms.mpr (Or.inr c_111)) | exact n_if0 (fun q => (hms.mp q).elim c_69 c_111))
              · refine lv_iconst (v := nI 1) hx hb dX11_isMade_114 (by decide) ?_
                refine lv_goto (tgt := 119) hx hb dX11_isMade_115 (by decide) ?_
                exact hq _ _ ((nI 1)) dX11_isMade_119 jn_n1 (by first | exact n_if1 (hms.mpr (Or.inl c_69)) | exact n_if1 (hms.mpr (Or.inr c_111)) | exact n_if0 (fun q => (hms.mp q).elim c_69 c_111))
          · refine lv_iconst (v := nI 0) hx hb dX11_isMade_41 (by decide) ?_
            exact hq _ _ ((nI 0)) dX11_isMade_42 jn_n0 (n_if0 (fun q => by have q4 := cB_iff.mp q.2.2.2; rw [show (σ.2.1 0) (42 + l2) - pd = 0 by omega] at q4; obtain ⟨q5, q6, q7⟩ := q4; omega))
        · have ea : a = 0 := by omega
          have eb : b = 0 := by omega
          have ec : c2 = 0 := by omega
          refine lv_iconst (v := nI 1) hx hb dX11_isMade_26 (by decide) ?_
          exact hq _ _ ((nI 1)) dX11_isMade_27 jn_n1 (n_if1 ⟨by omega, by omega, by omega, cB_iff.mpr (by rw [ea, eb, ec]; exact md_0 _ _ _ _)⟩)
      · refine lv_iconst (v := nI 0) hx hb dX11_isMade_14 (by decide) ?_
        exact hq _ _ ((nI 0)) dX11_isMade_15 jn_n0 (n_if0 (fun q => by have q1 := q.1; have q2 := q.2.1; have q3 := q.2.2.1; omega))

abbrev r_c_X11_isMade_d20 : Room := { frames := 20, cells := 0, slots := 0, locals := 520 }
set_option maxHeartbeats 4000000 in
set_option maxRecDepth 100000 in
theorem c_X11_isMade_d20 (l : Launch) (g : GC) (tl : va_W) (σ : SS) (l2 pd a b c2 : Nat) (hl8 : l2 < 8) (hLn : Ln (σ.2.1 0) l2) (hpd : pd ≤ (σ.2.1 0) (42 + l2)) (ha : a < 10 ∨ (2147483648 ≤ a ∧ a < 4294967296)) (hb2 : b < 10 ∨ (2147483648 ≤ b ∧ b < 4294967296)) (hc : c2 < 10 ∨ (2147483648 ≤ c2 ∧ c2 < 4294967296)) (hd : a < 10 → b < 10 → c2 < 10 → (σ.2.1 0) (42 + l2) - pd + (a + b + c2) ≤ 20) : Met l yX11_isMade wsX11_isMade r_c_X11_isMade_d20 (va_Pc [.ref (g.2.2.2 0), .int (nI l2), .int (nI pd), .int (nI a), .int (nI b), .int (nI c2)] (PP g (wM g σ ++ tl))) (vp_Si (fun r => r = nI (if mdQ (σ.2.1 0) l2 ((σ.2.1 0) (42 + l2) - pd) pd a b c2 then 1 else 0))) 0 0 (fun _ => False) := by
  refine jn_pz (cc := cX11_isMade) (maxL := 7) (own := RX11) (by decide) rfl rfl (Nat.le_of_ble_eq_true rfl) ?_
  intro p e s m below meth c Q hx hb hml hown hts ⟨hP, hK⟩ hq ls hl
  have hl : lv_has ls 7 [(0, .ref (g.2.2.2 0)), (1, .int (nI l2)), (2, .int (nI pd)), (3, .int (nI a)), (4, .int (nI b)), (5, .int (nI c2))] := hl
  have iX11 : ∀ w ∈ wsX110, w ∈ wsX11_isMade := by decide +kernel
  have k13 := hts (.fieldLink RX11 13 "JumpingAutomataModel" "now" "[I") (by decide +kernel)
  have hH3 := hLn.2.1
  refine lv_iload_n hx hb dX11_isMade_0 rfl (lv_at hl 3 rfl) ?_
  refine jn_zlt hx hb (by omega) (tgt := 14) dX11_isMade_1 (by decide) (fun c_1 => ?_) (fun c_1 => ?_)
  · refine lv_iconst (v := nI 0) hx hb dX11_isMade_14 (by decide) ?_
    exact hq _ _ ((nI 0)) dX11_isMade_15 jn_n0 (n_if0 (fun q => by have q1 := q.1; have q2 := q.2.1; have q3 := q.2.2.1; omega))
  · refine lv_iload hx hb dX11_isMade_4 (lv_at hl 4 rfl) ?_
    refine jn_zlt hx hb (by omega) (tgt := 14) dX11_isMade_6 (by decide) (fun c_6 => ?_) (fun c_6 => ?_)
    · refine lv_iconst (v := nI 0) hx hb dX11_isMade_14 (by decide) ?_
      exact hq _ _ ((nI 0)) dX11_isMade_15 jn_n0 (n_if0 (fun q => by have q1 := q.1; have q2 := q.2.1; have q3 := q.2.2.1; omega))
    · refine lv_iload hx hb dX11_isMade_9 (lv_at hl 5 rfl) ?_
      refine jn_zge hx hb (by omega) (tgt := 16) dX11_isMade_11 (by decide) (fun c_11 => ?_) (fun c_11 => ?_)
      · refine lv_iload_n hx hb dX11_isMade_16 rfl (lv_at hl 3 rfl) ?_
        refine lv_iload hx hb dX11_isMade_17 (lv_at hl 4 rfl) ?_
        refine jn_iadd hx hb dX11_isMade_19 ?_
        refine lv_iload hx hb dX11_isMade_20 (lv_at hl 5 rfl) ?_
        refine jn_iadd hx hb dX11_isMade_22 ?_
        refine jn_zne hx hb (by omega) (tgt := 28) dX11_isMade_23 (by decide) (fun c_23 => ?_) (fun c_23 => ?_)
        · refine lv_iload_n hx hb dX11_isMade_28 rfl (lv_at hl 2 rfl) ?_
          refine lv_aload_n hx hb dX11_isMade_29 rfl (lv_at hl 0 rfl) ?_
          refine va_get (D := (g.1, g.2.1)) (ci := 13) (v := .ref (g.2.2.2 1)) (C := RX11) (T := TX11) (N := 30) hx hb hts iX11 hown hK.1 hP 0 (gM0 g σ tl) rfl 1 (by decide) k13 (fun _ h9 => h9) rfl dX11_isMade_30 ?_
          refine lv_bipush (v := nI 42) hx hb dX11_isMade_33 (by decide) ?_
          refine lv_iload_n hx hb dX11_isMade_35 rfl (lv_at hl 1 rfl) ?_
          refine jn_iadd hx hb dX11_isMade_36 ?_
          refine jn_iald (f := σ.2.1 0) hx hb hK.1 hP 1 0 (gM1 g σ tl) rfl (by omega) (Nat.le_of_ble_eq_true rfl) dX11_isMade_37 ?_
          refine jn_cne hx hb (by omega) (by omega) (tgt := 43) dX11_isMade_38 (by decide) (fun c_38 => ?_) (fun c_38 => ?_)
          · have hlt : pd < (σ.2.1 0) (42 + l2) := by omega
            obtain ⟨p1, p2, p3, p4⟩ := hLn.2.2 pd hlt
            have ha9 : a < 10 := by omega
            have hb9 : b < 10 := by omega
            have hc9 : c2 < 10 := by omega
            have hms := md_step (l := l2) hlt ha9 hb9 hc9 p1 p2 p3
            have hmf := md_fuel (l := l2) (d := 19) hlt ha9 hb9 hc9 p1 p2 p3 p4 (hd ha9 hb9 hc9)
            refine lv_bipush (v := nI 50) hx hb dX11_isMade_43 (by decide) ?_
            refine lv_bipush (v := nI 9) hx hb dX11_isMade_45 (by decide) ?_
            refine lv_iload_n hx hb dX11_isMade_47 rfl (lv_at hl 1 rfl) ?_
            refine jn_imul hx hb dX11_isMade_48 ?_
            refine jn_iadd hx hb dX11_isMade_49 ?_
            refine lv_iconst (v := nI 3) hx hb dX11_isMade_50 (by decide) ?_
            refine lv_iload_n hx hb dX11_isMade_51 rfl (lv_at hl 2 rfl) ?_
            refine jn_imul hx hb dX11_isMade_52 ?_
            refine jn_iadd hx hb dX11_isMade_53 ?_
            refine lv_istore (lv' := [(6, .int (nI ((50 + (9 * l2)) + (3 * pd)))), (0, .ref (g.2.2.2 0)), (1, .int (nI l2)), (2, .int (nI pd)), (3, .int (nI a)), (4, .int (nI b)), (5, .int (nI c2))]) hx hb dX11_isMade_54 hl (by decide) rfl (fun ls hl => ?_)
            refine lv_aload_n hx hb dX11_isMade_56 rfl (lv_at hl 1 rfl) ?_
            refine lv_iload_n hx hb dX11_isMade_57 rfl (lv_at hl 2 rfl) ?_
            refine lv_iload_n hx hb dX11_isMade_58 rfl (lv_at hl 3 rfl) ?_
            refine lv_iconst (v := nI 1) hx hb dX11_isMade_59 (by decide) ?_
            refine jn_iadd hx hb dX11_isMade_60 ?_
            refine lv_iload_n hx hb dX11_isMade_61 rfl (lv_at hl 4 rfl) ?_
            refine lv_iload hx hb dX11_isMade_62 (lv_at hl 5 rfl) ?_
            refine lv_iload hx hb dX11_isMade_64 (lv_at hl 6 rfl) ?_
            refine vp_callSi (va_Run.run (va_runV (As := [.int (nI l2), .int (nI (pd + 1)), .int (nI a), .int (nI b), .int (nI c2)]) (rest := []) ⟨hx, hb, hml, hown, hts⟩ (c_X11_isMade_d19 l g tl σ l2 (pd + 1) a b c2 hl8 hLn (by omega) ha hb2 hc (fun h1 h2 h3 => by have := hd h1 h2 h3; omega)) (cwV 5 hts gX11_isMade_X11_isMade rfl rfl rfl (by decide +kernel) ⟨Nat.le_of_ble_eq_true rfl, Nat.le_of_ble_eq_true rfl⟩) (okPV hK hP rfl (gM0 g σ tl)) rfl rfl hl.1 rfl (lv_room (Nat.le_of_ble_eq_true rfl)) dX11_isMade_66 ⟨Nat.le_of_ble_eq_true rfl, Nat.le_of_ble_eq_true rfl⟩)) (fun r_66 h_66 => ?_)
            subst h_66
            refine jn_bne hx hb (tgt := 114) dX11_isMade_69 (by decide) (fun c_69 => ?_) (fun c_69 => ?_)
            · refine lv_iconst (v := nI 1) hx hb dX11_isMade_114 (by decide) ?_
              refine lv_goto (tgt := 119) hx hb dX11_isMade_115 (by decide) ?_
              exact hq _ _ ((nI 1)) dX11_isMade_119 jn_n1 (by first | exact n_if1 (hms.mpr (Or.inl c_69)) | exact n_if1 (hms.mpr (Or.inr c_111)) | exact n_if0 (fun q => (hms.mp q).elim c_69 c_111))
            · refine lv_aload_n hx hb dX11_isMade_72 rfl (lv_at hl 1 rfl) ?_
              refine lv_iload_n hx hb dX11_isMade_73 rfl (lv_at hl 2 rfl) ?_
              refine lv_iload_n hx hb dX11_isMade_74 rfl (lv_at hl 3 rfl) ?_
              refine lv_iload_n hx hb dX11_isMade_75 rfl (lv_at hl 4 rfl) ?_
              refine lv_aload_n hx hb dX11_isMade_76 rfl (lv_at hl 1 rfl) ?_
              refine va_get (D := (g.1, g.2.1)) (ci := 13) (v := .ref (g.2.2.2 1)) (C := RX11) (T := TX11) (N := 30) hx hb hts iX11 hown hK.1 hP 0 (gM0 g σ tl) rfl 1 (by decide) k13 (fun _ h9 => h9) rfl dX11_isMade_77 ?_
              refine lv_iload hx hb dX11_isMade_80 (lv_at hl 0 rfl) ?_
              refine jn_iald (f := σ.2.1 0) hx hb hK.1 hP 1 0 (gM1 g σ tl) rfl (by omega) (Nat.le_of_ble_eq_true rfl) dX11_isMade_82 ?_
              refine jn_isubB hx hb (by omega) dX11_isMade_83 ?_
              refine lv_iload hx hb dX11_isMade_84 (lv_at hl 5 rfl) ?_
              refine lv_aload_n hx hb dX11_isMade_86 rfl (lv_at hl 1 rfl) ?_
              refine va_get (D := (g.1, g.2.1)) (ci := 13) (v := .ref (g.2.2.2 1)) (C := RX11) (T := TX11) (N := 30) hx hb hts iX11 hown hK.1 hP 0 (gM0 g σ tl) rfl 1 (by decide) k13 (fun _ h9 => h9) rfl dX11_isMade_87 ?_
              refine lv_iload hx hb dX11_isMade_90 (lv_at hl 0 rfl) ?_
              refine lv_iconst (v := nI 1) hx hb dX11_isMade_92 (by decide) ?_
              refine jn_iadd hx hb dX11_isMade_93 ?_
              refine jn_iald (f := σ.2.1 0) hx hb hK.1 hP 1 0 (gM1 g σ tl) rfl (by omega) (Nat.le_of_ble_eq_true rfl) dX11_isMade_94 ?_
              refine jn_isubB hx hb (by omega) dX11_isMade_95 ?_
              refine lv_iload hx hb dX11_isMade_96 (lv_at hl 6 rfl) ?_
              refine lv_aload_n hx hb dX11_isMade_98 rfl (lv_at hl 1 rfl) ?_
              refine va_get (D := (g.1, g.2.1)) (ci := 13) (v := .ref (g.2.2.2 1)) (C := RX11) (T := TX11) (N := 30) hx hb hts iX11 hown hK.1 hP 0 (gM0 g σ tl) rfl 1 (by decide) k13 (fun _ h9 => h9) rfl dX11_isMade_99 ?_
              refine lv_iload hx hb dX11_isMade_102 (lv_at hl 0 rfl) ?_
              refine lv_iconst (v := nI 2) hx hb dX11_isMade_104 (by decide) ?_
              refine jn_iadd hx hb dX11_isMade_105 ?_
              refine jn_iald (f := σ.2.1 0) hx hb hK.1 hP 1 0 (gM1 g σ tl) rfl (by omega) (Nat.le_of_ble_eq_true rfl) dX11_isMade_106 ?_
              refine jn_isubB hx hb (by omega) dX11_isMade_107 ?_
              refine vp_callSi (va_Run.run (va_runV (As := [.int (nI l2), .int (nI pd), .int (nI (sb a ((σ.2.1 0) ((50 + (9 * l2)) + (3 * pd))))), .int (nI (sb b ((σ.2.1 0) (((50 + (9 * l2)) + (3 * pd)) + 1)))), .int (nI (sb c2 ((σ.2.1 0) (((50 + (9 * l2)) + (3 * pd)) + 2))))]) (rest := []) ⟨hx, hb, hml, hown, hts⟩ (c_X11_isMade_d19 l g tl σ l2 pd (sb a ((σ.2.1 0) ((50 + (9 * l2)) + (3 * pd)))) (sb b ((σ.2.1 0) (((50 + (9 * l2)) + (3 * pd)) + 1))) (sb c2 ((σ.2.1 0) (((50 + (9 * l2)) + (3 * pd)) + 2))) hl8 hLn hpd (sb_or ha9 p1) (sb_or hb9 p2) (sb_or hc9 p3) hmf) (cwV 5 hts gX11_isMade_X11_isMade rfl rfl rfl (by decide +kernel) ⟨Nat.le_of_ble_eq_true rfl, Nat.le_of_ble_eq_true rfl⟩) (okPV hK hP rfl (gM0 g σ tl)) rfl rfl hl.1 rfl (lv_room (Nat.le_of_ble_eq_true rfl)) dX11_isMade_108 ⟨Nat.le_of_ble_eq_true rfl, Nat.le_of_ble_eq_true rfl⟩)) (fun r_108 h_108 => ?_)
              subst h_108
              refine jn_beq hx hb (tgt := 118) dX11_isMade_111 (by decide) (fun c_111 => ?_) (fun c_111 => ?_)
              · refine lv_iconst (v := nI 0) hx hb dX11_isMade_118 (by decide) ?_
                exact hq _ _ ((nI 0)) dX11_isMade_119 jn_n0 (by first | exact n_if1 (hms.mpr (Or.inl c_69)) | exact n_if1 (hms.mpr (Or.inr c_111)) | exact n_if0 (fun q => (hms.mp q).elim c_69 c_111))
              · refine lv_iconst (v := nI 1) hx hb dX11_isMade_114 (by decide) ?_
                refine lv_goto (tgt := 119) hx hb dX11_isMade_115 (by decide) ?_
                exact hq _ _ ((nI 1)) dX11_isMade_119 jn_n1 (by first | exact n_if1 (hms.mpr (Or.inl c_69)) | exact n_if1 (hms.mpr (Or.inr c_111)) | exact n_if0 (fun q => (hms.mp q).elim c_69 c_111))
          · refine lv_iconst (v := nI 0) hx hb dX11_isMade_41 (by decide) ?_
            exact hq _ _ ((nI 0)) dX11_isMade_42 jn_n0 (n_if0 (fun q => by have q4 := cB_iff.mp q.2.2.2; rw [show (σ.2.1 0) (42 + l2) - pd = 0 by omega] at q4; obtain ⟨q5, q6, q7⟩ := q4; omega))
        · have ea : a = 0 := by omega
          have eb : b = 0 := by omega
          have ec : c2 = 0 := by omega
          refine lv_iconst (v := nI 1) hx hb dX11_isMade_26 (by decide) ?_
          exact hq _ _ ((nI 1)) dX11_isMade_27 jn_n1 (n_if1 ⟨by omega, by omega, by omega, cB_iff.mpr (by rw [ea, eb, ec]; exact md_0 _ _ _ _)⟩)
      · refine lv_iconst (v := nI 0) hx hb dX11_isMade_14 (by decide) ?_
        exact hq _ _ ((nI 0)) dX11_isMade_15 jn_n0 (n_if0 (fun q => by have q1 := q.1; have q2 := q.2.1; have q3 := q.2.2.1; omega))

abbrev r_c_X11_isMade_d21 : Room := { frames := 21, cells := 0, slots := 0, locals := 546 }
set_option maxHeartbeats 4000000 in
set_option maxRecDepth 100000 in
theorem c_X11_isMade_d21 (l : Launch) (g : GC) (tl : va_W) (σ : SS) (l2 pd a b c2 : Nat) (hl8 : l2 < 8) (hLn : Ln (σ.2.1 0) l2) (hpd : pd ≤ (σ.2.1 0) (42 + l2)) (ha : a < 10 ∨ (2147483648 ≤ a ∧ a < 4294967296)) (hb2 : b < 10 ∨ (2147483648 ≤ b ∧ b < 4294967296)) (hc : c2 < 10 ∨ (2147483648 ≤ c2 ∧ c2 < 4294967296)) (hd : a < 10 → b < 10 → c2 < 10 → (σ.2.1 0) (42 + l2) - pd + (a + b + c2) ≤ 21) : Met l yX11_isMade wsX11_isMade r_c_X11_isMade_d21 (va_Pc [.ref (g.2.2.2 0), .int (nI l2), .int (nI pd), .int (nI a), .int (nI b), .int (nI c2)] (PP g (wM g σ ++ tl))) (vp_Si (fun r => r = nI (if mdQ (σ.2.1 0) l2 ((σ.2.1 0) (42 + l2) - pd) pd a b c2 then 1 else 0))) 0 0 (fun _ => False) := by
  refine jn_pz (cc := cX11_isMade) (maxL := 7) (own := RX11) (by decide) rfl rfl (Nat.le_of_ble_eq_true rfl) ?_
  intro p e s m below meth c Q hx hb hml hown hts ⟨hP, hK⟩ hq ls hl
  have hl : lv_has ls 7 [(0, .ref (g.2.2.2 0)), (1, .int (nI l2)), (2, .int (nI pd)), (3, .int (nI a)), (4, .int (nI b)), (5, .int (nI c2))] := hl
  have iX11 : ∀ w ∈ wsX110, w ∈ wsX11_isMade := by decide +kernel
  have k13 := hts (.fieldLink RX11 13 "JumpingAutomataModel" "now" "[I") (by decide +kernel)
  have hH3 := hLn.2.1
  refine lv_iload_n hx hb dX11_isMade_0 rfl (lv_at hl 3 rfl) ?_
  refine jn_zlt hx hb (by omega) (tgt := 14) dX11_isMade_1 (by decide) (fun c_1 => ?_) (fun c_1 => ?_)
  · refine lv_iconst (v := nI 0) hx hb dX11_isMade_14 (by decide) ?_
    exact hq _ _ ((nI 0)) dX11_isMade_15 jn_n0 (n_if0 (fun q => by have q1 := q.1; have q2 := q.2.1; have q3 := q.2.2.1; omega))
  · refine lv_iload hx hb dX11_isMade_4 (lv_at hl 4 rfl) ?_
    refine jn_zlt hx hb (by omega) (tgt := 14) dX11_isMade_6 (by decide) (fun c_6 => ?_) (fun c_6 => ?_)
    · refine lv_iconst (v := nI 0) hx hb dX11_isMade_14 (by decide) ?_
      exact hq _ _ ((nI 0)) dX11_isMade_15 jn_n0 (n_if0 (fun q => by have q1 := q.1; have q2 := q.2.1; have q3 := q.2.2.1; omega))
    · refine lv_iload hx hb dX11_isMade_9 (lv_at hl 5 rfl) ?_
      refine jn_zge hx hb (by omega) (tgt := 16) dX11_isMade_11 (by decide) (fun c_11 => ?_) (fun c_11 => ?_)
      · refine lv_iload_n hx hb dX11_isMade_16 rfl (lv_at hl 3 rfl) ?_
        refine lv_iload hx hb dX11_isMade_17 (lv_at hl 4 rfl) ?_
        refine jn_iadd hx hb dX11_isMade_19 ?_
        refine lv_iload hx hb dX11_isMade_20 (lv_at hl 5 rfl) ?_
        refine jn_iadd hx hb dX11_isMade_22 ?_
        refine jn_zne hx hb (by omega) (tgt := 28) dX11_isMade_23 (by decide) (fun c_23 => ?_) (fun c_23 => ?_)
        · refine lv_iload_n hx hb dX11_isMade_28 rfl (lv_at hl 2 rfl) ?_
          refine lv_aload_n hx hb dX11_isMade_29 rfl (lv_at hl 0 rfl) ?_
          refine va_get (D := (g.1, g.2.1)) (ci := 13) (v := .ref (g.2.2.2 1)) (C := RX11) (T := TX11) (N := 30) hx hb hts iX11 hown hK.1 hP 0 (gM0 g σ tl) rfl 1 (by decide) k13 (fun _ h9 => h9) rfl dX11_isMade_30 ?_
          refine lv_bipush (v := nI 42) hx hb dX11_isMade_33 (by decide) ?_
          refine lv_iload_n hx hb dX11_isMade_35 rfl (lv_at hl 1 rfl) ?_
          refine jn_iadd hx hb dX11_isMade_36 ?_
          refine jn_iald (f := σ.2.1 0) hx hb hK.1 hP 1 0 (gM1 g σ tl) rfl (by omega) (Nat.le_of_ble_eq_true rfl) dX11_isMade_37 ?_
          refine jn_cne hx hb (by omega) (by omega) (tgt := 43) dX11_isMade_38 (by decide) (fun c_38 => ?_) (fun c_38 => ?_)
          · have hlt : pd < (σ.2.1 0) (42 + l2) := by omega
            obtain ⟨p1, p2, p3, p4⟩ := hLn.2.2 pd hlt
            have ha9 : a < 10 := by omega
            have hb9 : b < 10 := by omega
            have hc9 : c2 < 10 := by omega
            have hms := md_step (l := l2) hlt ha9 hb9 hc9 p1 p2 p3
            have hmf := md_fuel (l := l2) (d := 20) hlt ha9 hb9 hc9 p1 p2 p3 p4 (hd ha9 hb9 hc9)
            refine lv_bipush (v := nI 50) hx hb dX11_isMade_43 (by decide) ?_
            refine lv_bipush (v := nI 9) hx hb dX11_isMade_45 (by decide) ?_
            refine lv_iload_n hx hb dX11_isMade_47 rfl (lv_at hl 1 rfl) ?_
            refine jn_imul hx hb dX11_isMade_48 ?_
            refine jn_iadd hx hb dX11_isMade_49 ?_
            refine lv_iconst (v := nI 3) hx hb dX11_isMade_50 (by decide) ?_
            refine lv_iload_n hx hb dX11_isMade_51 rfl (lv_at hl 2 rfl) ?_
            refine jn_imul hx hb dX11_isMade_52 ?_
            refine jn_iadd hx hb dX11_isMade_53 ?_
            refine lv_istore (lv' := [(6, .int (nI ((50 + (9 * l2)) + (3 * pd)))), (0, .ref (g.2.2.2 0)), (1, .int (nI l2)), (2, .int (nI pd)), (3, .int (nI a)), (4, .int (nI b)), (5, .int (nI c2))]) hx hb dX11_isMade_54 hl (by decide) rfl (fun ls hl => ?_)
            refine lv_aload_n hx hb dX11_isMade_56 rfl (lv_at hl 1 rfl) ?_
            refine lv_iload_n hx hb dX11_isMade_57 rfl (lv_at hl 2 rfl) ?_
            refine lv_iload_n hx hb dX11_isMade_58 rfl (lv_at hl 3 rfl) ?_
            refine lv_iconst (v := nI 1) hx hb dX11_isMade_59 (by decide) ?_
            refine jn_iadd hx hb dX11_isMade_60 ?_
            refine lv_iload_n hx hb dX11_isMade_61 rfl (lv_at hl 4 rfl) ?_
            refine lv_iload hx hb dX11_isMade_62 (lv_at hl 5 rfl) ?_
            refine lv_iload hx hb dX11_isMade_64 (lv_at hl 6 rfl) ?_
            refine vp_callSi (va_Run.run (va_runV (As := [.int (nI l2), .int (nI (pd + 1)), .int (nI a), .int (nI b), .int (nI c2)]) (rest := []) ⟨hx, hb, hml, hown, hts⟩ (c_X11_isMade_d20 l g tl σ l2 (pd + 1) a b c2 hl8 hLn (by omega) ha hb2 hc (fun h1 h2 h3 => by have := hd h1 h2 h3; omega)) (cwV 5 hts gX11_isMade_X11_isMade rfl rfl rfl (by decide +kernel) ⟨Nat.le_of_ble_eq_true rfl, Nat.le_of_ble_eq_true rfl⟩) (okPV hK hP rfl (gM0 g σ tl)) rfl rfl hl.1 rfl (lv_room (Nat.le_of_ble_eq_true rfl)) dX11_isMade_66 ⟨Nat.le_of_ble_eq_true rfl, Nat.le_of_ble_eq_true rfl⟩)) (fun r_66 h_66 => ?_)
            subst h_66
            refine jn_bne hx hb (tgt := 114) dX11_isMade_69 (by decide) (fun c_69 => ?_) (fun c_69 => ?_)
            · refine lv_iconst (v := nI 1) hx hb dX11_isMade_114 (by decide) ?_
              refine lv_goto (tgt := 119) hx hb dX11_isMade_115 (by decide) ?_
              exact hq _ _ ((nI 1)) dX11_isMade_119 jn_n1 (by first | exact n_if1 (hms.mpr (Or.inl c_69)) | exact n_if1 (hms.mpr (Or.inr c_111)) | exact n_if0 (fun q => (hms.mp q).elim c_69 c_111))
            · refine lv_aload_n hx hb dX11_isMade_72 rfl (lv_at hl 1 rfl) ?_
              refine lv_iload_n hx hb dX11_isMade_73 rfl (lv_at hl 2 rfl) ?_
              refine lv_iload_n hx hb dX11_isMade_74 rfl (lv_at hl 3 rfl) ?_
              refine lv_iload_n hx hb dX11_isMade_75 rfl (lv_at hl 4 rfl) ?_
              refine lv_aload_n hx hb dX11_isMade_76 rfl (lv_at hl 1 rfl) ?_
              refine va_get (D := (g.1, g.2.1)) (ci := 13) (v := .ref (g.2.2.2 1)) (C := RX11) (T := TX11) (N := 30) hx hb hts iX11 hown hK.1 hP 0 (gM0 g σ tl) rfl 1 (by decide) k13 (fun _ h9 => h9) rfl dX11_isMade_77 ?_
              refine lv_iload hx hb dX11_isMade_80 (lv_at hl 0 rfl) ?_
              refine jn_iald (f := σ.2.1 0) hx hb hK.1 hP 1 0 (gM1 g σ tl) rfl (by omega) (Nat.le_of_ble_eq_true rfl) dX11_isMade_82 ?_
              refine jn_isubB hx hb (by omega) dX11_isMade_83 ?_
              refine lv_iload hx hb dX11_isMade_84 (lv_at hl 5 rfl) ?_
              refine lv_aload_n hx hb dX11_isMade_86 rfl (lv_at hl 1 rfl) ?_
              refine va_get (D := (g.1, g.2.1)) (ci := 13) (v := .ref (g.2.2.2 1)) (C := RX11) (T := TX11) (N := 30) hx hb hts iX11 hown hK.1 hP 0 (gM0 g σ tl) rfl 1 (by decide) k13 (fun _ h9 => h9) rfl dX11_isMade_87 ?_
              refine lv_iload hx hb dX11_isMade_90 (lv_at hl 0 rfl) ?_
              refine lv_iconst (v := nI 1) hx hb dX11_isMade_92 (by decide) ?_
              refine jn_iadd hx hb dX11_isMade_93 ?_
              refine jn_iald (f := σ.2.1 0) hx hb hK.1 hP 1 0 (gM1 g σ tl) rfl (by omega) (Nat.le_of_ble_eq_true rfl) dX11_isMade_94 ?_
              refine jn_isubB hx hb (by omega) dX11_isMade_95 ?_
              refine lv_iload hx hb dX11_isMade_96 (lv_at hl 6 rfl) ?_
              refine lv_aload_n hx hb dX11_isMade_98 rfl (lv_at hl 1 rfl) ?_
              refine va_get (D := (g.1, g.2.1)) (ci := 13) (v := .ref (g.2.2.2 1)) (C := RX11) (T := TX11) (N := 30) hx hb hts iX11 hown hK.1 hP 0 (gM0 g σ tl) rfl 1 (by decide) k13 (fun _ h9 => h9) rfl dX11_isMade_99 ?_
              refine lv_iload hx hb dX11_isMade_102 (lv_at hl 0 rfl) ?_
              refine lv_iconst (v := nI 2) hx hb dX11_isMade_104 (by decide) ?_
              refine jn_iadd hx hb dX11_isMade_105 ?_
              refine jn_iald (f := σ.2.1 0) hx hb hK.1 hP 1 0 (gM1 g σ tl) rfl (by omega) (Nat.le_of_ble_eq_true rfl) dX11_isMade_106 ?_
              refine jn_isubB hx hb (by omega) dX11_isMade_107 ?_
              refine vp_callSi (va_Run.run (va_runV (As := [.int (nI l2), .int (nI pd), .int (nI (sb a ((σ.2.1 0) ((50 + (9 * l2)) + (3 * pd))))), .int (nI (sb b ((σ.2.1 0) (((50 + (9 * l2)) + (3 * pd)) + 1)))), .int (nI (sb c2 ((σ.2.1 0) (((50 + (9 * l2)) + (3 * pd)) + 2))))]) (rest := []) ⟨hx, hb, hml, hown, hts⟩ (c_X11_isMade_d20 l g tl σ l2 pd (sb a ((σ.2.1 0) ((50 + (9 * l2)) + (3 * pd)))) (sb b ((σ.2.1 0) (((50 + (9 * l2)) + (3 * pd)) + 1))) (sb c2 ((σ.2.1 0) (((50 + (9 * l2)) + (3 * pd)) + 2))) hl8 hLn hpd (sb_or ha9 p1) (sb_or hb9 p2) (sb_or hc9 p3) hmf) (cwV 5 hts gX11_isMade_X11_isMade rfl rfl rfl (by decide +kernel) ⟨Nat.le_of_ble_eq_true rfl, Nat.le_of_ble_eq_true rfl⟩) (okPV hK hP rfl (gM0 g σ tl)) rfl rfl hl.1 rfl (lv_room (Nat.le_of_ble_eq_true rfl)) dX11_isMade_108 ⟨Nat.le_of_ble_eq_true rfl, Nat.le_of_ble_eq_true rfl⟩)) (fun r_108 h_108 => ?_)
              subst h_108
              refine jn_beq hx hb (tgt := 118) dX11_isMade_111 (by decide) (fun c_111 => ?_) (fun c_111 => ?_)
              · refine lv_iconst (v := nI 0) hx hb dX11_isMade_118 (by decide) ?_
                exact hq _ _ ((nI 0)) dX11_isMade_119 jn_n0 (by first | exact n_if1 (hms.mpr (Or.inl c_69)) | exact n_if1 (hms.mpr (Or.inr c_111)) | exact n_if0 (fun q => (hms.mp q).elim c_69 c_111))
              · refine lv_iconst (v := nI 1) hx hb dX11_isMade_114 (by decide) ?_
                refine lv_goto (tgt := 119) hx hb dX11_isMade_115 (by decide) ?_
                exact hq _ _ ((nI 1)) dX11_isMade_119 jn_n1 (by first | exact n_if1 (hms.mpr (Or.inl c_69)) | exact n_if1 (hms.mpr (Or.inr c_111)) | exact n_if0 (fun q => (hms.mp q).elim c_69 c_111))
          · refine lv_iconst (v := nI 0) hx hb dX11_isMade_41 (by decide) ?_
            exact hq _ _ ((nI 0)) dX11_isMade_42 jn_n0 (n_if0 (fun q => by have q4 := cB_iff.mp q.2.2.2; rw [show (σ.2.1 0) (42 + l2) - pd = 0 by omega] at q4; obtain ⟨q5, q6, q7⟩ := q4; omega))
        · have ea : a = 0 := by omega
          have eb : b = 0 := by omega
          have ec : c2 = 0 := by omega
          refine lv_iconst (v := nI 1) hx hb dX11_isMade_26 (by decide) ?_
          exact hq _ _ ((nI 1)) dX11_isMade_27 jn_n1 (n_if1 ⟨by omega, by omega, by omega, cB_iff.mpr (by rw [ea, eb, ec]; exact md_0 _ _ _ _)⟩)
      · refine lv_iconst (v := nI 0) hx hb dX11_isMade_14 (by decide) ?_
        exact hq _ _ ((nI 0)) dX11_isMade_15 jn_n0 (n_if0 (fun q => by have q1 := q.1; have q2 := q.2.1; have q3 := q.2.2.1; omega))

abbrev r_c_X11_isMade_d22 : Room := { frames := 22, cells := 0, slots := 0, locals := 572 }
set_option maxHeartbeats 4000000 in
set_option maxRecDepth 100000 in
theorem c_X11_isMade_d22 (l : Launch) (g : GC) (tl : va_W) (σ : SS) (l2 pd a b c2 : Nat) (hl8 : l2 < 8) (hLn : Ln (σ.2.1 0) l2) (hpd : pd ≤ (σ.2.1 0) (42 + l2)) (ha : a < 10 ∨ (2147483648 ≤ a ∧ a < 4294967296)) (hb2 : b < 10 ∨ (2147483648 ≤ b ∧ b < 4294967296)) (hc : c2 < 10 ∨ (2147483648 ≤ c2 ∧ c2 < 4294967296)) (hd : a < 10 → b < 10 → c2 < 10 → (σ.2.1 0) (42 + l2) - pd + (a + b + c2) ≤ 22) : Met l yX11_isMade wsX11_isMade r_c_X11_isMade_d22 (va_Pc [.ref (g.2.2.2 0), .int (nI l2), .int (nI pd), .int (nI a), .int (nI b), .int (nI c2)] (PP g (wM g σ ++ tl))) (vp_Si (fun r => r = nI (if mdQ (σ.2.1 0) l2 ((σ.2.1 0) (42 + l2) - pd) pd a b c2 then 1 else 0))) 0 0 (fun _ => False) := by
  refine jn_pz (cc := cX11_isMade) (maxL := 7) (own := RX11) (by decide) rfl rfl (Nat.le_of_ble_eq_true rfl) ?_
  intro p e s m below meth c Q hx hb hml hown hts ⟨hP, hK⟩ hq ls hl
  have hl : lv_has ls 7 [(0, .ref (g.2.2.2 0)), (1, .int (nI l2)), (2, .int (nI pd)), (3, .int (nI a)), (4, .int (nI b)), (5, .int (nI c2))] := hl
  have iX11 : ∀ w ∈ wsX110, w ∈ wsX11_isMade := by decide +kernel
  have k13 := hts (.fieldLink RX11 13 "JumpingAutomataModel" "now" "[I") (by decide +kernel)
  have hH3 := hLn.2.1
  refine lv_iload_n hx hb dX11_isMade_0 rfl (lv_at hl 3 rfl) ?_
  refine jn_zlt hx hb (by omega) (tgt := 14) dX11_isMade_1 (by decide) (fun c_1 => ?_) (fun c_1 => ?_)
  · refine lv_iconst (v := nI 0) hx hb dX11_isMade_14 (by decide) ?_
    exact hq _ _ ((nI 0)) dX11_isMade_15 jn_n0 (n_if0 (fun q => by have q1 := q.1; have q2 := q.2.1; have q3 := q.2.2.1; omega))
  · refine lv_iload hx hb dX11_isMade_4 (lv_at hl 4 rfl) ?_
    refine jn_zlt hx hb (by omega) (tgt := 14) dX11_isMade_6 (by decide) (fun c_6 => ?_) (fun c_6 => ?_)
    · refine lv_iconst (v := nI 0) hx hb dX11_isMade_14 (by decide) ?_
      exact hq _ _ ((nI 0)) dX11_isMade_15 jn_n0 (n_if0 (fun q => by have q1 := q.1; have q2 := q.2.1; have q3 := q.2.2.1; omega))
    · refine lv_iload hx hb dX11_isMade_9 (lv_at hl 5 rfl) ?_
      refine jn_zge hx hb (by omega) (tgt := 16) dX11_isMade_11 (by decide) (fun c_11 => ?_) (fun c_11 => ?_)
      · refine lv_iload_n hx hb dX11_isMade_16 rfl (lv_at hl 3 rfl) ?_
        refine lv_iload hx hb dX11_isMade_17 (lv_at hl 4 rfl) ?_
        refine jn_iadd hx hb dX11_isMade_19 ?_
        refine lv_iload hx hb dX11_isMade_20 (lv_at hl 5 rfl) ?_
        refine jn_iadd hx hb dX11_isMade_22 ?_
        refine jn_zne hx hb (by omega) (tgt := 28) dX11_isMade_23 (by decide) (fun c_23 => ?_) (fun c_23 => ?_)
        · refine lv_iload_n hx hb dX11_isMade_28 rfl (lv_at hl 2 rfl) ?_
          refine lv_aload_n hx hb dX11_isMade_29 rfl (lv_at hl 0 rfl) ?_
          refine va_get (D := (g.1, g.2.1)) (ci := 13) (v := .ref (g.2.2.2 1)) (C := RX11) (T := TX11) (N := 30) hx hb hts iX11 hown hK.1 hP 0 (gM0 g σ tl) rfl 1 (by decide) k13 (fun _ h9 => h9) rfl dX11_isMade_30 ?_
          refine lv_bipush (v := nI 42) hx hb dX11_isMade_33 (by decide) ?_
          refine lv_iload_n hx hb dX11_isMade_35 rfl (lv_at hl 1 rfl) ?_
          refine jn_iadd hx hb dX11_isMade_36 ?_
          refine jn_iald (f := σ.2.1 0) hx hb hK.1 hP 1 0 (gM1 g σ tl) rfl (by omega) (Nat.le_of_ble_eq_true rfl) dX11_isMade_37 ?_
          refine jn_cne hx hb (by omega) (by omega) (tgt := 43) dX11_isMade_38 (by decide) (fun c_38 => ?_) (fun c_38 => ?_)
          · have hlt : pd < (σ.2.1 0) (42 + l2) := by omega
            obtain ⟨p1, p2, p3, p4⟩ := hLn.2.2 pd hlt
            have ha9 : a < 10 := by omega
            have hb9 : b < 10 := by omega
            have hc9 : c2 < 10 := by omega
            have hms := md_step (l := l2) hlt ha9 hb9 hc9 p1 p2 p3
            have hmf := md_fuel (l := l2) (d := 21) hlt ha9 hb9 hc9 p1 p2 p3 p4 (hd ha9 hb9 hc9)
            refine lv_bipush (v := nI 50) hx hb dX11_isMade_43 (by decide) ?_
            refine lv_bipush (v := nI 9) hx hb dX11_isMade_45 (by decide) ?_
            refine lv_iload_n hx hb dX11_isMade_47 rfl (lv_at hl 1 rfl) ?_
            refine jn_imul hx hb dX11_isMade_48 ?_
            refine jn_iadd hx hb dX11_isMade_49 ?_
            refine lv_iconst (v := nI 3) hx hb dX11_isMade_50 (by decide) ?_
            refine lv_iload_n hx hb dX11_isMade_51 rfl (lv_at hl 2 rfl) ?_
            refine jn_imul hx hb dX11_isMade_52 ?_
            refine jn_iadd hx hb dX11_isMade_53 ?_
            refine lv_istore (lv' := [(6, .int (nI ((50 + (9 * l2)) + (3 * pd)))), (0, .ref (g.2.2.2 0)), (1, .int (nI l2)), (2, .int (nI pd)), (3, .int (nI a)), (4, .int (nI b)), (5, .int (nI c2))]) hx hb dX11_isMade_54 hl (by decide) rfl (fun ls hl => ?_)
            refine lv_aload_n hx hb dX11_isMade_56 rfl (lv_at hl 1 rfl) ?_
            refine lv_iload_n hx hb dX11_isMade_57 rfl (lv_at hl 2 rfl) ?_
            refine lv_iload_n hx hb dX11_isMade_58 rfl (lv_at hl 3 rfl) ?_
            refine lv_iconst (v := nI 1) hx hb dX11_isMade_59 (by decide) ?_
            refine jn_iadd hx hb dX11_isMade_60 ?_
            refine lv_iload_n hx hb dX11_isMade_61 rfl (lv_at hl 4 rfl) ?_
            refine lv_iload hx hb dX11_isMade_62 (lv_at hl 5 rfl) ?_
            refine lv_iload hx hb dX11_isMade_64 (lv_at hl 6 rfl) ?_
            refine vp_callSi (va_Run.run (va_runV (As := [.int (nI l2), .int (nI (pd + 1)), .int (nI a), .int (nI b), .int (nI c2)]) (rest := []) ⟨hx, hb, hml, hown, hts⟩ (c_X11_isMade_d21 l g tl σ l2 (pd + 1) a b c2 hl8 hLn (by omega) ha hb2 hc (fun h1 h2 h3 => by have := hd h1 h2 h3; omega)) (cwV 5 hts gX11_isMade_X11_isMade rfl rfl rfl (by decide +kernel) ⟨Nat.le_of_ble_eq_true rfl, Nat.le_of_ble_eq_true rfl⟩) (okPV hK hP rfl (gM0 g σ tl)) rfl rfl hl.1 rfl (lv_room (Nat.le_of_ble_eq_true rfl)) dX11_isMade_66 ⟨Nat.le_of_ble_eq_true rfl, Nat.le_of_ble_eq_true rfl⟩)) (fun r_66 h_66 => ?_)
            subst h_66
            refine jn_bne hx hb (tgt := 114) dX11_isMade_69 (by decide) (fun c_69 => ?_) (fun c_69 => ?_)
            · refine lv_iconst (v := nI 1) hx hb dX11_isMade_114 (by decide) ?_
              refine lv_goto (tgt := 119) hx hb dX11_isMade_115 (by decide) ?_
              exact hq _ _ ((nI 1)) dX11_isMade_119 jn_n1 (by first | exact n_if1 (hms.mpr (Or.inl c_69)) | exact n_if1 (hms.mpr (Or.inr c_111)) | exact n_if0 (fun q => (hms.mp q).elim c_69 c_111))
            · refine lv_aload_n hx hb dX11_isMade_72 rfl (lv_at hl 1 rfl) ?_
              refine lv_iload_n hx hb dX11_isMade_73 rfl (lv_at hl 2 rfl) ?_
              refine lv_iload_n hx hb dX11_isMade_74 rfl (lv_at hl 3 rfl) ?_
              refine lv_iload_n hx hb dX11_isMade_75 rfl (lv_at hl 4 rfl) ?_
              refine lv_aload_n hx hb dX11_isMade_76 rfl (lv_at hl 1 rfl) ?_
              refine va_get (D := (g.1, g.2.1)) (ci := 13) (v := .ref (g.2.2.2 1)) (C := RX11) (T := TX11) (N := 30) hx hb hts iX11 hown hK.1 hP 0 (gM0 g σ tl) rfl 1 (by decide) k13 (fun _ h9 => h9) rfl dX11_isMade_77 ?_
              refine lv_iload hx hb dX11_isMade_80 (lv_at hl 0 rfl) ?_
              refine jn_iald (f := σ.2.1 0) hx hb hK.1 hP 1 0 (gM1 g σ tl) rfl (by omega) (Nat.le_of_ble_eq_true rfl) dX11_isMade_82 ?_
              refine jn_isubB hx hb (by omega) dX11_isMade_83 ?_
              refine lv_iload hx hb dX11_isMade_84 (lv_at hl 5 rfl) ?_
              refine lv_aload_n hx hb dX11_isMade_86 rfl (lv_at hl 1 rfl) ?_
              refine va_get (D := (g.1, g.2.1)) (ci := 13) (v := .ref (g.2.2.2 1)) (C := RX11) (T := TX11) (N := 30) hx hb hts iX11 hown hK.1 hP 0 (gM0 g σ tl) rfl 1 (by decide) k13 (fun _ h9 => h9) rfl dX11_isMade_87 ?_
              refine lv_iload hx hb dX11_isMade_90 (lv_at hl 0 rfl) ?_
              refine lv_iconst (v := nI 1) hx hb dX11_isMade_92 (by decide) ?_
              refine jn_iadd hx hb dX11_isMade_93 ?_
              refine jn_iald (f := σ.2.1 0) hx hb hK.1 hP 1 0 (gM1 g σ tl) rfl (by omega) (Nat.le_of_ble_eq_true rfl) dX11_isMade_94 ?_
              refine jn_isubB hx hb (by omega) dX11_isMade_95 ?_
              refine lv_iload hx hb dX11_isMade_96 (lv_at hl 6 rfl) ?_
              refine lv_aload_n hx hb dX11_isMade_98 rfl (lv_at hl 1 rfl) ?_
              refine va_get (D := (g.1, g.2.1)) (ci := 13) (v := .ref (g.2.2.2 1)) (C := RX11) (T := TX11) (N := 30) hx hb hts iX11 hown hK.1 hP 0 (gM0 g σ tl) rfl 1 (by decide) k13 (fun _ h9 => h9) rfl dX11_isMade_99 ?_
              refine lv_iload hx hb dX11_isMade_102 (lv_at hl 0 rfl) ?_
              refine lv_iconst (v := nI 2) hx hb dX11_isMade_104 (by decide) ?_
              refine jn_iadd hx hb dX11_isMade_105 ?_
              refine jn_iald (f := σ.2.1 0) hx hb hK.1 hP 1 0 (gM1 g σ tl) rfl (by omega) (Nat.le_of_ble_eq_true rfl) dX11_isMade_106 ?_
              refine jn_isubB hx hb (by omega) dX11_isMade_107 ?_
              refine vp_callSi (va_Run.run (va_runV (As := [.int (nI l2), .int (nI pd), .int (nI (sb a ((σ.2.1 0) ((50 + (9 * l2)) + (3 * pd))))), .int (nI (sb b ((σ.2.1 0) (((50 + (9 * l2)) + (3 * pd)) + 1)))), .int (nI (sb c2 ((σ.2.1 0) (((50 + (9 * l2)) + (3 * pd)) + 2))))]) (rest := []) ⟨hx, hb, hml, hown, hts⟩ (c_X11_isMade_d21 l g tl σ l2 pd (sb a ((σ.2.1 0) ((50 + (9 * l2)) + (3 * pd)))) (sb b ((σ.2.1 0) (((50 + (9 * l2)) + (3 * pd)) + 1))) (sb c2 ((σ.2.1 0) (((50 + (9 * l2)) + (3 * pd)) + 2))) hl8 hLn hpd (sb_or ha9 p1) (sb_or hb9 p2) (sb_or hc9 p3) hmf) (cwV 5 hts gX11_isMade_X11_isMade rfl rfl rfl (by decide +kernel) ⟨Nat.le_of_ble_eq_true rfl, Nat.le_of_ble_eq_true rfl⟩) (okPV hK hP rfl (gM0 g σ tl)) rfl rfl hl.1 rfl (lv_room (Nat.le_of_ble_eq_true rfl)) dX11_isMade_108 ⟨Nat.le_of_ble_eq_true rfl, Nat.le_of_ble_eq_true rfl⟩)) (fun r_108 h_108 => ?_)
              subst h_108
              refine jn_beq hx hb (tgt := 118) dX11_isMade_111 (by decide) (fun c_111 => ?_) (fun c_111 => ?_)
              · refine lv_iconst (v := nI 0) hx hb dX11_isMade_118 (by decide) ?_
                exact hq _ _ ((nI 0)) dX11_isMade_119 jn_n0 (by first | exact n_if1 (hms.mpr (Or.inl c_69)) | exact n_if1 (hms.mpr (Or.inr c_111)) | exact n_if0 (fun q => (hms.mp q).elim c_69 c_111))
              · refine lv_iconst (v := nI 1) hx hb dX11_isMade_114 (by decide) ?_
                refine lv_goto (tgt := 119) hx hb dX11_isMade_115 (by decide) ?_
                exact hq _ _ ((nI 1)) dX11_isMade_119 jn_n1 (by first | exact n_if1 (hms.mpr (Or.inl c_69)) | exact n_if1 (hms.mpr (Or.inr c_111)) | exact n_if0 (fun q => (hms.mp q).elim c_69 c_111))
          · refine lv_iconst (v := nI 0) hx hb dX11_isMade_41 (by decide) ?_
            exact hq _ _ ((nI 0)) dX11_isMade_42 jn_n0 (n_if0 (fun q => by have q4 := cB_iff.mp q.2.2.2; rw [show (σ.2.1 0) (42 + l2) - pd = 0 by omega] at q4; obtain ⟨q5, q6, q7⟩ := q4; omega))
        · have ea : a = 0 := by omega
          have eb : b = 0 := by omega
          have ec : c2 = 0 := by omega
          refine lv_iconst (v := nI 1) hx hb dX11_isMade_26 (by decide) ?_
          exact hq _ _ ((nI 1)) dX11_isMade_27 jn_n1 (n_if1 ⟨by omega, by omega, by omega, cB_iff.mpr (by rw [ea, eb, ec]; exact md_0 _ _ _ _)⟩)
      · refine lv_iconst (v := nI 0) hx hb dX11_isMade_14 (by decide) ?_
        exact hq _ _ ((nI 0)) dX11_isMade_15 jn_n0 (n_if0 (fun q => by have q1 := q.1; have q2 := q.2.1; have q3 := q.2.2.1; omega))

abbrev r_c_X11_isMade_d23 : Room := { frames := 23, cells := 0, slots := 0, locals := 598 }
set_option maxHeartbeats 4000000 in
set_option maxRecDepth 100000 in
theorem c_X11_isMade_d23 (l : Launch) (g : GC) (tl : va_W) (σ : SS) (l2 pd a b c2 : Nat) (hl8 : l2 < 8) (hLn : Ln (σ.2.1 0) l2) (hpd : pd ≤ (σ.2.1 0) (42 + l2)) (ha : a < 10 ∨ (2147483648 ≤ a ∧ a < 4294967296)) (hb2 : b < 10 ∨ (2147483648 ≤ b ∧ b < 4294967296)) (hc : c2 < 10 ∨ (2147483648 ≤ c2 ∧ c2 < 4294967296)) (hd : a < 10 → b < 10 → c2 < 10 → (σ.2.1 0) (42 + l2) - pd + (a + b + c2) ≤ 23) : Met l yX11_isMade wsX11_isMade r_c_X11_isMade_d23 (va_Pc [.ref (g.2.2.2 0), .int (nI l2), .int (nI pd), .int (nI a), .int (nI b), .int (nI c2)] (PP g (wM g σ ++ tl))) (vp_Si (fun r => r = nI (if mdQ (σ.2.1 0) l2 ((σ.2.1 0) (42 + l2) - pd) pd a b c2 then 1 else 0))) 0 0 (fun _ => False) := by
  refine jn_pz (cc := cX11_isMade) (maxL := 7) (own := RX11) (by decide) rfl rfl (Nat.le_of_ble_eq_true rfl) ?_
  intro p e s m below meth c Q hx hb hml hown hts ⟨hP, hK⟩ hq ls hl
  have hl : lv_has ls 7 [(0, .ref (g.2.2.2 0)), (1, .int (nI l2)), (2, .int (nI pd)), (3, .int (nI a)), (4, .int (nI b)), (5, .int (nI c2))] := hl
  have iX11 : ∀ w ∈ wsX110, w ∈ wsX11_isMade := by decide +kernel
  have k13 := hts (.fieldLink RX11 13 "JumpingAutomataModel" "now" "[I") (by decide +kernel)
  have hH3 := hLn.2.1
  refine lv_iload_n hx hb dX11_isMade_0 rfl (lv_at hl 3 rfl) ?_
  refine jn_zlt hx hb (by omega) (tgt := 14) dX11_isMade_1 (by decide) (fun c_1 => ?_) (fun c_1 => ?_)
  · refine lv_iconst (v := nI 0) hx hb dX11_isMade_14 (by decide) ?_
    exact hq _ _ ((nI 0)) dX11_isMade_15 jn_n0 (n_if0 (fun q => by have q1 := q.1; have q2 := q.2.1; have q3 := q.2.2.1; omega))
  · refine lv_iload hx hb dX11_isMade_4 (lv_at hl 4 rfl) ?_
    refine jn_zlt hx hb (by omega) (tgt := 14) dX11_isMade_6 (by decide) (fun c_6 => ?_) (fun c_6 => ?_)
    · refine lv_iconst (v := nI 0) hx hb dX11_isMade_14 (by decide) ?_
      exact hq _ _ ((nI 0)) dX11_isMade_15 jn_n0 (n_if0 (fun q => by have q1 := q.1; have q2 := q.2.1; have q3 := q.2.2.1; omega))
    · refine lv_iload hx hb dX11_isMade_9 (lv_at hl 5 rfl) ?_
      refine jn_zge hx hb (by omega) (tgt := 16) dX11_isMade_11 (by decide) (fun c_11 => ?_) (fun c_11 => ?_)
      · refine lv_iload_n hx hb dX11_isMade_16 rfl (lv_at hl 3 rfl) ?_
        refine lv_iload hx hb dX11_isMade_17 (lv_at hl 4 rfl) ?_
        refine jn_iadd hx hb dX11_isMade_19 ?_
        refine lv_iload hx hb dX11_isMade_20 (lv_at hl 5 rfl) ?_
        refine jn_iadd hx hb dX11_isMade_22 ?_
        refine jn_zne hx hb (by omega) (tgt := 28) dX11_isMade_23 (by decide) (fun c_23 => ?_) (fun c_23 => ?_)
        · refine lv_iload_n hx hb dX11_isMade_28 rfl (lv_at hl 2 rfl) ?_
          refine lv_aload_n hx hb dX11_isMade_29 rfl (lv_at hl 0 rfl) ?_
          refine va_get (D := (g.1, g.2.1)) (ci := 13) (v := .ref (g.2.2.2 1)) (C := RX11) (T := TX11) (N := 30) hx hb hts iX11 hown hK.1 hP 0 (gM0 g σ tl) rfl 1 (by decide) k13 (fun _ h9 => h9) rfl dX11_isMade_30 ?_
          refine lv_bipush (v := nI 42) hx hb dX11_isMade_33 (by decide) ?_
          refine lv_iload_n hx hb dX11_isMade_35 rfl (lv_at hl 1 rfl) ?_
          refine jn_iadd hx hb dX11_isMade_36 ?_
          refine jn_iald (f := σ.2.1 0) hx hb hK.1 hP 1 0 (gM1 g σ tl) rfl (by omega) (Nat.le_of_ble_eq_true rfl) dX11_isMade_37 ?_
          refine jn_cne hx hb (by omega) (by omega) (tgt := 43) dX11_isMade_38 (by decide) (fun c_38 => ?_) (fun c_38 => ?_)
          · have hlt : pd < (σ.2.1 0) (42 + l2) := by omega
            obtain ⟨p1, p2, p3, p4⟩ := hLn.2.2 pd hlt
            have ha9 : a < 10 := by omega
            have hb9 : b < 10 := by omega
            have hc9 : c2 < 10 := by omega
            have hms := md_step (l := l2) hlt ha9 hb9 hc9 p1 p2 p3
            have hmf := md_fuel (l := l2) (d := 22) hlt ha9 hb9 hc9 p1 p2 p3 p4 (hd ha9 hb9 hc9)
            refine lv_bipush (v := nI 50) hx hb dX11_isMade_43 (by decide) ?_
            refine lv_bipush (v := nI 9) hx hb dX11_isMade_45 (by decide) ?_
            refine lv_iload_n hx hb dX11_isMade_47 rfl (lv_at hl 1 rfl) ?_
            refine jn_imul hx hb dX11_isMade_48 ?_
            refine jn_iadd hx hb dX11_isMade_49 ?_
            refine lv_iconst (v := nI 3) hx hb dX11_isMade_50 (by decide) ?_
            refine lv_iload_n hx hb dX11_isMade_51 rfl (lv_at hl 2 rfl) ?_
            refine jn_imul hx hb dX11_isMade_52 ?_
            refine jn_iadd hx hb dX11_isMade_53 ?_
            refine lv_istore (lv' := [(6, .int (nI ((50 + (9 * l2)) + (3 * pd)))), (0, .ref (g.2.2.2 0)), (1, .int (nI l2)), (2, .int (nI pd)), (3, .int (nI a)), (4, .int (nI b)), (5, .int (nI c2))]) hx hb dX11_isMade_54 hl (by decide) rfl (fun ls hl => ?_)
            refine lv_aload_n hx hb dX11_isMade_56 rfl (lv_at hl 1 rfl) ?_
            refine lv_iload_n hx hb dX11_isMade_57 rfl (lv_at hl 2 rfl) ?_
            refine lv_iload_n hx hb dX11_isMade_58 rfl (lv_at hl 3 rfl) ?_
            refine lv_iconst (v := nI 1) hx hb dX11_isMade_59 (by decide) ?_
            refine jn_iadd hx hb dX11_isMade_60 ?_
            refine lv_iload_n hx hb dX11_isMade_61 rfl (lv_at hl 4 rfl) ?_
            refine lv_iload hx hb dX11_isMade_62 (lv_at hl 5 rfl) ?_
            refine lv_iload hx hb dX11_isMade_64 (lv_at hl 6 rfl) ?_
            refine vp_callSi (va_Run.run (va_runV (As := [.int (nI l2), .int (nI (pd + 1)), .int (nI a), .int (nI b), .int (nI c2)]) (rest := []) ⟨hx, hb, hml, hown, hts⟩ (c_X11_isMade_d22 l g tl σ l2 (pd + 1) a b c2 hl8 hLn (by omega) ha hb2 hc (fun h1 h2 h3 => by have := hd h1 h2 h3; omega)) (cwV 5 hts gX11_isMade_X11_isMade rfl rfl rfl (by decide +kernel) ⟨Nat.le_of_ble_eq_true rfl, Nat.le_of_ble_eq_true rfl⟩) (okPV hK hP rfl (gM0 g σ tl)) rfl rfl hl.1 rfl (lv_room (Nat.le_of_ble_eq_true rfl)) dX11_isMade_66 ⟨Nat.le_of_ble_eq_true rfl, Nat.le_of_ble_eq_true rfl⟩)) (fun r_66 h_66 => ?_)
            subst h_66
            refine jn_bne hx hb (tgt := 114) dX11_isMade_69 (by decide) (fun c_69 => ?_) (fun c_69 => ?_)
            · refine lv_iconst (v := nI 1) hx hb dX11_isMade_114 (by decide) ?_
              refine lv_goto (tgt := 119) hx hb dX11_isMade_115 (by decide) ?_
              exact hq _ _ ((nI 1)) dX11_isMade_119 jn_n1 (by first | exact n_if1 (hms.mpr (Or.inl c_69)) | exact n_if1 (hms.mpr (Or.inr c_111)) | exact n_if0 (fun q => (hms.mp q).elim c_69 c_111))
            · refine lv_aload_n hx hb dX11_isMade_72 rfl (lv_at hl 1 rfl) ?_
              refine lv_iload_n hx hb dX11_isMade_73 rfl (lv_at hl 2 rfl) ?_
              refine lv_iload_n hx hb dX11_isMade_74 rfl (lv_at hl 3 rfl) ?_
              refine lv_iload_n hx hb dX11_isMade_75 rfl (lv_at hl 4 rfl) ?_
              refine lv_aload_n hx hb dX11_isMade_76 rfl (lv_at hl 1 rfl) ?_
              refine va_get (D := (g.1, g.2.1)) (ci := 13) (v := .ref (g.2.2.2 1)) (C := RX11) (T := TX11) (N := 30) hx hb hts iX11 hown hK.1 hP 0 (gM0 g σ tl) rfl 1 (by decide) k13 (fun _ h9 => h9) rfl dX11_isMade_77 ?_
              refine lv_iload hx hb dX11_isMade_80 (lv_at hl 0 rfl) ?_
              refine jn_iald (f := σ.2.1 0) hx hb hK.1 hP 1 0 (gM1 g σ tl) rfl (by omega) (Nat.le_of_ble_eq_true rfl) dX11_isMade_82 ?_
              refine jn_isubB hx hb (by omega) dX11_isMade_83 ?_
              refine lv_iload hx hb dX11_isMade_84 (lv_at hl 5 rfl) ?_
              refine lv_aload_n hx hb dX11_isMade_86 rfl (lv_at hl 1 rfl) ?_
              refine va_get (D := (g.1, g.2.1)) (ci := 13) (v := .ref (g.2.2.2 1)) (C := RX11) (T := TX11) (N := 30) hx hb hts iX11 hown hK.1 hP 0 (gM0 g σ tl) rfl 1 (by decide) k13 (fun _ h9 => h9) rfl dX11_isMade_87 ?_
              refine lv_iload hx hb dX11_isMade_90 (lv_at hl 0 rfl) ?_
              refine lv_iconst (v := nI 1) hx hb dX11_isMade_92 (by decide) ?_
              refine jn_iadd hx hb dX11_isMade_93 ?_
              refine jn_iald (f := σ.2.1 0) hx hb hK.1 hP 1 0 (gM1 g σ tl) rfl (by omega) (Nat.le_of_ble_eq_true rfl) dX11_isMade_94 ?_
              refine jn_isubB hx hb (by omega) dX11_isMade_95 ?_
              refine lv_iload hx hb dX11_isMade_96 (lv_at hl 6 rfl) ?_
              refine lv_aload_n hx hb dX11_isMade_98 rfl (lv_at hl 1 rfl) ?_
              refine va_get (D := (g.1, g.2.1)) (ci := 13) (v := .ref (g.2.2.2 1)) (C := RX11) (T := TX11) (N := 30) hx hb hts iX11 hown hK.1 hP 0 (gM0 g σ tl) rfl 1 (by decide) k13 (fun _ h9 => h9) rfl dX11_isMade_99 ?_
              refine lv_iload hx hb dX11_isMade_102 (lv_at hl 0 rfl) ?_
              refine lv_iconst (v := nI 2) hx hb dX11_isMade_104 (by decide) ?_
              refine jn_iadd hx hb dX11_isMade_105 ?_
              refine jn_iald (f := σ.2.1 0) hx hb hK.1 hP 1 0 (gM1 g σ tl) rfl (by omega) (Nat.le_of_ble_eq_true rfl) dX11_isMade_106 ?_
              refine jn_isubB hx hb (by omega) dX11_isMade_107 ?_
              refine vp_callSi (va_Run.run (va_runV (As := [.int (nI l2), .int (nI pd), .int (nI (sb a ((σ.2.1 0) ((50 + (9 * l2)) + (3 * pd))))), .int (nI (sb b ((σ.2.1 0) (((50 + (9 * l2)) + (3 * pd)) + 1)))), .int (nI (sb c2 ((σ.2.1 0) (((50 + (9 * l2)) + (3 * pd)) + 2))))]) (rest := []) ⟨hx, hb, hml, hown, hts⟩ (c_X11_isMade_d22 l g tl σ l2 pd (sb a ((σ.2.1 0) ((50 + (9 * l2)) + (3 * pd)))) (sb b ((σ.2.1 0) (((50 + (9 * l2)) + (3 * pd)) + 1))) (sb c2 ((σ.2.1 0) (((50 + (9 * l2)) + (3 * pd)) + 2))) hl8 hLn hpd (sb_or ha9 p1) (sb_or hb9 p2) (sb_or hc9 p3) hmf) (cwV 5 hts gX11_isMade_X11_isMade rfl rfl rfl (by decide +kernel) ⟨Nat.le_of_ble_eq_true rfl, Nat.le_of_ble_eq_true rfl⟩) (okPV hK hP rfl (gM0 g σ tl)) rfl rfl hl.1 rfl (lv_room (Nat.le_of_ble_eq_true rfl)) dX11_isMade_108 ⟨Nat.le_of_ble_eq_true rfl, Nat.le_of_ble_eq_true rfl⟩)) (fun r_108 h_108 => ?_)
              subst h_108
              refine jn_beq hx hb (tgt := 118) dX11_isMade_111 (by decide) (fun c_111 => ?_) (fun c_111 => ?_)
              · refine lv_iconst (v := nI 0) hx hb dX11_isMade_118 (by decide) ?_
                exact hq _ _ ((nI 0)) dX11_isMade_119 jn_n0 (by first | exact n_if1 (hms.mpr (Or.inl c_69)) | exact n_if1 (hms.mpr (Or.inr c_111)) | exact n_if0 (fun q => (hms.mp q).elim c_69 c_111))
              · refine lv_iconst (v := nI 1) hx hb dX11_isMade_114 (by decide) ?_
                refine lv_goto (tgt := 119) hx hb dX11_isMade_115 (by decide) ?_
                exact hq _ _ ((nI 1)) dX11_isMade_119 jn_n1 (by first | exact n_if1 (hms.mpr (Or.inl c_69)) | exact n_if1 (hms.mpr (Or.inr c_111)) | exact n_if0 (fun q => (hms.mp q).elim c_69 c_111))
          · refine lv_iconst (v := nI 0) hx hb dX11_isMade_41 (by decide) ?_
            exact hq _ _ ((nI 0)) dX11_isMade_42 jn_n0 (n_if0 (fun q => by have q4 := cB_iff.mp q.2.2.2; rw [show (σ.2.1 0) (42 + l2) - pd = 0 by omega] at q4; obtain ⟨q5, q6, q7⟩ := q4; omega))
        · have ea : a = 0 := by omega
          have eb : b = 0 := by omega
          have ec : c2 = 0 := by omega
          refine lv_iconst (v := nI 1) hx hb dX11_isMade_26 (by decide) ?_
          exact hq _ _ ((nI 1)) dX11_isMade_27 jn_n1 (n_if1 ⟨by omega, by omega, by omega, cB_iff.mpr (by rw [ea, eb, ec]; exact md_0 _ _ _ _)⟩)
      · refine lv_iconst (v := nI 0) hx hb dX11_isMade_14 (by decide) ?_
        exact hq _ _ ((nI 0)) dX11_isMade_15 jn_n0 (n_if0 (fun q => by have q1 := q.1; have q2 := q.2.1; have q3 := q.2.2.1; omega))

abbrev r_c_X11_isMade_d24 : Room := { frames := 24, cells := 0, slots := 0, locals := 624 }
set_option maxHeartbeats 4000000 in
set_option maxRecDepth 100000 in
theorem c_X11_isMade_d24 (l : Launch) (g : GC) (tl : va_W) (σ : SS) (l2 pd a b c2 : Nat) (hl8 : l2 < 8) (hLn : Ln (σ.2.1 0) l2) (hpd : pd ≤ (σ.2.1 0) (42 + l2)) (ha : a < 10 ∨ (2147483648 ≤ a ∧ a < 4294967296)) (hb2 : b < 10 ∨ (2147483648 ≤ b ∧ b < 4294967296)) (hc : c2 < 10 ∨ (2147483648 ≤ c2 ∧ c2 < 4294967296)) (hd : a < 10 → b < 10 → c2 < 10 → (σ.2.1 0) (42 + l2) - pd + (a + b + c2) ≤ 24) : Met l yX11_isMade wsX11_isMade r_c_X11_isMade_d24 (va_Pc [.ref (g.2.2.2 0), .int (nI l2), .int (nI pd), .int (nI a), .int (nI b), .int (nI c2)] (PP g (wM g σ ++ tl))) (vp_Si (fun r => r = nI (if mdQ (σ.2.1 0) l2 ((σ.2.1 0) (42 + l2) - pd) pd a b c2 then 1 else 0))) 0 0 (fun _ => False) := by
  refine jn_pz (cc := cX11_isMade) (maxL := 7) (own := RX11) (by decide) rfl rfl (Nat.le_of_ble_eq_true rfl) ?_
  intro p e s m below meth c Q hx hb hml hown hts ⟨hP, hK⟩ hq ls hl
  have hl : lv_has ls 7 [(0, .ref (g.2.2.2 0)), (1, .int (nI l2)), (2, .int (nI pd)), (3, .int (nI a)), (4, .int (nI b)), (5, .int (nI c2))] := hl
  have iX11 : ∀ w ∈ wsX110, w ∈ wsX11_isMade := by decide +kernel
  have k13 := hts (.fieldLink RX11 13 "JumpingAutomataModel" "now" "[I") (by decide +kernel)
  have hH3 := hLn.2.1
  refine lv_iload_n hx hb dX11_isMade_0 rfl (lv_at hl 3 rfl) ?_
  refine jn_zlt hx hb (by omega) (tgt := 14) dX11_isMade_1 (by decide) (fun c_1 => ?_) (fun c_1 => ?_)
  · refine lv_iconst (v := nI 0) hx hb dX11_isMade_14 (by decide) ?_
    exact hq _ _ ((nI 0)) dX11_isMade_15 jn_n0 (n_if0 (fun q => by have q1 := q.1; have q2 := q.2.1; have q3 := q.2.2.1; omega))
  · refine lv_iload hx hb dX11_isMade_4 (lv_at hl 4 rfl) ?_
    refine jn_zlt hx hb (by omega) (tgt := 14) dX11_isMade_6 (by decide) (fun c_6 => ?_) (fun c_6 => ?_)
    · refine lv_iconst (v := nI 0) hx hb dX11_isMade_14 (by decide) ?_
      exact hq _ _ ((nI 0)) dX11_isMade_15 jn_n0 (n_if0 (fun q => by have q1 := q.1; have q2 := q.2.1; have q3 := q.2.2.1; omega))
    · refine lv_iload hx hb dX11_isMade_9 (lv_at hl 5 rfl) ?_
      refine jn_zge hx hb (by omega) (tgt := 16) dX11_isMade_11 (by decide) (fun c_11 => ?_) (fun c_11 => ?_)
      · refine lv_iload_n hx hb dX11_isMade_16 rfl (lv_at hl 3 rfl) ?_
        refine lv_iload hx hb dX11_isMade_17 (lv_at hl 4 rfl) ?_
        refine jn_iadd hx hb dX11_isMade_19 ?_
        refine lv_iload hx hb dX11_isMade_20 (lv_at hl 5 rfl) ?_
        refine jn_iadd hx hb dX11_isMade_22 ?_
        refine jn_zne hx hb (by omega) (tgt := 28) dX11_isMade_23 (by decide) (fun c_23 => ?_) (fun c_23 => ?_)
        · refine lv_iload_n hx hb dX11_isMade_28 rfl (lv_at hl 2 rfl) ?_
          refine lv_aload_n hx hb dX11_isMade_29 rfl (lv_at hl 0 rfl) ?_
          refine va_get (D := (g.1, g.2.1)) (ci := 13) (v := .ref (g.2.2.2 1)) (C := RX11) (T := TX11) (N := 30) hx hb hts iX11 hown hK.1 hP 0 (gM0 g σ tl) rfl 1 (by decide) k13 (fun _ h9 => h9) rfl dX11_isMade_30 ?_
          refine lv_bipush (v := nI 42) hx hb dX11_isMade_33 (by decide) ?_
          refine lv_iload_n hx hb dX11_isMade_35 rfl (lv_at hl 1 rfl) ?_
          refine jn_iadd hx hb dX11_isMade_36 ?_
          refine jn_iald (f := σ.2.1 0) hx hb hK.1 hP 1 0 (gM1 g σ tl) rfl (by omega) (Nat.le_of_ble_eq_true rfl) dX11_isMade_37 ?_
          refine jn_cne hx hb (by omega) (by omega) (tgt := 43) dX11_isMade_38 (by decide) (fun c_38 => ?_) (fun c_38 => ?_)
          · have hlt : pd < (σ.2.1 0) (42 + l2) := by omega
            obtain ⟨p1, p2, p3, p4⟩ := hLn.2.2 pd hlt
            have ha9 : a < 10 := by omega
            have hb9 : b < 10 := by omega
            have hc9 : c2 < 10 := by omega
            have hms := md_step (l := l2) hlt ha9 hb9 hc9 p1 p2 p3
            have hmf := md_fuel (l := l2) (d := 23) hlt ha9 hb9 hc9 p1 p2 p3 p4 (hd ha9 hb9 hc9)
            refine lv_bipush (v := nI 50) hx hb dX11_isMade_43 (by decide) ?_
            refine lv_bipush (v := nI 9) hx hb dX11_isMade_45 (by decide) ?_
            refine lv_iload_n hx hb dX11_isMade_47 rfl (lv_at hl 1 rfl) ?_
            refine jn_imul hx hb dX11_isMade_48 ?_
            refine jn_iadd hx hb dX11_isMade_49 ?_
            refine lv_iconst (v := nI 3) hx hb dX11_isMade_50 (by decide) ?_
            refine lv_iload_n hx hb dX11_isMade_51 rfl (lv_at hl 2 rfl) ?_
            refine jn_imul hx hb dX11_isMade_52 ?_
            refine jn_iadd hx hb dX11_isMade_53 ?_
            refine lv_istore (lv' := [(6, .int (nI ((50 + (9 * l2)) + (3 * pd)))), (0, .ref (g.2.2.2 0)), (1, .int (nI l2)), (2, .int (nI pd)), (3, .int (nI a)), (4, .int (nI b)), (5, .int (nI c2))]) hx hb dX11_isMade_54 hl (by decide) rfl (fun ls hl => ?_)
            refine lv_aload_n hx hb dX11_isMade_56 rfl (lv_at hl 1 rfl) ?_
            refine lv_iload_n hx hb dX11_isMade_57 rfl (lv_at hl 2 rfl) ?_
            refine lv_iload_n hx hb dX11_isMade_58 rfl (lv_at hl 3 rfl) ?_
            refine lv_iconst (v := nI 1) hx hb dX11_isMade_59 (by decide) ?_
            refine jn_iadd hx hb dX11_isMade_60 ?_
            refine lv_iload_n hx hb dX11_isMade_61 rfl (lv_at hl 4 rfl) ?_
            refine lv_iload hx hb dX11_isMade_62 (lv_at hl 5 rfl) ?_
            refine lv_iload hx hb dX11_isMade_64 (lv_at hl 6 rfl) ?_
            refine vp_callSi (va_Run.run (va_runV (As := [.int (nI l2), .int (nI (pd + 1)), .int (nI a), .int (nI b), .int (nI c2)]) (rest := []) ⟨hx, hb, hml, hown, hts⟩ (c_X11_isMade_d23 l g tl σ l2 (pd + 1) a b c2 hl8 hLn (by omega) ha hb2 hc (fun h1 h2 h3 => by have := hd h1 h2 h3; omega)) (cwV 5 hts gX11_isMade_X11_isMade rfl rfl rfl (by decide +kernel) ⟨Nat.le_of_ble_eq_true rfl, Nat.le_of_ble_eq_true rfl⟩) (okPV hK hP rfl (gM0 g σ tl)) rfl rfl hl.1 rfl (lv_room (Nat.le_of_ble_eq_true rfl)) dX11_isMade_66 ⟨Nat.le_of_ble_eq_true rfl, Nat.le_of_ble_eq_true rfl⟩)) (fun r_66 h_66 => ?_)
            subst h_66
            refine jn_bne hx hb (tgt := 114) dX11_isMade_69 (by decide) (fun c_69 => ?_) (fun c_69 => ?_)
            · refine lv_iconst (v := nI 1) hx hb dX11_isMade_114 (by decide) ?_
              refine lv_goto (tgt := 119) hx hb dX11_isMade_115 (by decide) ?_
              exact hq _ _ ((nI 1)) dX11_isMade_119 jn_n1 (by first | exact n_if1 (hms.mpr (Or.inl c_69)) | exact n_if1 (hms.mpr (Or.inr c_111)) | exact n_if0 (fun q => (hms.mp q).elim c_69 c_111))
            · refine lv_aload_n hx hb dX11_isMade_72 rfl (lv_at hl 1 rfl) ?_
              refine lv_iload_n hx hb dX11_isMade_73 rfl (lv_at hl 2 rfl) ?_
              refine lv_iload_n hx hb dX11_isMade_74 rfl (lv_at hl 3 rfl) ?_
              refine lv_iload_n hx hb dX11_isMade_75 rfl (lv_at hl 4 rfl) ?_
              refine lv_aload_n hx hb dX11_isMade_76 rfl (lv_at hl 1 rfl) ?_
              refine va_get (D := (g.1, g.2.1)) (ci := 13) (v := .ref (g.2.2.2 1)) (C := RX11) (T := TX11) (N := 30) hx hb hts iX11 hown hK.1 hP 0 (gM0 g σ tl) rfl 1 (by decide) k13 (fun _ h9 => h9) rfl dX11_isMade_77 ?_
              refine lv_iload hx hb dX11_isMade_80 (lv_at hl 0 rfl) ?_
              refine jn_iald (f := σ.2.1 0) hx hb hK.1 hP 1 0 (gM1 g σ tl) rfl (by omega) (Nat.le_of_ble_eq_true rfl) dX11_isMade_82 ?_
              refine jn_isubB hx hb (by omega) dX11_isMade_83 ?_
              refine lv_iload hx hb dX11_isMade_84 (lv_at hl 5 rfl) ?_
              refine lv_aload_n hx hb dX11_isMade_86 rfl (lv_at hl 1 rfl) ?_
              refine va_get (D := (g.1, g.2.1)) (ci := 13) (v := .ref (g.2.2.2 1)) (C := RX11) (T := TX11) (N := 30) hx hb hts iX11 hown hK.1 hP 0 (gM0 g σ tl) rfl 1 (by decide) k13 (fun _ h9 => h9) rfl dX11_isMade_87 ?_
              refine lv_iload hx hb dX11_isMade_90 (lv_at hl 0 rfl) ?_
              refine lv_iconst (v := nI 1) hx hb dX11_isMade_92 (by decide) ?_
              refine jn_iadd hx hb dX11_isMade_93 ?_
              refine jn_iald (f := σ.2.1 0) hx hb hK.1 hP 1 0 (gM1 g σ tl) rfl (by omega) (Nat.le_of_ble_eq_true rfl) dX11_isMade_94 ?_
              refine jn_isubB hx hb (by omega) dX11_isMade_95 ?_
              refine lv_iload hx hb dX11_isMade_96 (lv_at hl 6 rfl) ?_
              refine lv_aload_n hx hb dX11_isMade_98 rfl (lv_at hl 1 rfl) ?_
              refine va_get (D := (g.1, g.2.1)) (ci := 13) (v := .ref (g.2.2.2 1)) (C := RX11) (T := TX11) (N := 30) hx hb hts iX11 hown hK.1 hP 0 (gM0 g σ tl) rfl 1 (by decide) k13 (fun _ h9 => h9) rfl dX11_isMade_99 ?_
              refine lv_iload hx hb dX11_isMade_102 (lv_at hl 0 rfl) ?_
              refine lv_iconst (v := nI 2) hx hb dX11_isMade_104 (by decide) ?_
              refine jn_iadd hx hb dX11_isMade_105 ?_
              refine jn_iald (f := σ.2.1 0) hx hb hK.1 hP 1 0 (gM1 g σ tl) rfl (by omega) (Nat.le_of_ble_eq_true rfl) dX11_isMade_106 ?_
              refine jn_isubB hx hb (by omega) dX11_isMade_107 ?_
              refine vp_callSi (va_Run.run (va_runV (As := [.int (nI l2), .int (nI pd), .int (nI (sb a ((σ.2.1 0) ((50 + (9 * l2)) + (3 * pd))))), .int (nI (sb b ((σ.2.1 0) (((50 + (9 * l2)) + (3 * pd)) + 1)))), .int (nI (sb c2 ((σ.2.1 0) (((50 + (9 * l2)) + (3 * pd)) + 2))))]) (rest := []) ⟨hx, hb, hml, hown, hts⟩ (c_X11_isMade_d23 l g tl σ l2 pd (sb a ((σ.2.1 0) ((50 + (9 * l2)) + (3 * pd)))) (sb b ((σ.2.1 0) (((50 + (9 * l2)) + (3 * pd)) + 1))) (sb c2 ((σ.2.1 0) (((50 + (9 * l2)) + (3 * pd)) + 2))) hl8 hLn hpd (sb_or ha9 p1) (sb_or hb9 p2) (sb_or hc9 p3) hmf) (cwV 5 hts gX11_isMade_X11_isMade rfl rfl rfl (by decide +kernel) ⟨Nat.le_of_ble_eq_true rfl, Nat.le_of_ble_eq_true rfl⟩) (okPV hK hP rfl (gM0 g σ tl)) rfl rfl hl.1 rfl (lv_room (Nat.le_of_ble_eq_true rfl)) dX11_isMade_108 ⟨Nat.le_of_ble_eq_true rfl, Nat.le_of_ble_eq_true rfl⟩)) (fun r_108 h_108 => ?_)
              subst h_108
              refine jn_beq hx hb (tgt := 118) dX11_isMade_111 (by decide) (fun c_111 => ?_) (fun c_111 => ?_)
              · refine lv_iconst (v := nI 0) hx hb dX11_isMade_118 (by decide) ?_
                exact hq _ _ ((nI 0)) dX11_isMade_119 jn_n0 (by first | exact n_if1 (hms.mpr (Or.inl c_69)) | exact n_if1 (hms.mpr (Or.inr c_111)) | exact n_if0 (fun q => (hms.mp q).elim c_69 c_111))
              · refine lv_iconst (v := nI 1) hx hb dX11_isMade_114 (by decide) ?_
                refine lv_goto (tgt := 119) hx hb dX11_isMade_115 (by decide) ?_
                exact hq _ _ ((nI 1)) dX11_isMade_119 jn_n1 (by first | exact n_if1 (hms.mpr (Or.inl c_69)) | exact n_if1 (hms.mpr (Or.inr c_111)) | exact n_if0 (fun q => (hms.mp q).elim c_69 c_111))
          · refine lv_iconst (v := nI 0) hx hb dX11_isMade_41 (by decide) ?_
            exact hq _ _ ((nI 0)) dX11_isMade_42 jn_n0 (n_if0 (fun q => by have q4 := cB_iff.mp q.2.2.2; rw [show (σ.2.1 0) (42 + l2) - pd = 0 by omega] at q4; obtain ⟨q5, q6, q7⟩ := q4; omega))
        · have ea : a = 0 := by omega
          have eb : b = 0 := by omega
          have ec : c2 = 0 := by omega
          refine lv_iconst (v := nI 1) hx hb dX11_isMade_26 (by decide) ?_
          exact hq _ _ ((nI 1)) dX11_isMade_27 jn_n1 (n_if1 ⟨by omega, by omega, by omega, cB_iff.mpr (by rw [ea, eb, ec]; exact md_0 _ _ _ _)⟩)
      · refine lv_iconst (v := nI 0) hx hb dX11_isMade_14 (by decide) ?_
        exact hq _ _ ((nI 0)) dX11_isMade_15 jn_n0 (n_if0 (fun q => by have q1 := q.1; have q2 := q.2.1; have q3 := q.2.2.1; omega))

abbrev r_c_X11_isMade_d25 : Room := { frames := 25, cells := 0, slots := 0, locals := 650 }
set_option maxHeartbeats 4000000 in
set_option maxRecDepth 100000 in
theorem c_X11_isMade_d25 (l : Launch) (g : GC) (tl : va_W) (σ : SS) (l2 pd a b c2 : Nat) (hl8 : l2 < 8) (hLn : Ln (σ.2.1 0) l2) (hpd : pd ≤ (σ.2.1 0) (42 + l2)) (ha : a < 10 ∨ (2147483648 ≤ a ∧ a < 4294967296)) (hb2 : b < 10 ∨ (2147483648 ≤ b ∧ b < 4294967296)) (hc : c2 < 10 ∨ (2147483648 ≤ c2 ∧ c2 < 4294967296)) (hd : a < 10 → b < 10 → c2 < 10 → (σ.2.1 0) (42 + l2) - pd + (a + b + c2) ≤ 25) : Met l yX11_isMade wsX11_isMade r_c_X11_isMade_d25 (va_Pc [.ref (g.2.2.2 0), .int (nI l2), .int (nI pd), .int (nI a), .int (nI b), .int (nI c2)] (PP g (wM g σ ++ tl))) (vp_Si (fun r => r = nI (if mdQ (σ.2.1 0) l2 ((σ.2.1 0) (42 + l2) - pd) pd a b c2 then 1 else 0))) 0 0 (fun _ => False) := by
  refine jn_pz (cc := cX11_isMade) (maxL := 7) (own := RX11) (by decide) rfl rfl (Nat.le_of_ble_eq_true rfl) ?_
  intro p e s m below meth c Q hx hb hml hown hts ⟨hP, hK⟩ hq ls hl
  have hl : lv_has ls 7 [(0, .ref (g.2.2.2 0)), (1, .int (nI l2)), (2, .int (nI pd)), (3, .int (nI a)), (4, .int (nI b)), (5, .int (nI c2))] := hl
  have iX11 : ∀ w ∈ wsX110, w ∈ wsX11_isMade := by decide +kernel
  have k13 := hts (.fieldLink RX11 13 "JumpingAutomataModel" "now" "[I") (by decide +kernel)
  have hH3 := hLn.2.1
  refine lv_iload_n hx hb dX11_isMade_0 rfl (lv_at hl 3 rfl) ?_
  refine jn_zlt hx hb (by omega) (tgt := 14) dX11_isMade_1 (by decide) (fun c_1 => ?_) (fun c_1 => ?_)
  · refine lv_iconst (v := nI 0) hx hb dX11_isMade_14 (by decide) ?_
    exact hq _ _ ((nI 0)) dX11_isMade_15 jn_n0 (n_if0 (fun q => by have q1 := q.1; have q2 := q.2.1; have q3 := q.2.2.1; omega))
  · refine lv_iload hx hb dX11_isMade_4 (lv_at hl 4 rfl) ?_
    refine jn_zlt hx hb (by omega) (tgt := 14) dX11_isMade_6 (by decide) (fun c_6 => ?_) (fun c_6 => ?_)
    · refine lv_iconst (v := nI 0) hx hb dX11_isMade_14 (by decide) ?_
      exact hq _ _ ((nI 0)) dX11_isMade_15 jn_n0 (n_if0 (fun q => by have q1 := q.1; have q2 := q.2.1; have q3 := q.2.2.1; omega))
    · refine lv_iload hx hb dX11_isMade_9 (lv_at hl 5 rfl) ?_
      refine jn_zge hx hb (by omega) (tgt := 16) dX11_isMade_11 (by decide) (fun c_11 => ?_) (fun c_11 => ?_)
      · refine lv_iload_n hx hb dX11_isMade_16 rfl (lv_at hl 3 rfl) ?_
        refine lv_iload hx hb dX11_isMade_17 (lv_at hl 4 rfl) ?_
        refine jn_iadd hx hb dX11_isMade_19 ?_
        refine lv_iload hx hb dX11_isMade_20 (lv_at hl 5 rfl) ?_
        refine jn_iadd hx hb dX11_isMade_22 ?_
        refine jn_zne hx hb (by omega) (tgt := 28) dX11_isMade_23 (by decide) (fun c_23 => ?_) (fun c_23 => ?_)
        · refine lv_iload_n hx hb dX11_isMade_28 rfl (lv_at hl 2 rfl) ?_
          refine lv_aload_n hx hb dX11_isMade_29 rfl (lv_at hl 0 rfl) ?_
          refine va_get (D := (g.1, g.2.1)) (ci := 13) (v := .ref (g.2.2.2 1)) (C := RX11) (T := TX11) (N := 30) hx hb hts iX11 hown hK.1 hP 0 (gM0 g σ tl) rfl 1 (by decide) k13 (fun _ h9 => h9) rfl dX11_isMade_30 ?_
          refine lv_bipush (v := nI 42) hx hb dX11_isMade_33 (by decide) ?_
          refine lv_iload_n hx hb dX11_isMade_35 rfl (lv_at hl 1 rfl) ?_
          refine jn_iadd hx hb dX11_isMade_36 ?_
          refine jn_iald (f := σ.2.1 0) hx hb hK.1 hP 1 0 (gM1 g σ tl) rfl (by omega) (Nat.le_of_ble_eq_true rfl) dX11_isMade_37 ?_
          refine jn_cne hx hb (by omega) (by omega) (tgt := 43) dX11_isMade_38 (by decide) (fun c_38 => ?_) (fun c_38 => ?_)
          · have hlt : pd < (σ.2.1 0) (42 + l2) := by omega
            obtain ⟨p1, p2, p3, p4⟩ := hLn.2.2 pd hlt
            have ha9 : a < 10 := by omega
            have hb9 : b < 10 := by omega
            have hc9 : c2 < 10 := by omega
            have hms := md_step (l := l2) hlt ha9 hb9 hc9 p1 p2 p3
            have hmf := md_fuel (l := l2) (d := 24) hlt ha9 hb9 hc9 p1 p2 p3 p4 (hd ha9 hb9 hc9)
            refine lv_bipush (v := nI 50) hx hb dX11_isMade_43 (by decide) ?_
            refine lv_bipush (v := nI 9) hx hb dX11_isMade_45 (by decide) ?_
            refine lv_iload_n hx hb dX11_isMade_47 rfl (lv_at hl 1 rfl) ?_
            refine jn_imul hx hb dX11_isMade_48 ?_
            refine jn_iadd hx hb dX11_isMade_49 ?_
            refine lv_iconst (v := nI 3) hx hb dX11_isMade_50 (by decide) ?_
            refine lv_iload_n hx hb dX11_isMade_51 rfl (lv_at hl 2 rfl) ?_
            refine jn_imul hx hb dX11_isMade_52 ?_
            refine jn_iadd hx hb dX11_isMade_53 ?_
            refine lv_istore (lv' := [(6, .int (nI ((50 + (9 * l2)) + (3 * pd)))), (0, .ref (g.2.2.2 0)), (1, .int (nI l2)), (2, .int (nI pd)), (3, .int (nI a)), (4, .int (nI b)), (5, .int (nI c2))]) hx hb dX11_isMade_54 hl (by decide) rfl (fun ls hl => ?_)
            refine lv_aload_n hx hb dX11_isMade_56 rfl (lv_at hl 1 rfl) ?_
            refine lv_iload_n hx hb dX11_isMade_57 rfl (lv_at hl 2 rfl) ?_
            refine lv_iload_n hx hb dX11_isMade_58 rfl (lv_at hl 3 rfl) ?_
            refine lv_iconst (v := nI 1) hx hb dX11_isMade_59 (by decide) ?_
            refine jn_iadd hx hb dX11_isMade_60 ?_
            refine lv_iload_n hx hb dX11_isMade_61 rfl (lv_at hl 4 rfl) ?_
            refine lv_iload hx hb dX11_isMade_62 (lv_at hl 5 rfl) ?_
            refine lv_iload hx hb dX11_isMade_64 (lv_at hl 6 rfl) ?_
            refine vp_callSi (va_Run.run (va_runV (As := [.int (nI l2), .int (nI (pd + 1)), .int (nI a), .int (nI b), .int (nI c2)]) (rest := []) ⟨hx, hb, hml, hown, hts⟩ (c_X11_isMade_d24 l g tl σ l2 (pd + 1) a b c2 hl8 hLn (by omega) ha hb2 hc (fun h1 h2 h3 => by have := hd h1 h2 h3; omega)) (cwV 5 hts gX11_isMade_X11_isMade rfl rfl rfl (by decide +kernel) ⟨Nat.le_of_ble_eq_true rfl, Nat.le_of_ble_eq_true rfl⟩) (okPV hK hP rfl (gM0 g σ tl)) rfl rfl hl.1 rfl (lv_room (Nat.le_of_ble_eq_true rfl)) dX11_isMade_66 ⟨Nat.le_of_ble_eq_true rfl, Nat.le_of_ble_eq_true rfl⟩)) (fun r_66 h_66 => ?_)
            subst h_66
            refine jn_bne hx hb (tgt := 114) dX11_isMade_69 (by decide) (fun c_69 => ?_) (fun c_69 => ?_)
            · refine lv_iconst (v := nI 1) hx hb dX11_isMade_114 (by decide) ?_
              refine lv_goto (tgt := 119) hx hb dX11_isMade_115 (by decide) ?_
              exact hq _ _ ((nI 1)) dX11_isMade_119 jn_n1 (by first | exact n_if1 (hms.mpr (Or.inl c_69)) | exact n_if1 (hms.mpr (Or.inr c_111)) | exact n_if0 (fun q => (hms.mp q).elim c_69 c_111))
            · refine lv_aload_n hx hb dX11_isMade_72 rfl (lv_at hl 1 rfl) ?_
              refine lv_iload_n hx hb dX11_isMade_73 rfl (lv_at hl 2 rfl) ?_
              refine lv_iload_n hx hb dX11_isMade_74 rfl (lv_at hl 3 rfl) ?_
              refine lv_iload_n hx hb dX11_isMade_75 rfl (lv_at hl 4 rfl) ?_
              refine lv_aload_n hx hb dX11_isMade_76 rfl (lv_at hl 1 rfl) ?_
              refine va_get (D := (g.1, g.2.1)) (ci := 13) (v := .ref (g.2.2.2 1)) (C := RX11) (T := TX11) (N := 30) hx hb hts iX11 hown hK.1 hP 0 (gM0 g σ tl) rfl 1 (by decide) k13 (fun _ h9 => h9) rfl dX11_isMade_77 ?_
              refine lv_iload hx hb dX11_isMade_80 (lv_at hl 0 rfl) ?_
              refine jn_iald (f := σ.2.1 0) hx hb hK.1 hP 1 0 (gM1 g σ tl) rfl (by omega) (Nat.le_of_ble_eq_true rfl) dX11_isMade_82 ?_
              refine jn_isubB hx hb (by omega) dX11_isMade_83 ?_
              refine lv_iload hx hb dX11_isMade_84 (lv_at hl 5 rfl) ?_
              refine lv_aload_n hx hb dX11_isMade_86 rfl (lv_at hl 1 rfl) ?_
              refine va_get (D := (g.1, g.2.1)) (ci := 13) (v := .ref (g.2.2.2 1)) (C := RX11) (T := TX11) (N := 30) hx hb hts iX11 hown hK.1 hP 0 (gM0 g σ tl) rfl 1 (by decide) k13 (fun _ h9 => h9) rfl dX11_isMade_87 ?_
              refine lv_iload hx hb dX11_isMade_90 (lv_at hl 0 rfl) ?_
              refine lv_iconst (v := nI 1) hx hb dX11_isMade_92 (by decide) ?_
              refine jn_iadd hx hb dX11_isMade_93 ?_
              refine jn_iald (f := σ.2.1 0) hx hb hK.1 hP 1 0 (gM1 g σ tl) rfl (by omega) (Nat.le_of_ble_eq_true rfl) dX11_isMade_94 ?_
              refine jn_isubB hx hb (by omega) dX11_isMade_95 ?_
              refine lv_iload hx hb dX11_isMade_96 (lv_at hl 6 rfl) ?_
              refine lv_aload_n hx hb dX11_isMade_98 rfl (lv_at hl 1 rfl) ?_
              refine va_get (D := (g.1, g.2.1)) (ci := 13) (v := .ref (g.2.2.2 1)) (C := RX11) (T := TX11) (N := 30) hx hb hts iX11 hown hK.1 hP 0 (gM0 g σ tl) rfl 1 (by decide) k13 (fun _ h9 => h9) rfl dX11_isMade_99 ?_
              refine lv_iload hx hb dX11_isMade_102 (lv_at hl 0 rfl) ?_
              refine lv_iconst (v := nI 2) hx hb dX11_isMade_104 (by decide) ?_
              refine jn_iadd hx hb dX11_isMade_105 ?_
              refine jn_iald (f := σ.2.1 0) hx hb hK.1 hP 1 0 (gM1 g σ tl) rfl (by omega) (Nat.le_of_ble_eq_true rfl) dX11_isMade_106 ?_
              refine jn_isubB hx hb (by omega) dX11_isMade_107 ?_
              refine vp_callSi (va_Run.run (va_runV (As := [.int (nI l2), .int (nI pd), .int (nI (sb a ((σ.2.1 0) ((50 + (9 * l2)) + (3 * pd))))), .int (nI (sb b ((σ.2.1 0) (((50 + (9 * l2)) + (3 * pd)) + 1)))), .int (nI (sb c2 ((σ.2.1 0) (((50 + (9 * l2)) + (3 * pd)) + 2))))]) (rest := []) ⟨hx, hb, hml, hown, hts⟩ (c_X11_isMade_d24 l g tl σ l2 pd (sb a ((σ.2.1 0) ((50 + (9 * l2)) + (3 * pd)))) (sb b ((σ.2.1 0) (((50 + (9 * l2)) + (3 * pd)) + 1))) (sb c2 ((σ.2.1 0) (((50 + (9 * l2)) + (3 * pd)) + 2))) hl8 hLn hpd (sb_or ha9 p1) (sb_or hb9 p2) (sb_or hc9 p3) hmf) (cwV 5 hts gX11_isMade_X11_isMade rfl rfl rfl (by decide +kernel) ⟨Nat.le_of_ble_eq_true rfl, Nat.le_of_ble_eq_true rfl⟩) (okPV hK hP rfl (gM0 g σ tl)) rfl rfl hl.1 rfl (lv_room (Nat.le_of_ble_eq_true rfl)) dX11_isMade_108 ⟨Nat.le_of_ble_eq_true rfl, Nat.le_of_ble_eq_true rfl⟩)) (fun r_108 h_108 => ?_)
              subst h_108
              refine jn_beq hx hb (tgt := 118) dX11_isMade_111 (by decide) (fun c_111 => ?_) (fun c_111 => ?_)
              · refine lv_iconst (v := nI 0) hx hb dX11_isMade_118 (by decide) ?_
                exact hq _ _ ((nI 0)) dX11_isMade_119 jn_n0 (by first | exact n_if1 (hms.mpr (Or.inl c_69)) | exact n_if1 (hms.mpr (Or.inr c_111)) | exact n_if0 (fun q => (hms.mp q).elim c_69 c_111))
              · refine lv_iconst (v := nI 1) hx hb dX11_isMade_114 (by decide) ?_
                refine lv_goto (tgt := 119) hx hb dX11_isMade_115 (by decide) ?_
                exact hq _ _ ((nI 1)) dX11_isMade_119 jn_n1 (by first | exact n_if1 (hms.mpr (Or.inl c_69)) | exact n_if1 (hms.mpr (Or.inr c_111)) | exact n_if0 (fun q => (hms.mp q).elim c_69 c_111))
          · refine lv_iconst (v := nI 0) hx hb dX11_isMade_41 (by decide) ?_
            exact hq _ _ ((nI 0)) dX11_isMade_42 jn_n0 (n_if0 (fun q => by have q4 := cB_iff.mp q.2.2.2; rw [show (σ.2.1 0) (42 + l2) - pd = 0 by omega] at q4; obtain ⟨q5, q6, q7⟩ := q4; omega))
        · have ea : a = 0 := by omega
          have eb : b = 0 := by omega
          have ec : c2 = 0 := by omega
          refine lv_iconst (v := nI 1) hx hb dX11_isMade_26 (by decide) ?_
          exact hq _ _ ((nI 1)) dX11_isMade_27 jn_n1 (n_if1 ⟨by omega, by omega, by omega, cB_iff.mpr (by rw [ea, eb, ec]; exact md_0 _ _ _ _)⟩)
      · refine lv_iconst (v := nI 0) hx hb dX11_isMade_14 (by decide) ?_
        exact hq _ _ ((nI 0)) dX11_isMade_15 jn_n0 (n_if0 (fun q => by have q1 := q.1; have q2 := q.2.1; have q3 := q.2.2.1; omega))

abbrev r_c_X11_isMade_d26 : Room := { frames := 26, cells := 0, slots := 0, locals := 676 }
set_option maxHeartbeats 4000000 in
set_option maxRecDepth 100000 in
theorem c_X11_isMade_d26 (l : Launch) (g : GC) (tl : va_W) (σ : SS) (l2 pd a b c2 : Nat) (hl8 : l2 < 8) (hLn : Ln (σ.2.1 0) l2) (hpd : pd ≤ (σ.2.1 0) (42 + l2)) (ha : a < 10 ∨ (2147483648 ≤ a ∧ a < 4294967296)) (hb2 : b < 10 ∨ (2147483648 ≤ b ∧ b < 4294967296)) (hc : c2 < 10 ∨ (2147483648 ≤ c2 ∧ c2 < 4294967296)) (hd : a < 10 → b < 10 → c2 < 10 → (σ.2.1 0) (42 + l2) - pd + (a + b + c2) ≤ 26) : Met l yX11_isMade wsX11_isMade r_c_X11_isMade_d26 (va_Pc [.ref (g.2.2.2 0), .int (nI l2), .int (nI pd), .int (nI a), .int (nI b), .int (nI c2)] (PP g (wM g σ ++ tl))) (vp_Si (fun r => r = nI (if mdQ (σ.2.1 0) l2 ((σ.2.1 0) (42 + l2) - pd) pd a b c2 then 1 else 0))) 0 0 (fun _ => False) := by
  refine jn_pz (cc := cX11_isMade) (maxL := 7) (own := RX11) (by decide) rfl rfl (Nat.le_of_ble_eq_true rfl) ?_
  intro p e s m below meth c Q hx hb hml hown hts ⟨hP, hK⟩ hq ls hl
  have hl : lv_has ls 7 [(0, .ref (g.2.2.2 0)), (1, .int (nI l2)), (2, .int (nI pd)), (3, .int (nI a)), (4, .int (nI b)), (5, .int (nI c2))] := hl
  have iX11 : ∀ w ∈ wsX110, w ∈ wsX11_isMade := by decide +kernel
  have k13 := hts (.fieldLink RX11 13 "JumpingAutomataModel" "now" "[I") (by decide +kernel)
  have hH3 := hLn.2.1
  refine lv_iload_n hx hb dX11_isMade_0 rfl (lv_at hl 3 rfl) ?_
  refine jn_zlt hx hb (by omega) (tgt := 14) dX11_isMade_1 (by decide) (fun c_1 => ?_) (fun c_1 => ?_)
  · refine lv_iconst (v := nI 0) hx hb dX11_isMade_14 (by decide) ?_
    exact hq _ _ ((nI 0)) dX11_isMade_15 jn_n0 (n_if0 (fun q => by have q1 := q.1; have q2 := q.2.1; have q3 := q.2.2.1; omega))
  · refine lv_iload hx hb dX11_isMade_4 (lv_at hl 4 rfl) ?_
    refine jn_zlt hx hb (by omega) (tgt := 14) dX11_isMade_6 (by decide) (fun c_6 => ?_) (fun c_6 => ?_)
    · refine lv_iconst (v := nI 0) hx hb dX11_isMade_14 (by decide) ?_
      exact hq _ _ ((nI 0)) dX11_isMade_15 jn_n0 (n_if0 (fun q => by have q1 := q.1; have q2 := q.2.1; have q3 := q.2.2.1; omega))
    · refine lv_iload hx hb dX11_isMade_9 (lv_at hl 5 rfl) ?_
      refine jn_zge hx hb (by omega) (tgt := 16) dX11_isMade_11 (by decide) (fun c_11 => ?_) (fun c_11 => ?_)
      · refine lv_iload_n hx hb dX11_isMade_16 rfl (lv_at hl 3 rfl) ?_
        refine lv_iload hx hb dX11_isMade_17 (lv_at hl 4 rfl) ?_
        refine jn_iadd hx hb dX11_isMade_19 ?_
        refine lv_iload hx hb dX11_isMade_20 (lv_at hl 5 rfl) ?_
        refine jn_iadd hx hb dX11_isMade_22 ?_
        refine jn_zne hx hb (by omega) (tgt := 28) dX11_isMade_23 (by decide) (fun c_23 => ?_) (fun c_23 => ?_)
        · refine lv_iload_n hx hb dX11_isMade_28 rfl (lv_at hl 2 rfl) ?_
          refine lv_aload_n hx hb dX11_isMade_29 rfl (lv_at hl 0 rfl) ?_
          refine va_get (D := (g.1, g.2.1)) (ci := 13) (v := .ref (g.2.2.2 1)) (C := RX11) (T := TX11) (N := 30) hx hb hts iX11 hown hK.1 hP 0 (gM0 g σ tl) rfl 1 (by decide) k13 (fun _ h9 => h9) rfl dX11_isMade_30 ?_
          refine lv_bipush (v := nI 42) hx hb dX11_isMade_33 (by decide) ?_
          refine lv_iload_n hx hb dX11_isMade_35 rfl (lv_at hl 1 rfl) ?_
          refine jn_iadd hx hb dX11_isMade_36 ?_
          refine jn_iald (f := σ.2.1 0) hx hb hK.1 hP 1 0 (gM1 g σ tl) rfl (by omega) (Nat.le_of_ble_eq_true rfl) dX11_isMade_37 ?_
          refine jn_cne hx hb (by omega) (by omega) (tgt := 43) dX11_isMade_38 (by decide) (fun c_38 => ?_) (fun c_38 => ?_)
          · have hlt : pd < (σ.2.1 0) (42 + l2) := by omega
            obtain ⟨p1, p2, p3, p4⟩ := hLn.2.2 pd hlt
            have ha9 : a < 10 := by omega
            have hb9 : b < 10 := by omega
            have hc9 : c2 < 10 := by omega
            have hms := md_step (l := l2) hlt ha9 hb9 hc9 p1 p2 p3
            have hmf := md_fuel (l := l2) (d := 25) hlt ha9 hb9 hc9 p1 p2 p3 p4 (hd ha9 hb9 hc9)
            refine lv_bipush (v := nI 50) hx hb dX11_isMade_43 (by decide) ?_
            refine lv_bipush (v := nI 9) hx hb dX11_isMade_45 (by decide) ?_
            refine lv_iload_n hx hb dX11_isMade_47 rfl (lv_at hl 1 rfl) ?_
            refine jn_imul hx hb dX11_isMade_48 ?_
            refine jn_iadd hx hb dX11_isMade_49 ?_
            refine lv_iconst (v := nI 3) hx hb dX11_isMade_50 (by decide) ?_
            refine lv_iload_n hx hb dX11_isMade_51 rfl (lv_at hl 2 rfl) ?_
            refine jn_imul hx hb dX11_isMade_52 ?_
            refine jn_iadd hx hb dX11_isMade_53 ?_
            refine lv_istore (lv' := [(6, .int (nI ((50 + (9 * l2)) + (3 * pd)))), (0, .ref (g.2.2.2 0)), (1, .int (nI l2)), (2, .int (nI pd)), (3, .int (nI a)), (4, .int (nI b)), (5, .int (nI c2))]) hx hb dX11_isMade_54 hl (by decide) rfl (fun ls hl => ?_)
            refine lv_aload_n hx hb dX11_isMade_56 rfl (lv_at hl 1 rfl) ?_
            refine lv_iload_n hx hb dX11_isMade_57 rfl (lv_at hl 2 rfl) ?_
            refine lv_iload_n hx hb dX11_isMade_58 rfl (lv_at hl 3 rfl) ?_
            refine lv_iconst (v := nI 1) hx hb dX11_isMade_59 (by decide) ?_
            refine jn_iadd hx hb dX11_isMade_60 ?_
            refine lv_iload_n hx hb dX11_isMade_61 rfl (lv_at hl 4 rfl) ?_
            refine lv_iload hx hb dX11_isMade_62 (lv_at hl 5 rfl) ?_
            refine lv_iload hx hb dX11_isMade_64 (lv_at hl 6 rfl) ?_
            refine vp_callSi (va_Run.run (va_runV (As := [.int (nI l2), .int (nI (pd + 1)), .int (nI a), .int (nI b), .int (nI c2)]) (rest := []) ⟨hx, hb, hml, hown, hts⟩ (c_X11_isMade_d25 l g tl σ l2 (pd + 1) a b c2 hl8 hLn (by omega) ha hb2 hc (fun h1 h2 h3 => by have := hd h1 h2 h3; omega)) (cwV 5 hts gX11_isMade_X11_isMade rfl rfl rfl (by decide +kernel) ⟨Nat.le_of_ble_eq_true rfl, Nat.le_of_ble_eq_true rfl⟩) (okPV hK hP rfl (gM0 g σ tl)) rfl rfl hl.1 rfl (lv_room (Nat.le_of_ble_eq_true rfl)) dX11_isMade_66 ⟨Nat.le_of_ble_eq_true rfl, Nat.le_of_ble_eq_true rfl⟩)) (fun r_66 h_66 => ?_)
            subst h_66
            refine jn_bne hx hb (tgt := 114) dX11_isMade_69 (by decide) (fun c_69 => ?_) (fun c_69 => ?_)
            · refine lv_iconst (v := nI 1) hx hb dX11_isMade_114 (by decide) ?_
              refine lv_goto (tgt := 119) hx hb dX11_isMade_115 (by decide) ?_
              exact hq _ _ ((nI 1)) dX11_isMade_119 jn_n1 (by first | exact n_if1 (hms.mpr (Or.inl c_69)) | exact n_if1 (hms.mpr (Or.inr c_111)) | exact n_if0 (fun q => (hms.mp q).elim c_69 c_111))
            · refine lv_aload_n hx hb dX11_isMade_72 rfl (lv_at hl 1 rfl) ?_
              refine lv_iload_n hx hb dX11_isMade_73 rfl (lv_at hl 2 rfl) ?_
              refine lv_iload_n hx hb dX11_isMade_74 rfl (lv_at hl 3 rfl) ?_
              refine lv_iload_n hx hb dX11_isMade_75 rfl (lv_at hl 4 rfl) ?_
              refine lv_aload_n hx hb dX11_isMade_76 rfl (lv_at hl 1 rfl) ?_
              refine va_get (D := (g.1, g.2.1)) (ci := 13) (v := .ref (g.2.2.2 1)) (C := RX11) (T := TX11) (N := 30) hx hb hts iX11 hown hK.1 hP 0 (gM0 g σ tl) rfl 1 (by decide) k13 (fun _ h9 => h9) rfl dX11_isMade_77 ?_
              refine lv_iload hx hb dX11_isMade_80 (lv_at hl 0 rfl) ?_
              refine jn_iald (f := σ.2.1 0) hx hb hK.1 hP 1 0 (gM1 g σ tl) rfl (by omega) (Nat.le_of_ble_eq_true rfl) dX11_isMade_82 ?_
              refine jn_isubB hx hb (by omega) dX11_isMade_83 ?_
              refine lv_iload hx hb dX11_isMade_84 (lv_at hl 5 rfl) ?_
              refine lv_aload_n hx hb dX11_isMade_86 rfl (lv_at hl 1 rfl) ?_
              refine va_get (D := (g.1, g.2.1)) (ci := 13) (v := .ref (g.2.2.2 1)) (C := RX11) (T := TX11) (N := 30) hx hb hts iX11 hown hK.1 hP 0 (gM0 g σ tl) rfl 1 (by decide) k13 (fun _ h9 => h9) rfl dX11_isMade_87 ?_
              refine lv_iload hx hb dX11_isMade_90 (lv_at hl 0 rfl) ?_
              refine lv_iconst (v := nI 1) hx hb dX11_isMade_92 (by decide) ?_
              refine jn_iadd hx hb dX11_isMade_93 ?_
              refine jn_iald (f := σ.2.1 0) hx hb hK.1 hP 1 0 (gM1 g σ tl) rfl (by omega) (Nat.le_of_ble_eq_true rfl) dX11_isMade_94 ?_
              refine jn_isubB hx hb (by omega) dX11_isMade_95 ?_
              refine lv_iload hx hb dX11_isMade_96 (lv_at hl 6 rfl) ?_
              refine lv_aload_n hx hb dX11_isMade_98 rfl (lv_at hl 1 rfl) ?_
              refine va_get (D := (g.1, g.2.1)) (ci := 13) (v := .ref (g.2.2.2 1)) (C := RX11) (T := TX11) (N := 30) hx hb hts iX11 hown hK.1 hP 0 (gM0 g σ tl) rfl 1 (by decide) k13 (fun _ h9 => h9) rfl dX11_isMade_99 ?_
              refine lv_iload hx hb dX11_isMade_102 (lv_at hl 0 rfl) ?_
              refine lv_iconst (v := nI 2) hx hb dX11_isMade_104 (by decide) ?_
              refine jn_iadd hx hb dX11_isMade_105 ?_
              refine jn_iald (f := σ.2.1 0) hx hb hK.1 hP 1 0 (gM1 g σ tl) rfl (by omega) (Nat.le_of_ble_eq_true rfl) dX11_isMade_106 ?_
              refine jn_isubB hx hb (by omega) dX11_isMade_107 ?_
              refine vp_callSi (va_Run.run (va_runV (As := [.int (nI l2), .int (nI pd), .int (nI (sb a ((σ.2.1 0) ((50 + (9 * l2)) + (3 * pd))))), .int (nI (sb b ((σ.2.1 0) (((50 + (9 * l2)) + (3 * pd)) + 1)))), .int (nI (sb c2 ((σ.2.1 0) (((50 + (9 * l2)) + (3 * pd)) + 2))))]) (rest := []) ⟨hx, hb, hml, hown, hts⟩ (c_X11_isMade_d25 l g tl σ l2 pd (sb a ((σ.2.1 0) ((50 + (9 * l2)) + (3 * pd)))) (sb b ((σ.2.1 0) (((50 + (9 * l2)) + (3 * pd)) + 1))) (sb c2 ((σ.2.1 0) (((50 + (9 * l2)) + (3 * pd)) + 2))) hl8 hLn hpd (sb_or ha9 p1) (sb_or hb9 p2) (sb_or hc9 p3) hmf) (cwV 5 hts gX11_isMade_X11_isMade rfl rfl rfl (by decide +kernel) ⟨Nat.le_of_ble_eq_true rfl, Nat.le_of_ble_eq_true rfl⟩) (okPV hK hP rfl (gM0 g σ tl)) rfl rfl hl.1 rfl (lv_room (Nat.le_of_ble_eq_true rfl)) dX11_isMade_108 ⟨Nat.le_of_ble_eq_true rfl, Nat.le_of_ble_eq_true rfl⟩)) (fun r_108 h_108 => ?_)
              subst h_108
              refine jn_beq hx hb (tgt := 118) dX11_isMade_111 (by decide) (fun c_111 => ?_) (fun c_111 => ?_)
              · refine lv_iconst (v := nI 0) hx hb dX11_isMade_118 (by decide) ?_
                exact hq _ _ ((nI 0)) dX11_isMade_119 jn_n0 (by first | exact n_if1 (hms.mpr (Or.inl c_69)) | exact n_if1 (hms.mpr (Or.inr c_111)) | exact n_if0 (fun q => (hms.mp q).elim c_69 c_111))
              · refine lv_iconst (v := nI 1) hx hb dX11_isMade_114 (by decide) ?_
                refine lv_goto (tgt := 119) hx hb dX11_isMade_115 (by decide) ?_
                exact hq _ _ ((nI 1)) dX11_isMade_119 jn_n1 (by first | exact n_if1 (hms.mpr (Or.inl c_69)) | exact n_if1 (hms.mpr (Or.inr c_111)) | exact n_if0 (fun q => (hms.mp q).elim c_69 c_111))
          · refine lv_iconst (v := nI 0) hx hb dX11_isMade_41 (by decide) ?_
            exact hq _ _ ((nI 0)) dX11_isMade_42 jn_n0 (n_if0 (fun q => by have q4 := cB_iff.mp q.2.2.2; rw [show (σ.2.1 0) (42 + l2) - pd = 0 by omega] at q4; obtain ⟨q5, q6, q7⟩ := q4; omega))
        · have ea : a = 0 := by omega
          have eb : b = 0 := by omega
          have ec : c2 = 0 := by omega
          refine lv_iconst (v := nI 1) hx hb dX11_isMade_26 (by decide) ?_
          exact hq _ _ ((nI 1)) dX11_isMade_27 jn_n1 (n_if1 ⟨by omega, by omega, by omega, cB_iff.mpr (by rw [ea, eb, ec]; exact md_0 _ _ _ _)⟩)
      · refine lv_iconst (v := nI 0) hx hb dX11_isMade_14 (by decide) ?_
        exact hq _ _ ((nI 0)) dX11_isMade_15 jn_n0 (n_if0 (fun q => by have q1 := q.1; have q2 := q.2.1; have q3 := q.2.2.1; omega))

abbrev r_c_X11_isMade_d27 : Room := { frames := 27, cells := 0, slots := 0, locals := 702 }
set_option maxHeartbeats 4000000 in
set_option maxRecDepth 100000 in
theorem c_X11_isMade_d27 (l : Launch) (g : GC) (tl : va_W) (σ : SS) (l2 pd a b c2 : Nat) (hl8 : l2 < 8) (hLn : Ln (σ.2.1 0) l2) (hpd : pd ≤ (σ.2.1 0) (42 + l2)) (ha : a < 10 ∨ (2147483648 ≤ a ∧ a < 4294967296)) (hb2 : b < 10 ∨ (2147483648 ≤ b ∧ b < 4294967296)) (hc : c2 < 10 ∨ (2147483648 ≤ c2 ∧ c2 < 4294967296)) (hd : a < 10 → b < 10 → c2 < 10 → (σ.2.1 0) (42 + l2) - pd + (a + b + c2) ≤ 27) : Met l yX11_isMade wsX11_isMade r_c_X11_isMade_d27 (va_Pc [.ref (g.2.2.2 0), .int (nI l2), .int (nI pd), .int (nI a), .int (nI b), .int (nI c2)] (PP g (wM g σ ++ tl))) (vp_Si (fun r => r = nI (if mdQ (σ.2.1 0) l2 ((σ.2.1 0) (42 + l2) - pd) pd a b c2 then 1 else 0))) 0 0 (fun _ => False) := by
  refine jn_pz (cc := cX11_isMade) (maxL := 7) (own := RX11) (by decide) rfl rfl (Nat.le_of_ble_eq_true rfl) ?_
  intro p e s m below meth c Q hx hb hml hown hts ⟨hP, hK⟩ hq ls hl
  have hl : lv_has ls 7 [(0, .ref (g.2.2.2 0)), (1, .int (nI l2)), (2, .int (nI pd)), (3, .int (nI a)), (4, .int (nI b)), (5, .int (nI c2))] := hl
  have iX11 : ∀ w ∈ wsX110, w ∈ wsX11_isMade := by decide +kernel
  have k13 := hts (.fieldLink RX11 13 "JumpingAutomataModel" "now" "[I") (by decide +kernel)
  have hH3 := hLn.2.1
  refine lv_iload_n hx hb dX11_isMade_0 rfl (lv_at hl 3 rfl) ?_
  refine jn_zlt hx hb (by omega) (tgt := 14) dX11_isMade_1 (by decide) (fun c_1 => ?_) (fun c_1 => ?_)
  · refine lv_iconst (v := nI 0) hx hb dX11_isMade_14 (by decide) ?_
    exact hq _ _ ((nI 0)) dX11_isMade_15 jn_n0 (n_if0 (fun q => by have q1 := q.1; have q2 := q.2.1; have q3 := q.2.2.1; omega))
  · refine lv_iload hx hb dX11_isMade_4 (lv_at hl 4 rfl) ?_
    refine jn_zlt hx hb (by omega) (tgt := 14) dX11_isMade_6 (by decide) (fun c_6 => ?_) (fun c_6 => ?_)
    · refine lv_iconst (v := nI 0) hx hb dX11_isMade_14 (by decide) ?_
      exact hq _ _ ((nI 0)) dX11_isMade_15 jn_n0 (n_if0 (fun q => by have q1 := q.1; have q2 := q.2.1; have q3 := q.2.2.1; omega))
    · refine lv_iload hx hb dX11_isMade_9 (lv_at hl 5 rfl) ?_
      refine jn_zge hx hb (by omega) (tgt := 16) dX11_isMade_11 (by decide) (fun c_11 => ?_) (fun c_11 => ?_)
      · refine lv_iload_n hx hb dX11_isMade_16 rfl (lv_at hl 3 rfl) ?_
        refine lv_iload hx hb dX11_isMade_17 (lv_at hl 4 rfl) ?_
        refine jn_iadd hx hb dX11_isMade_19 ?_
        refine lv_iload hx hb dX11_isMade_20 (lv_at hl 5 rfl) ?_
        refine jn_iadd hx hb dX11_isMade_22 ?_
        refine jn_zne hx hb (by omega) (tgt := 28) dX11_isMade_23 (by decide) (fun c_23 => ?_) (fun c_23 => ?_)
        · refine lv_iload_n hx hb dX11_isMade_28 rfl (lv_at hl 2 rfl) ?_
          refine lv_aload_n hx hb dX11_isMade_29 rfl (lv_at hl 0 rfl) ?_
          refine va_get (D := (g.1, g.2.1)) (ci := 13) (v := .ref (g.2.2.2 1)) (C := RX11) (T := TX11) (N := 30) hx hb hts iX11 hown hK.1 hP 0 (gM0 g σ tl) rfl 1 (by decide) k13 (fun _ h9 => h9) rfl dX11_isMade_30 ?_
          refine lv_bipush (v := nI 42) hx hb dX11_isMade_33 (by decide) ?_
          refine lv_iload_n hx hb dX11_isMade_35 rfl (lv_at hl 1 rfl) ?_
          refine jn_iadd hx hb dX11_isMade_36 ?_
          refine jn_iald (f := σ.2.1 0) hx hb hK.1 hP 1 0 (gM1 g σ tl) rfl (by omega) (Nat.le_of_ble_eq_true rfl) dX11_isMade_37 ?_
          refine jn_cne hx hb (by omega) (by omega) (tgt := 43) dX11_isMade_38 (by decide) (fun c_38 => ?_) (fun c_38 => ?_)
          · have hlt : pd < (σ.2.1 0) (42 + l2) := by omega
            obtain ⟨p1, p2, p3, p4⟩ := hLn.2.2 pd hlt
            have ha9 : a < 10 := by omega
            have hb9 : b < 10 := by omega
            have hc9 : c2 < 10 := by omega
            have hms := md_step (l := l2) hlt ha9 hb9 hc9 p1 p2 p3
            have hmf := md_fuel (l := l2) (d := 26) hlt ha9 hb9 hc9 p1 p2 p3 p4 (hd ha9 hb9 hc9)
            refine lv_bipush (v := nI 50) hx hb dX11_isMade_43 (by decide) ?_
            refine lv_bipush (v := nI 9) hx hb dX11_isMade_45 (by decide) ?_
            refine lv_iload_n hx hb dX11_isMade_47 rfl (lv_at hl 1 rfl) ?_
            refine jn_imul hx hb dX11_isMade_48 ?_
            refine jn_iadd hx hb dX11_isMade_49 ?_
            refine lv_iconst (v := nI 3) hx hb dX11_isMade_50 (by decide) ?_
            refine lv_iload_n hx hb dX11_isMade_51 rfl (lv_at hl 2 rfl) ?_
            refine jn_imul hx hb dX11_isMade_52 ?_
            refine jn_iadd hx hb dX11_isMade_53 ?_
            refine lv_istore (lv' := [(6, .int (nI ((50 + (9 * l2)) + (3 * pd)))), (0, .ref (g.2.2.2 0)), (1, .int (nI l2)), (2, .int (nI pd)), (3, .int (nI a)), (4, .int (nI b)), (5, .int (nI c2))]) hx hb dX11_isMade_54 hl (by decide) rfl (fun ls hl => ?_)
            refine lv_aload_n hx hb dX11_isMade_56 rfl (lv_at hl 1 rfl) ?_
            refine lv_iload_n hx hb dX11_isMade_57 rfl (lv_at hl 2 rfl) ?_
            refine lv_iload_n hx hb dX11_isMade_58 rfl (lv_at hl 3 rfl) ?_
            refine lv_iconst (v := nI 1) hx hb dX11_isMade_59 (by decide) ?_
            refine jn_iadd hx hb dX11_isMade_60 ?_
            refine lv_iload_n hx hb dX11_isMade_61 rfl (lv_at hl 4 rfl) ?_
            refine lv_iload hx hb dX11_isMade_62 (lv_at hl 5 rfl) ?_
            refine lv_iload hx hb dX11_isMade_64 (lv_at hl 6 rfl) ?_
            refine vp_callSi (va_Run.run (va_runV (As := [.int (nI l2), .int (nI (pd + 1)), .int (nI a), .int (nI b), .int (nI c2)]) (rest := []) ⟨hx, hb, hml, hown, hts⟩ (c_X11_isMade_d26 l g tl σ l2 (pd + 1) a b c2 hl8 hLn (by omega) ha hb2 hc (fun h1 h2 h3 => by have := hd h1 h2 h3; omega)) (cwV 5 hts gX11_isMade_X11_isMade rfl rfl rfl (by decide +kernel) ⟨Nat.le_of_ble_eq_true rfl, Nat.le_of_ble_eq_true rfl⟩) (okPV hK hP rfl (gM0 g σ tl)) rfl rfl hl.1 rfl (lv_room (Nat.le_of_ble_eq_true rfl)) dX11_isMade_66 ⟨Nat.le_of_ble_eq_true rfl, Nat.le_of_ble_eq_true rfl⟩)) (fun r_66 h_66 => ?_)
            subst h_66
            refine jn_bne hx hb (tgt := 114) dX11_isMade_69 (by decide) (fun c_69 => ?_) (fun c_69 => ?_)
            · refine lv_iconst (v := nI 1) hx hb dX11_isMade_114 (by decide) ?_
              refine lv_goto (tgt := 119) hx hb dX11_isMade_115 (by decide) ?_
              exact hq _ _ ((nI 1)) dX11_isMade_119 jn_n1 (by first | exact n_if1 (hms.mpr (Or.inl c_69)) | exact n_if1 (hms.mpr (Or.inr c_111)) | exact n_if0 (fun q => (hms.mp q).elim c_69 c_111))
            · refine lv_aload_n hx hb dX11_isMade_72 rfl (lv_at hl 1 rfl) ?_
              refine lv_iload_n hx hb dX11_isMade_73 rfl (lv_at hl 2 rfl) ?_
              refine lv_iload_n hx hb dX11_isMade_74 rfl (lv_at hl 3 rfl) ?_
              refine lv_iload_n hx hb dX11_isMade_75 rfl (lv_at hl 4 rfl) ?_
              refine lv_aload_n hx hb dX11_isMade_76 rfl (lv_at hl 1 rfl) ?_
              refine va_get (D := (g.1, g.2.1)) (ci := 13) (v := .ref (g.2.2.2 1)) (C := RX11) (T := TX11) (N := 30) hx hb hts iX11 hown hK.1 hP 0 (gM0 g σ tl) rfl 1 (by decide) k13 (fun _ h9 => h9) rfl dX11_isMade_77 ?_
              refine lv_iload hx hb dX11_isMade_80 (lv_at hl 0 rfl) ?_
              refine jn_iald (f := σ.2.1 0) hx hb hK.1 hP 1 0 (gM1 g σ tl) rfl (by omega) (Nat.le_of_ble_eq_true rfl) dX11_isMade_82 ?_
              refine jn_isubB hx hb (by omega) dX11_isMade_83 ?_
              refine lv_iload hx hb dX11_isMade_84 (lv_at hl 5 rfl) ?_
              refine lv_aload_n hx hb dX11_isMade_86 rfl (lv_at hl 1 rfl) ?_
              refine va_get (D := (g.1, g.2.1)) (ci := 13) (v := .ref (g.2.2.2 1)) (C := RX11) (T := TX11) (N := 30) hx hb hts iX11 hown hK.1 hP 0 (gM0 g σ tl) rfl 1 (by decide) k13 (fun _ h9 => h9) rfl dX11_isMade_87 ?_
              refine lv_iload hx hb dX11_isMade_90 (lv_at hl 0 rfl) ?_
              refine lv_iconst (v := nI 1) hx hb dX11_isMade_92 (by decide) ?_
              refine jn_iadd hx hb dX11_isMade_93 ?_
              refine jn_iald (f := σ.2.1 0) hx hb hK.1 hP 1 0 (gM1 g σ tl) rfl (by omega) (Nat.le_of_ble_eq_true rfl) dX11_isMade_94 ?_
              refine jn_isubB hx hb (by omega) dX11_isMade_95 ?_
              refine lv_iload hx hb dX11_isMade_96 (lv_at hl 6 rfl) ?_
              refine lv_aload_n hx hb dX11_isMade_98 rfl (lv_at hl 1 rfl) ?_
              refine va_get (D := (g.1, g.2.1)) (ci := 13) (v := .ref (g.2.2.2 1)) (C := RX11) (T := TX11) (N := 30) hx hb hts iX11 hown hK.1 hP 0 (gM0 g σ tl) rfl 1 (by decide) k13 (fun _ h9 => h9) rfl dX11_isMade_99 ?_
              refine lv_iload hx hb dX11_isMade_102 (lv_at hl 0 rfl) ?_
              refine lv_iconst (v := nI 2) hx hb dX11_isMade_104 (by decide) ?_
              refine jn_iadd hx hb dX11_isMade_105 ?_
              refine jn_iald (f := σ.2.1 0) hx hb hK.1 hP 1 0 (gM1 g σ tl) rfl (by omega) (Nat.le_of_ble_eq_true rfl) dX11_isMade_106 ?_
              refine jn_isubB hx hb (by omega) dX11_isMade_107 ?_
              refine vp_callSi (va_Run.run (va_runV (As := [.int (nI l2), .int (nI pd), .int (nI (sb a ((σ.2.1 0) ((50 + (9 * l2)) + (3 * pd))))), .int (nI (sb b ((σ.2.1 0) (((50 + (9 * l2)) + (3 * pd)) + 1)))), .int (nI (sb c2 ((σ.2.1 0) (((50 + (9 * l2)) + (3 * pd)) + 2))))]) (rest := []) ⟨hx, hb, hml, hown, hts⟩ (c_X11_isMade_d26 l g tl σ l2 pd (sb a ((σ.2.1 0) ((50 + (9 * l2)) + (3 * pd)))) (sb b ((σ.2.1 0) (((50 + (9 * l2)) + (3 * pd)) + 1))) (sb c2 ((σ.2.1 0) (((50 + (9 * l2)) + (3 * pd)) + 2))) hl8 hLn hpd (sb_or ha9 p1) (sb_or hb9 p2) (sb_or hc9 p3) hmf) (cwV 5 hts gX11_isMade_X11_isMade rfl rfl rfl (by decide +kernel) ⟨Nat.le_of_ble_eq_true rfl, Nat.le_of_ble_eq_true rfl⟩) (okPV hK hP rfl (gM0 g σ tl)) rfl rfl hl.1 rfl (lv_room (Nat.le_of_ble_eq_true rfl)) dX11_isMade_108 ⟨Nat.le_of_ble_eq_true rfl, Nat.le_of_ble_eq_true rfl⟩)) (fun r_108 h_108 => ?_)
              subst h_108
              refine jn_beq hx hb (tgt := 118) dX11_isMade_111 (by decide) (fun c_111 => ?_) (fun c_111 => ?_)
              · refine lv_iconst (v := nI 0) hx hb dX11_isMade_118 (by decide) ?_
                exact hq _ _ ((nI 0)) dX11_isMade_119 jn_n0 (by first | exact n_if1 (hms.mpr (Or.inl c_69)) | exact n_if1 (hms.mpr (Or.inr c_111)) | exact n_if0 (fun q => (hms.mp q).elim c_69 c_111))
              · refine lv_iconst (v := nI 1) hx hb dX11_isMade_114 (by decide) ?_
                refine lv_goto (tgt := 119) hx hb dX11_isMade_115 (by decide) ?_
                exact hq _ _ ((nI 1)) dX11_isMade_119 jn_n1 (by first | exact n_if1 (hms.mpr (Or.inl c_69)) | exact n_if1 (hms.mpr (Or.inr c_111)) | exact n_if0 (fun q => (hms.mp q).elim c_69 c_111))
          · refine lv_iconst (v := nI 0) hx hb dX11_isMade_41 (by decide) ?_
            exact hq _ _ ((nI 0)) dX11_isMade_42 jn_n0 (n_if0 (fun q => by have q4 := cB_iff.mp q.2.2.2; rw [show (σ.2.1 0) (42 + l2) - pd = 0 by omega] at q4; obtain ⟨q5, q6, q7⟩ := q4; omega))
        · have ea : a = 0 := by omega
          have eb : b = 0 := by omega
          have ec : c2 = 0 := by omega
          refine lv_iconst (v := nI 1) hx hb dX11_isMade_26 (by decide) ?_
          exact hq _ _ ((nI 1)) dX11_isMade_27 jn_n1 (n_if1 ⟨by omega, by omega, by omega, cB_iff.mpr (by rw [ea, eb, ec]; exact md_0 _ _ _ _)⟩)
      · refine lv_iconst (v := nI 0) hx hb dX11_isMade_14 (by decide) ?_
        exact hq _ _ ((nI 0)) dX11_isMade_15 jn_n0 (n_if0 (fun q => by have q1 := q.1; have q2 := q.2.1; have q3 := q.2.2.1; omega))

abbrev r_c_X11_isMade_d28 : Room := { frames := 28, cells := 0, slots := 0, locals := 728 }
set_option maxHeartbeats 4000000 in
set_option maxRecDepth 100000 in
theorem c_X11_isMade_d28 (l : Launch) (g : GC) (tl : va_W) (σ : SS) (l2 pd a b c2 : Nat) (hl8 : l2 < 8) (hLn : Ln (σ.2.1 0) l2) (hpd : pd ≤ (σ.2.1 0) (42 + l2)) (ha : a < 10 ∨ (2147483648 ≤ a ∧ a < 4294967296)) (hb2 : b < 10 ∨ (2147483648 ≤ b ∧ b < 4294967296)) (hc : c2 < 10 ∨ (2147483648 ≤ c2 ∧ c2 < 4294967296)) (hd : a < 10 → b < 10 → c2 < 10 → (σ.2.1 0) (42 + l2) - pd + (a + b + c2) ≤ 28) : Met l yX11_isMade wsX11_isMade r_c_X11_isMade_d28 (va_Pc [.ref (g.2.2.2 0), .int (nI l2), .int (nI pd), .int (nI a), .int (nI b), .int (nI c2)] (PP g (wM g σ ++ tl))) (vp_Si (fun r => r = nI (if mdQ (σ.2.1 0) l2 ((σ.2.1 0) (42 + l2) - pd) pd a b c2 then 1 else 0))) 0 0 (fun _ => False) := by
  refine jn_pz (cc := cX11_isMade) (maxL := 7) (own := RX11) (by decide) rfl rfl (Nat.le_of_ble_eq_true rfl) ?_
  intro p e s m below meth c Q hx hb hml hown hts ⟨hP, hK⟩ hq ls hl
  have hl : lv_has ls 7 [(0, .ref (g.2.2.2 0)), (1, .int (nI l2)), (2, .int (nI pd)), (3, .int (nI a)), (4, .int (nI b)), (5, .int (nI c2))] := hl
  have iX11 : ∀ w ∈ wsX110, w ∈ wsX11_isMade := by decide +kernel
  have k13 := hts (.fieldLink RX11 13 "JumpingAutomataModel" "now" "[I") (by decide +kernel)
  have hH3 := hLn.2.1
  refine lv_iload_n hx hb dX11_isMade_0 rfl (lv_at hl 3 rfl) ?_
  refine jn_zlt hx hb (by omega) (tgt := 14) dX11_isMade_1 (by decide) (fun c_1 => ?_) (fun c_1 => ?_)
  · refine lv_iconst (v := nI 0) hx hb dX11_isMade_14 (by decide) ?_
    exact hq _ _ ((nI 0)) dX11_isMade_15 jn_n0 (n_if0 (fun q => by have q1 := q.1; have q2 := q.2.1; have q3 := q.2.2.1; omega))
  · refine lv_iload hx hb dX11_isMade_4 (lv_at hl 4 rfl) ?_
    refine jn_zlt hx hb (by omega) (tgt := 14) dX11_isMade_6 (by decide) (fun c_6 => ?_) (fun c_6 => ?_)
    · refine lv_iconst (v := nI 0) hx hb dX11_isMade_14 (by decide) ?_
      exact hq _ _ ((nI 0)) dX11_isMade_15 jn_n0 (n_if0 (fun q => by have q1 := q.1; have q2 := q.2.1; have q3 := q.2.2.1; omega))
    · refine lv_iload hx hb dX11_isMade_9 (lv_at hl 5 rfl) ?_
      refine jn_zge hx hb (by omega) (tgt := 16) dX11_isMade_11 (by decide) (fun c_11 => ?_) (fun c_11 => ?_)
      · refine lv_iload_n hx hb dX11_isMade_16 rfl (lv_at hl 3 rfl) ?_
        refine lv_iload hx hb dX11_isMade_17 (lv_at hl 4 rfl) ?_
        refine jn_iadd hx hb dX11_isMade_19 ?_
        refine lv_iload hx hb dX11_isMade_20 (lv_at hl 5 rfl) ?_
        refine jn_iadd hx hb dX11_isMade_22 ?_
        refine jn_zne hx hb (by omega) (tgt := 28) dX11_isMade_23 (by decide) (fun c_23 => ?_) (fun c_23 => ?_)
        · refine lv_iload_n hx hb dX11_isMade_28 rfl (lv_at hl 2 rfl) ?_
          refine lv_aload_n hx hb dX11_isMade_29 rfl (lv_at hl 0 rfl) ?_
          refine va_get (D := (g.1, g.2.1)) (ci := 13) (v := .ref (g.2.2.2 1)) (C := RX11) (T := TX11) (N := 30) hx hb hts iX11 hown hK.1 hP 0 (gM0 g σ tl) rfl 1 (by decide) k13 (fun _ h9 => h9) rfl dX11_isMade_30 ?_
          refine lv_bipush (v := nI 42) hx hb dX11_isMade_33 (by decide) ?_
          refine lv_iload_n hx hb dX11_isMade_35 rfl (lv_at hl 1 rfl) ?_
          refine jn_iadd hx hb dX11_isMade_36 ?_
          refine jn_iald (f := σ.2.1 0) hx hb hK.1 hP 1 0 (gM1 g σ tl) rfl (by omega) (Nat.le_of_ble_eq_true rfl) dX11_isMade_37 ?_
          refine jn_cne hx hb (by omega) (by omega) (tgt := 43) dX11_isMade_38 (by decide) (fun c_38 => ?_) (fun c_38 => ?_)
          · have hlt : pd < (σ.2.1 0) (42 + l2) := by omega
            obtain ⟨p1, p2, p3, p4⟩ := hLn.2.2 pd hlt
            have ha9 : a < 10 := by omega
            have hb9 : b < 10 := by omega
            have hc9 : c2 < 10 := by omega
            have hms := md_step (l := l2) hlt ha9 hb9 hc9 p1 p2 p3
            have hmf := md_fuel (l := l2) (d := 27) hlt ha9 hb9 hc9 p1 p2 p3 p4 (hd ha9 hb9 hc9)
            refine lv_bipush (v := nI 50) hx hb dX11_isMade_43 (by decide) ?_
            refine lv_bipush (v := nI 9) hx hb dX11_isMade_45 (by decide) ?_
            refine lv_iload_n hx hb dX11_isMade_47 rfl (lv_at hl 1 rfl) ?_
            refine jn_imul hx hb dX11_isMade_48 ?_
            refine jn_iadd hx hb dX11_isMade_49 ?_
            refine lv_iconst (v := nI 3) hx hb dX11_isMade_50 (by decide) ?_
            refine lv_iload_n hx hb dX11_isMade_51 rfl (lv_at hl 2 rfl) ?_
            refine jn_imul hx hb dX11_isMade_52 ?_
            refine jn_iadd hx hb dX11_isMade_53 ?_
            refine lv_istore (lv' := [(6, .int (nI ((50 + (9 * l2)) + (3 * pd)))), (0, .ref (g.2.2.2 0)), (1, .int (nI l2)), (2, .int (nI pd)), (3, .int (nI a)), (4, .int (nI b)), (5, .int (nI c2))]) hx hb dX11_isMade_54 hl (by decide) rfl (fun ls hl => ?_)
            refine lv_aload_n hx hb dX11_isMade_56 rfl (lv_at hl 1 rfl) ?_
            refine lv_iload_n hx hb dX11_isMade_57 rfl (lv_at hl 2 rfl) ?_
            refine lv_iload_n hx hb dX11_isMade_58 rfl (lv_at hl 3 rfl) ?_
            refine lv_iconst (v := nI 1) hx hb dX11_isMade_59 (by decide) ?_
            refine jn_iadd hx hb dX11_isMade_60 ?_
            refine lv_iload_n hx hb dX11_isMade_61 rfl (lv_at hl 4 rfl) ?_
            refine lv_iload hx hb dX11_isMade_62 (lv_at hl 5 rfl) ?_
            refine lv_iload hx hb dX11_isMade_64 (lv_at hl 6 rfl) ?_
            refine vp_callSi (va_Run.run (va_runV (As := [.int (nI l2), .int (nI (pd + 1)), .int (nI a), .int (nI b), .int (nI c2)]) (rest := []) ⟨hx, hb, hml, hown, hts⟩ (c_X11_isMade_d27 l g tl σ l2 (pd + 1) a b c2 hl8 hLn (by omega) ha hb2 hc (fun h1 h2 h3 => by have := hd h1 h2 h3; omega)) (cwV 5 hts gX11_isMade_X11_isMade rfl rfl rfl (by decide +kernel) ⟨Nat.le_of_ble_eq_true rfl, Nat.le_of_ble_eq_true rfl⟩) (okPV hK hP rfl (gM0 g σ tl)) rfl rfl hl.1 rfl (lv_room (Nat.le_of_ble_eq_true rfl)) dX11_isMade_66 ⟨Nat.le_of_ble_eq_true rfl, Nat.le_of_ble_eq_true rfl⟩)) (fun r_66 h_66 => ?_)
            subst h_66
            refine jn_bne hx hb (tgt := 114) dX11_isMade_69 (by decide) (fun c_69 => ?_) (fun c_69 => ?_)
            · refine lv_iconst (v := nI 1) hx hb dX11_isMade_114 (by decide) ?_
              refine lv_goto (tgt := 119) hx hb dX11_isMade_115 (by decide) ?_
              exact hq _ _ ((nI 1)) dX11_isMade_119 jn_n1 (by first | exact n_if1 (hms.mpr (Or.inl c_69)) | exact n_if1 (hms.mpr (Or.inr c_111)) | exact n_if0 (fun q => (hms.mp q).elim c_69 c_111))
            · refine lv_aload_n hx hb dX11_isMade_72 rfl (lv_at hl 1 rfl) ?_
              refine lv_iload_n hx hb dX11_isMade_73 rfl (lv_at hl 2 rfl) ?_
              refine lv_iload_n hx hb dX11_isMade_74 rfl (lv_at hl 3 rfl) ?_
              refine lv_iload_n hx hb dX11_isMade_75 rfl (lv_at hl 4 rfl) ?_
              refine lv_aload_n hx hb dX11_isMade_76 rfl (lv_at hl 1 rfl) ?_
              refine va_get (D := (g.1, g.2.1)) (ci := 13) (v := .ref (g.2.2.2 1)) (C := RX11) (T := TX11) (N := 30) hx hb hts iX11 hown hK.1 hP 0 (gM0 g σ tl) rfl 1 (by decide) k13 (fun _ h9 => h9) rfl dX11_isMade_77 ?_
              refine lv_iload hx hb dX11_isMade_80 (lv_at hl 0 rfl) ?_
              refine jn_iald (f := σ.2.1 0) hx hb hK.1 hP 1 0 (gM1 g σ tl) rfl (by omega) (Nat.le_of_ble_eq_true rfl) dX11_isMade_82 ?_
              refine jn_isubB hx hb (by omega) dX11_isMade_83 ?_
              refine lv_iload hx hb dX11_isMade_84 (lv_at hl 5 rfl) ?_
              refine lv_aload_n hx hb dX11_isMade_86 rfl (lv_at hl 1 rfl) ?_
              refine va_get (D := (g.1, g.2.1)) (ci := 13) (v := .ref (g.2.2.2 1)) (C := RX11) (T := TX11) (N := 30) hx hb hts iX11 hown hK.1 hP 0 (gM0 g σ tl) rfl 1 (by decide) k13 (fun _ h9 => h9) rfl dX11_isMade_87 ?_
              refine lv_iload hx hb dX11_isMade_90 (lv_at hl 0 rfl) ?_
              refine lv_iconst (v := nI 1) hx hb dX11_isMade_92 (by decide) ?_
              refine jn_iadd hx hb dX11_isMade_93 ?_
              refine jn_iald (f := σ.2.1 0) hx hb hK.1 hP 1 0 (gM1 g σ tl) rfl (by omega) (Nat.le_of_ble_eq_true rfl) dX11_isMade_94 ?_
              refine jn_isubB hx hb (by omega) dX11_isMade_95 ?_
              refine lv_iload hx hb dX11_isMade_96 (lv_at hl 6 rfl) ?_
              refine lv_aload_n hx hb dX11_isMade_98 rfl (lv_at hl 1 rfl) ?_
              refine va_get (D := (g.1, g.2.1)) (ci := 13) (v := .ref (g.2.2.2 1)) (C := RX11) (T := TX11) (N := 30) hx hb hts iX11 hown hK.1 hP 0 (gM0 g σ tl) rfl 1 (by decide) k13 (fun _ h9 => h9) rfl dX11_isMade_99 ?_
              refine lv_iload hx hb dX11_isMade_102 (lv_at hl 0 rfl) ?_
              refine lv_iconst (v := nI 2) hx hb dX11_isMade_104 (by decide) ?_
              refine jn_iadd hx hb dX11_isMade_105 ?_
              refine jn_iald (f := σ.2.1 0) hx hb hK.1 hP 1 0 (gM1 g σ tl) rfl (by omega) (Nat.le_of_ble_eq_true rfl) dX11_isMade_106 ?_
              refine jn_isubB hx hb (by omega) dX11_isMade_107 ?_
              refine vp_callSi (va_Run.run (va_runV (As := [.int (nI l2), .int (nI pd), .int (nI (sb a ((σ.2.1 0) ((50 + (9 * l2)) + (3 * pd))))), .int (nI (sb b ((σ.2.1 0) (((50 + (9 * l2)) + (3 * pd)) + 1)))), .int (nI (sb c2 ((σ.2.1 0) (((50 + (9 * l2)) + (3 * pd)) + 2))))]) (rest := []) ⟨hx, hb, hml, hown, hts⟩ (c_X11_isMade_d27 l g tl σ l2 pd (sb a ((σ.2.1 0) ((50 + (9 * l2)) + (3 * pd)))) (sb b ((σ.2.1 0) (((50 + (9 * l2)) + (3 * pd)) + 1))) (sb c2 ((σ.2.1 0) (((50 + (9 * l2)) + (3 * pd)) + 2))) hl8 hLn hpd (sb_or ha9 p1) (sb_or hb9 p2) (sb_or hc9 p3) hmf) (cwV 5 hts gX11_isMade_X11_isMade rfl rfl rfl (by decide +kernel) ⟨Nat.le_of_ble_eq_true rfl, Nat.le_of_ble_eq_true rfl⟩) (okPV hK hP rfl (gM0 g σ tl)) rfl rfl hl.1 rfl (lv_room (Nat.le_of_ble_eq_true rfl)) dX11_isMade_108 ⟨Nat.le_of_ble_eq_true rfl, Nat.le_of_ble_eq_true rfl⟩)) (fun r_108 h_108 => ?_)
              subst h_108
              refine jn_beq hx hb (tgt := 118) dX11_isMade_111 (by decide) (fun c_111 => ?_) (fun c_111 => ?_)
              · refine lv_iconst (v := nI 0) hx hb dX11_isMade_118 (by decide) ?_
                exact hq _ _ ((nI 0)) dX11_isMade_119 jn_n0 (by first | exact n_if1 (hms.mpr (Or.inl c_69)) | exact n_if1 (hms.mpr (Or.inr c_111)) | exact n_if0 (fun q => (hms.mp q).elim c_69 c_111))
              · refine lv_iconst (v := nI 1) hx hb dX11_isMade_114 (by decide) ?_
                refine lv_goto (tgt := 119) hx hb dX11_isMade_115 (by decide) ?_
                exact hq _ _ ((nI 1)) dX11_isMade_119 jn_n1 (by first | exact n_if1 (hms.mpr (Or.inl c_69)) | exact n_if1 (hms.mpr (Or.inr c_111)) | exact n_if0 (fun q => (hms.mp q).elim c_69 c_111))
          · refine lv_iconst (v := nI 0) hx hb dX11_isMade_41 (by decide) ?_
            exact hq _ _ ((nI 0)) dX11_isMade_42 jn_n0 (n_if0 (fun q => by have q4 := cB_iff.mp q.2.2.2; rw [show (σ.2.1 0) (42 + l2) - pd = 0 by omega] at q4; obtain ⟨q5, q6, q7⟩ := q4; omega))
        · have ea : a = 0 := by omega
          have eb : b = 0 := by omega
          have ec : c2 = 0 := by omega
          refine lv_iconst (v := nI 1) hx hb dX11_isMade_26 (by decide) ?_
          exact hq _ _ ((nI 1)) dX11_isMade_27 jn_n1 (n_if1 ⟨by omega, by omega, by omega, cB_iff.mpr (by rw [ea, eb, ec]; exact md_0 _ _ _ _)⟩)
      · refine lv_iconst (v := nI 0) hx hb dX11_isMade_14 (by decide) ?_
        exact hq _ _ ((nI 0)) dX11_isMade_15 jn_n0 (n_if0 (fun q => by have q1 := q.1; have q2 := q.2.1; have q3 := q.2.2.1; omega))

abbrev r_c_X11_isMade_d29 : Room := { frames := 29, cells := 0, slots := 0, locals := 754 }
set_option maxHeartbeats 4000000 in
set_option maxRecDepth 100000 in
theorem c_X11_isMade_d29 (l : Launch) (g : GC) (tl : va_W) (σ : SS) (l2 pd a b c2 : Nat) (hl8 : l2 < 8) (hLn : Ln (σ.2.1 0) l2) (hpd : pd ≤ (σ.2.1 0) (42 + l2)) (ha : a < 10 ∨ (2147483648 ≤ a ∧ a < 4294967296)) (hb2 : b < 10 ∨ (2147483648 ≤ b ∧ b < 4294967296)) (hc : c2 < 10 ∨ (2147483648 ≤ c2 ∧ c2 < 4294967296)) (hd : a < 10 → b < 10 → c2 < 10 → (σ.2.1 0) (42 + l2) - pd + (a + b + c2) ≤ 29) : Met l yX11_isMade wsX11_isMade r_c_X11_isMade_d29 (va_Pc [.ref (g.2.2.2 0), .int (nI l2), .int (nI pd), .int (nI a), .int (nI b), .int (nI c2)] (PP g (wM g σ ++ tl))) (vp_Si (fun r => r = nI (if mdQ (σ.2.1 0) l2 ((σ.2.1 0) (42 + l2) - pd) pd a b c2 then 1 else 0))) 0 0 (fun _ => False) := by
  refine jn_pz (cc := cX11_isMade) (maxL := 7) (own := RX11) (by decide) rfl rfl (Nat.le_of_ble_eq_true rfl) ?_
  intro p e s m below meth c Q hx hb hml hown hts ⟨hP, hK⟩ hq ls hl
  have hl : lv_has ls 7 [(0, .ref (g.2.2.2 0)), (1, .int (nI l2)), (2, .int (nI pd)), (3, .int (nI a)), (4, .int (nI b)), (5, .int (nI c2))] := hl
  have iX11 : ∀ w ∈ wsX110, w ∈ wsX11_isMade := by decide +kernel
  have k13 := hts (.fieldLink RX11 13 "JumpingAutomataModel" "now" "[I") (by decide +kernel)
  have hH3 := hLn.2.1
  refine lv_iload_n hx hb dX11_isMade_0 rfl (lv_at hl 3 rfl) ?_
  refine jn_zlt hx hb (by omega) (tgt := 14) dX11_isMade_1 (by decide) (fun c_1 => ?_) (fun c_1 => ?_)
  · refine lv_iconst (v := nI 0) hx hb dX11_isMade_14 (by decide) ?_
    exact hq _ _ ((nI 0)) dX11_isMade_15 jn_n0 (n_if0 (fun q => by have q1 := q.1; have q2 := q.2.1; have q3 := q.2.2.1; omega))
  · refine lv_iload hx hb dX11_isMade_4 (lv_at hl 4 rfl) ?_
    refine jn_zlt hx hb (by omega) (tgt := 14) dX11_isMade_6 (by decide) (fun c_6 => ?_) (fun c_6 => ?_)
    · refine lv_iconst (v := nI 0) hx hb dX11_isMade_14 (by decide) ?_
      exact hq _ _ ((nI 0)) dX11_isMade_15 jn_n0 (n_if0 (fun q => by have q1 := q.1; have q2 := q.2.1; have q3 := q.2.2.1; omega))
    · refine lv_iload hx hb dX11_isMade_9 (lv_at hl 5 rfl) ?_
      refine jn_zge hx hb (by omega) (tgt := 16) dX11_isMade_11 (by decide) (fun c_11 => ?_) (fun c_11 => ?_)
      · refine lv_iload_n hx hb dX11_isMade_16 rfl (lv_at hl 3 rfl) ?_
        refine lv_iload hx hb dX11_isMade_17 (lv_at hl 4 rfl) ?_
        refine jn_iadd hx hb dX11_isMade_19 ?_
        refine lv_iload hx hb dX11_isMade_20 (lv_at hl 5 rfl) ?_
        refine jn_iadd hx hb dX11_isMade_22 ?_
        refine jn_zne hx hb (by omega) (tgt := 28) dX11_isMade_23 (by decide) (fun c_23 => ?_) (fun c_23 => ?_)
        · refine lv_iload_n hx hb dX11_isMade_28 rfl (lv_at hl 2 rfl) ?_
          refine lv_aload_n hx hb dX11_isMade_29 rfl (lv_at hl 0 rfl) ?_
          refine va_get (D := (g.1, g.2.1)) (ci := 13) (v := .ref (g.2.2.2 1)) (C := RX11) (T := TX11) (N := 30) hx hb hts iX11 hown hK.1 hP 0 (gM0 g σ tl) rfl 1 (by decide) k13 (fun _ h9 => h9) rfl dX11_isMade_30 ?_
          refine lv_bipush (v := nI 42) hx hb dX11_isMade_33 (by decide) ?_
          refine lv_iload_n hx hb dX11_isMade_35 rfl (lv_at hl 1 rfl) ?_
          refine jn_iadd hx hb dX11_isMade_36 ?_
          refine jn_iald (f := σ.2.1 0) hx hb hK.1 hP 1 0 (gM1 g σ tl) rfl (by omega) (Nat.le_of_ble_eq_true rfl) dX11_isMade_37 ?_
          refine jn_cne hx hb (by omega) (by omega) (tgt := 43) dX11_isMade_38 (by decide) (fun c_38 => ?_) (fun c_38 => ?_)
          · have hlt : pd < (σ.2.1 0) (42 + l2) := by omega
            obtain ⟨p1, p2, p3, p4⟩ := hLn.2.2 pd hlt
            have ha9 : a < 10 := by omega
            have hb9 : b < 10 := by omega
            have hc9 : c2 < 10 := by omega
            have hms := md_step (l := l2) hlt ha9 hb9 hc9 p1 p2 p3
            have hmf := md_fuel (l := l2) (d := 28) hlt ha9 hb9 hc9 p1 p2 p3 p4 (hd ha9 hb9 hc9)
            refine lv_bipush (v := nI 50) hx hb dX11_isMade_43 (by decide) ?_
            refine lv_bipush (v := nI 9) hx hb dX11_isMade_45 (by decide) ?_
            refine lv_iload_n hx hb dX11_isMade_47 rfl (lv_at hl 1 rfl) ?_
            refine jn_imul hx hb dX11_isMade_48 ?_
            refine jn_iadd hx hb dX11_isMade_49 ?_
            refine lv_iconst (v := nI 3) hx hb dX11_isMade_50 (by decide) ?_
            refine lv_iload_n hx hb dX11_isMade_51 rfl (lv_at hl 2 rfl) ?_
            refine jn_imul hx hb dX11_isMade_52 ?_
            refine jn_iadd hx hb dX11_isMade_53 ?_
            refine lv_istore (lv' := [(6, .int (nI ((50 + (9 * l2)) + (3 * pd)))), (0, .ref (g.2.2.2 0)), (1, .int (nI l2)), (2, .int (nI pd)), (3, .int (nI a)), (4, .int (nI b)), (5, .int (nI c2))]) hx hb dX11_isMade_54 hl (by decide) rfl (fun ls hl => ?_)
            refine lv_aload_n hx hb dX11_isMade_56 rfl (lv_at hl 1 rfl) ?_
            refine lv_iload_n hx hb dX11_isMade_57 rfl (lv_at hl 2 rfl) ?_
            refine lv_iload_n hx hb dX11_isMade_58 rfl (lv_at hl 3 rfl) ?_
            refine lv_iconst (v := nI 1) hx hb dX11_isMade_59 (by decide) ?_
            refine jn_iadd hx hb dX11_isMade_60 ?_
            refine lv_iload_n hx hb dX11_isMade_61 rfl (lv_at hl 4 rfl) ?_
            refine lv_iload hx hb dX11_isMade_62 (lv_at hl 5 rfl) ?_
            refine lv_iload hx hb dX11_isMade_64 (lv_at hl 6 rfl) ?_
            refine vp_callSi (va_Run.run (va_runV (As := [.int (nI l2), .int (nI (pd + 1)), .int (nI a), .int (nI b), .int (nI c2)]) (rest := []) ⟨hx, hb, hml, hown, hts⟩ (c_X11_isMade_d28 l g tl σ l2 (pd + 1) a b c2 hl8 hLn (by omega) ha hb2 hc (fun h1 h2 h3 => by have := hd h1 h2 h3; omega)) (cwV 5 hts gX11_isMade_X11_isMade rfl rfl rfl (by decide +kernel) ⟨Nat.le_of_ble_eq_true rfl, Nat.le_of_ble_eq_true rfl⟩) (okPV hK hP rfl (gM0 g σ tl)) rfl rfl hl.1 rfl (lv_room (Nat.le_of_ble_eq_true rfl)) dX11_isMade_66 ⟨Nat.le_of_ble_eq_true rfl, Nat.le_of_ble_eq_true rfl⟩)) (fun r_66 h_66 => ?_)
            subst h_66
            refine jn_bne hx hb (tgt := 114) dX11_isMade_69 (by decide) (fun c_69 => ?_) (fun c_69 => ?_)
            · refine lv_iconst (v := nI 1) hx hb dX11_isMade_114 (by decide) ?_
              refine lv_goto (tgt := 119) hx hb dX11_isMade_115 (by decide) ?_
              exact hq _ _ ((nI 1)) dX11_isMade_119 jn_n1 (by first | exact n_if1 (hms.mpr (Or.inl c_69)) | exact n_if1 (hms.mpr (Or.inr c_111)) | exact n_if0 (fun q => (hms.mp q).elim c_69 c_111))
            · refine lv_aload_n hx hb dX11_isMade_72 rfl (lv_at hl 1 rfl) ?_
              refine lv_iload_n hx hb dX11_isMade_73 rfl (lv_at hl 2 rfl) ?_
              refine lv_iload_n hx hb dX11_isMade_74 rfl (lv_at hl 3 rfl) ?_
              refine lv_iload_n hx hb dX11_isMade_75 rfl (lv_at hl 4 rfl) ?_
              refine lv_aload_n hx hb dX11_isMade_76 rfl (lv_at hl 1 rfl) ?_
              refine va_get (D := (g.1, g.2.1)) (ci := 13) (v := .ref (g.2.2.2 1)) (C := RX11) (T := TX11) (N := 30) hx hb hts iX11 hown hK.1 hP 0 (gM0 g σ tl) rfl 1 (by decide) k13 (fun _ h9 => h9) rfl dX11_isMade_77 ?_
              refine lv_iload hx hb dX11_isMade_80 (lv_at hl 0 rfl) ?_
              refine jn_iald (f := σ.2.1 0) hx hb hK.1 hP 1 0 (gM1 g σ tl) rfl (by omega) (Nat.le_of_ble_eq_true rfl) dX11_isMade_82 ?_
              refine jn_isubB hx hb (by omega) dX11_isMade_83 ?_
              refine lv_iload hx hb dX11_isMade_84 (lv_at hl 5 rfl) ?_
              refine lv_aload_n hx hb dX11_isMade_86 rfl (lv_at hl 1 rfl) ?_
              refine va_get (D := (g.1, g.2.1)) (ci := 13) (v := .ref (g.2.2.2 1)) (C := RX11) (T := TX11) (N := 30) hx hb hts iX11 hown hK.1 hP 0 (gM0 g σ tl) rfl 1 (by decide) k13 (fun _ h9 => h9) rfl dX11_isMade_87 ?_
              refine lv_iload hx hb dX11_isMade_90 (lv_at hl 0 rfl) ?_
              refine lv_iconst (v := nI 1) hx hb dX11_isMade_92 (by decide) ?_
              refine jn_iadd hx hb dX11_isMade_93 ?_
              refine jn_iald (f := σ.2.1 0) hx hb hK.1 hP 1 0 (gM1 g σ tl) rfl (by omega) (Nat.le_of_ble_eq_true rfl) dX11_isMade_94 ?_
              refine jn_isubB hx hb (by omega) dX11_isMade_95 ?_
              refine lv_iload hx hb dX11_isMade_96 (lv_at hl 6 rfl) ?_
              refine lv_aload_n hx hb dX11_isMade_98 rfl (lv_at hl 1 rfl) ?_
              refine va_get (D := (g.1, g.2.1)) (ci := 13) (v := .ref (g.2.2.2 1)) (C := RX11) (T := TX11) (N := 30) hx hb hts iX11 hown hK.1 hP 0 (gM0 g σ tl) rfl 1 (by decide) k13 (fun _ h9 => h9) rfl dX11_isMade_99 ?_
              refine lv_iload hx hb dX11_isMade_102 (lv_at hl 0 rfl) ?_
              refine lv_iconst (v := nI 2) hx hb dX11_isMade_104 (by decide) ?_
              refine jn_iadd hx hb dX11_isMade_105 ?_
              refine jn_iald (f := σ.2.1 0) hx hb hK.1 hP 1 0 (gM1 g σ tl) rfl (by omega) (Nat.le_of_ble_eq_true rfl) dX11_isMade_106 ?_
              refine jn_isubB hx hb (by omega) dX11_isMade_107 ?_
              refine vp_callSi (va_Run.run (va_runV (As := [.int (nI l2), .int (nI pd), .int (nI (sb a ((σ.2.1 0) ((50 + (9 * l2)) + (3 * pd))))), .int (nI (sb b ((σ.2.1 0) (((50 + (9 * l2)) + (3 * pd)) + 1)))), .int (nI (sb c2 ((σ.2.1 0) (((50 + (9 * l2)) + (3 * pd)) + 2))))]) (rest := []) ⟨hx, hb, hml, hown, hts⟩ (c_X11_isMade_d28 l g tl σ l2 pd (sb a ((σ.2.1 0) ((50 + (9 * l2)) + (3 * pd)))) (sb b ((σ.2.1 0) (((50 + (9 * l2)) + (3 * pd)) + 1))) (sb c2 ((σ.2.1 0) (((50 + (9 * l2)) + (3 * pd)) + 2))) hl8 hLn hpd (sb_or ha9 p1) (sb_or hb9 p2) (sb_or hc9 p3) hmf) (cwV 5 hts gX11_isMade_X11_isMade rfl rfl rfl (by decide +kernel) ⟨Nat.le_of_ble_eq_true rfl, Nat.le_of_ble_eq_true rfl⟩) (okPV hK hP rfl (gM0 g σ tl)) rfl rfl hl.1 rfl (lv_room (Nat.le_of_ble_eq_true rfl)) dX11_isMade_108 ⟨Nat.le_of_ble_eq_true rfl, Nat.le_of_ble_eq_true rfl⟩)) (fun r_108 h_108 => ?_)
              subst h_108
              refine jn_beq hx hb (tgt := 118) dX11_isMade_111 (by decide) (fun c_111 => ?_) (fun c_111 => ?_)
              · refine lv_iconst (v := nI 0) hx hb dX11_isMade_118 (by decide) ?_
                exact hq _ _ ((nI 0)) dX11_isMade_119 jn_n0 (by first | exact n_if1 (hms.mpr (Or.inl c_69)) | exact n_if1 (hms.mpr (Or.inr c_111)) | exact n_if0 (fun q => (hms.mp q).elim c_69 c_111))
              · refine lv_iconst (v := nI 1) hx hb dX11_isMade_114 (by decide) ?_
                refine lv_goto (tgt := 119) hx hb dX11_isMade_115 (by decide) ?_
                exact hq _ _ ((nI 1)) dX11_isMade_119 jn_n1 (by first | exact n_if1 (hms.mpr (Or.inl c_69)) | exact n_if1 (hms.mpr (Or.inr c_111)) | exact n_if0 (fun q => (hms.mp q).elim c_69 c_111))
          · refine lv_iconst (v := nI 0) hx hb dX11_isMade_41 (by decide) ?_
            exact hq _ _ ((nI 0)) dX11_isMade_42 jn_n0 (n_if0 (fun q => by have q4 := cB_iff.mp q.2.2.2; rw [show (σ.2.1 0) (42 + l2) - pd = 0 by omega] at q4; obtain ⟨q5, q6, q7⟩ := q4; omega))
        · have ea : a = 0 := by omega
          have eb : b = 0 := by omega
          have ec : c2 = 0 := by omega
          refine lv_iconst (v := nI 1) hx hb dX11_isMade_26 (by decide) ?_
          exact hq _ _ ((nI 1)) dX11_isMade_27 jn_n1 (n_if1 ⟨by omega, by omega, by omega, cB_iff.mpr (by rw [ea, eb, ec]; exact md_0 _ _ _ _)⟩)
      · refine lv_iconst (v := nI 0) hx hb dX11_isMade_14 (by decide) ?_
        exact hq _ _ ((nI 0)) dX11_isMade_15 jn_n0 (n_if0 (fun q => by have q1 := q.1; have q2 := q.2.1; have q3 := q.2.2.1; omega))

abbrev r_c_X11_isMade_d30 : Room := { frames := 30, cells := 0, slots := 0, locals := 780 }
set_option maxHeartbeats 4000000 in
set_option maxRecDepth 100000 in
theorem c_X11_isMade_d30 (l : Launch) (g : GC) (tl : va_W) (σ : SS) (l2 pd a b c2 : Nat) (hl8 : l2 < 8) (hLn : Ln (σ.2.1 0) l2) (hpd : pd ≤ (σ.2.1 0) (42 + l2)) (ha : a < 10 ∨ (2147483648 ≤ a ∧ a < 4294967296)) (hb2 : b < 10 ∨ (2147483648 ≤ b ∧ b < 4294967296)) (hc : c2 < 10 ∨ (2147483648 ≤ c2 ∧ c2 < 4294967296)) (hd : a < 10 → b < 10 → c2 < 10 → (σ.2.1 0) (42 + l2) - pd + (a + b + c2) ≤ 30) : Met l yX11_isMade wsX11_isMade r_c_X11_isMade_d30 (va_Pc [.ref (g.2.2.2 0), .int (nI l2), .int (nI pd), .int (nI a), .int (nI b), .int (nI c2)] (PP g (wM g σ ++ tl))) (vp_Si (fun r => r = nI (if mdQ (σ.2.1 0) l2 ((σ.2.1 0) (42 + l2) - pd) pd a b c2 then 1 else 0))) 0 0 (fun _ => False) := by
  refine jn_pz (cc := cX11_isMade) (maxL := 7) (own := RX11) (by decide) rfl rfl (Nat.le_of_ble_eq_true rfl) ?_
  intro p e s m below meth c Q hx hb hml hown hts ⟨hP, hK⟩ hq ls hl
  have hl : lv_has ls 7 [(0, .ref (g.2.2.2 0)), (1, .int (nI l2)), (2, .int (nI pd)), (3, .int (nI a)), (4, .int (nI b)), (5, .int (nI c2))] := hl
  have iX11 : ∀ w ∈ wsX110, w ∈ wsX11_isMade := by decide +kernel
  have k13 := hts (.fieldLink RX11 13 "JumpingAutomataModel" "now" "[I") (by decide +kernel)
  have hH3 := hLn.2.1
  refine lv_iload_n hx hb dX11_isMade_0 rfl (lv_at hl 3 rfl) ?_
  refine jn_zlt hx hb (by omega) (tgt := 14) dX11_isMade_1 (by decide) (fun c_1 => ?_) (fun c_1 => ?_)
  · refine lv_iconst (v := nI 0) hx hb dX11_isMade_14 (by decide) ?_
    exact hq _ _ ((nI 0)) dX11_isMade_15 jn_n0 (n_if0 (fun q => by have q1 := q.1; have q2 := q.2.1; have q3 := q.2.2.1; omega))
  · refine lv_iload hx hb dX11_isMade_4 (lv_at hl 4 rfl) ?_
    refine jn_zlt hx hb (by omega) (tgt := 14) dX11_isMade_6 (by decide) (fun c_6 => ?_) (fun c_6 => ?_)
    · refine lv_iconst (v := nI 0) hx hb dX11_isMade_14 (by decide) ?_
      exact hq _ _ ((nI 0)) dX11_isMade_15 jn_n0 (n_if0 (fun q => by have q1 := q.1; have q2 := q.2.1; have q3 := q.2.2.1; omega))
    · refine lv_iload hx hb dX11_isMade_9 (lv_at hl 5 rfl) ?_
      refine jn_zge hx hb (by omega) (tgt := 16) dX11_isMade_11 (by decide) (fun c_11 => ?_) (fun c_11 => ?_)
      · refine lv_iload_n hx hb dX11_isMade_16 rfl (lv_at hl 3 rfl) ?_
        refine lv_iload hx hb dX11_isMade_17 (lv_at hl 4 rfl) ?_
        refine jn_iadd hx hb dX11_isMade_19 ?_
        refine lv_iload hx hb dX11_isMade_20 (lv_at hl 5 rfl) ?_
        refine jn_iadd hx hb dX11_isMade_22 ?_
        refine jn_zne hx hb (by omega) (tgt := 28) dX11_isMade_23 (by decide) (fun c_23 => ?_) (fun c_23 => ?_)
        · refine lv_iload_n hx hb dX11_isMade_28 rfl (lv_at hl 2 rfl) ?_
          refine lv_aload_n hx hb dX11_isMade_29 rfl (lv_at hl 0 rfl) ?_
          refine va_get (D := (g.1, g.2.1)) (ci := 13) (v := .ref (g.2.2.2 1)) (C := RX11) (T := TX11) (N := 30) hx hb hts iX11 hown hK.1 hP 0 (gM0 g σ tl) rfl 1 (by decide) k13 (fun _ h9 => h9) rfl dX11_isMade_30 ?_
          refine lv_bipush (v := nI 42) hx hb dX11_isMade_33 (by decide) ?_
          refine lv_iload_n hx hb dX11_isMade_35 rfl (lv_at hl 1 rfl) ?_
          refine jn_iadd hx hb dX11_isMade_36 ?_
          refine jn_iald (f := σ.2.1 0) hx hb hK.1 hP 1 0 (gM1 g σ tl) rfl (by omega) (Nat.le_of_ble_eq_true rfl) dX11_isMade_37 ?_
          refine jn_cne hx hb (by omega) (by omega) (tgt := 43) dX11_isMade_38 (by decide) (fun c_38 => ?_) (fun c_38 => ?_)
          · have hlt : pd < (σ.2.1 0) (42 + l2) := by omega
            obtain ⟨p1, p2, p3, p4⟩ := hLn.2.2 pd hlt
            have ha9 : a < 10 := by omega
            have hb9 : b < 10 := by omega
            have hc9 : c2 < 10 := by omega
            have hms := md_step (l := l2) hlt ha9 hb9 hc9 p1 p2 p3
            have hmf := md_fuel (l := l2) (d := 29) hlt ha9 hb9 hc9 p1 p2 p3 p4 (hd ha9 hb9 hc9)
            refine lv_bipush (v := nI 50) hx hb dX11_isMade_43 (by decide) ?_
            refine lv_bipush (v := nI 9) hx hb dX11_isMade_45 (by decide) ?_
            refine lv_iload_n hx hb dX11_isMade_47 rfl (lv_at hl 1 rfl) ?_
            refine jn_imul hx hb dX11_isMade_48 ?_
            refine jn_iadd hx hb dX11_isMade_49 ?_
            refine lv_iconst (v := nI 3) hx hb dX11_isMade_50 (by decide) ?_
            refine lv_iload_n hx hb dX11_isMade_51 rfl (lv_at hl 2 rfl) ?_
            refine jn_imul hx hb dX11_isMade_52 ?_
            refine jn_iadd hx hb dX11_isMade_53 ?_
            refine lv_istore (lv' := [(6, .int (nI ((50 + (9 * l2)) + (3 * pd)))), (0, .ref (g.2.2.2 0)), (1, .int (nI l2)), (2, .int (nI pd)), (3, .int (nI a)), (4, .int (nI b)), (5, .int (nI c2))]) hx hb dX11_isMade_54 hl (by decide) rfl (fun ls hl => ?_)
            refine lv_aload_n hx hb dX11_isMade_56 rfl (lv_at hl 1 rfl) ?_
            refine lv_iload_n hx hb dX11_isMade_57 rfl (lv_at hl 2 rfl) ?_
            refine lv_iload_n hx hb dX11_isMade_58 rfl (lv_at hl 3 rfl) ?_
            refine lv_iconst (v := nI 1) hx hb dX11_isMade_59 (by decide) ?_
            refine jn_iadd hx hb dX11_isMade_60 ?_
            refine lv_iload_n hx hb dX11_isMade_61 rfl (lv_at hl 4 rfl) ?_
            refine lv_iload hx hb dX11_isMade_62 (lv_at hl 5 rfl) ?_
            refine lv_iload hx hb dX11_isMade_64 (lv_at hl 6 rfl) ?_
            refine vp_callSi (va_Run.run (va_runV (As := [.int (nI l2), .int (nI (pd + 1)), .int (nI a), .int (nI b), .int (nI c2)]) (rest := []) ⟨hx, hb, hml, hown, hts⟩ (c_X11_isMade_d29 l g tl σ l2 (pd + 1) a b c2 hl8 hLn (by omega) ha hb2 hc (fun h1 h2 h3 => by have := hd h1 h2 h3; omega)) (cwV 5 hts gX11_isMade_X11_isMade rfl rfl rfl (by decide +kernel) ⟨Nat.le_of_ble_eq_true rfl, Nat.le_of_ble_eq_true rfl⟩) (okPV hK hP rfl (gM0 g σ tl)) rfl rfl hl.1 rfl (lv_room (Nat.le_of_ble_eq_true rfl)) dX11_isMade_66 ⟨Nat.le_of_ble_eq_true rfl, Nat.le_of_ble_eq_true rfl⟩)) (fun r_66 h_66 => ?_)
            subst h_66
            refine jn_bne hx hb (tgt := 114) dX11_isMade_69 (by decide) (fun c_69 => ?_) (fun c_69 => ?_)
            · refine lv_iconst (v := nI 1) hx hb dX11_isMade_114 (by decide) ?_
              refine lv_goto (tgt := 119) hx hb dX11_isMade_115 (by decide) ?_
              exact hq _ _ ((nI 1)) dX11_isMade_119 jn_n1 (by first | exact n_if1 (hms.mpr (Or.inl c_69)) | exact n_if1 (hms.mpr (Or.inr c_111)) | exact n_if0 (fun q => (hms.mp q).elim c_69 c_111))
            · refine lv_aload_n hx hb dX11_isMade_72 rfl (lv_at hl 1 rfl) ?_
              refine lv_iload_n hx hb dX11_isMade_73 rfl (lv_at hl 2 rfl) ?_
              refine lv_iload_n hx hb dX11_isMade_74 rfl (lv_at hl 3 rfl) ?_
              refine lv_iload_n hx hb dX11_isMade_75 rfl (lv_at hl 4 rfl) ?_
              refine lv_aload_n hx hb dX11_isMade_76 rfl (lv_at hl 1 rfl) ?_
              refine va_get (D := (g.1, g.2.1)) (ci := 13) (v := .ref (g.2.2.2 1)) (C := RX11) (T := TX11) (N := 30) hx hb hts iX11 hown hK.1 hP 0 (gM0 g σ tl) rfl 1 (by decide) k13 (fun _ h9 => h9) rfl dX11_isMade_77 ?_
              refine lv_iload hx hb dX11_isMade_80 (lv_at hl 0 rfl) ?_
              refine jn_iald (f := σ.2.1 0) hx hb hK.1 hP 1 0 (gM1 g σ tl) rfl (by omega) (Nat.le_of_ble_eq_true rfl) dX11_isMade_82 ?_
              refine jn_isubB hx hb (by omega) dX11_isMade_83 ?_
              refine lv_iload hx hb dX11_isMade_84 (lv_at hl 5 rfl) ?_
              refine lv_aload_n hx hb dX11_isMade_86 rfl (lv_at hl 1 rfl) ?_
              refine va_get (D := (g.1, g.2.1)) (ci := 13) (v := .ref (g.2.2.2 1)) (C := RX11) (T := TX11) (N := 30) hx hb hts iX11 hown hK.1 hP 0 (gM0 g σ tl) rfl 1 (by decide) k13 (fun _ h9 => h9) rfl dX11_isMade_87 ?_
              refine lv_iload hx hb dX11_isMade_90 (lv_at hl 0 rfl) ?_
              refine lv_iconst (v := nI 1) hx hb dX11_isMade_92 (by decide) ?_
              refine jn_iadd hx hb dX11_isMade_93 ?_
              refine jn_iald (f := σ.2.1 0) hx hb hK.1 hP 1 0 (gM1 g σ tl) rfl (by omega) (Nat.le_of_ble_eq_true rfl) dX11_isMade_94 ?_
              refine jn_isubB hx hb (by omega) dX11_isMade_95 ?_
              refine lv_iload hx hb dX11_isMade_96 (lv_at hl 6 rfl) ?_
              refine lv_aload_n hx hb dX11_isMade_98 rfl (lv_at hl 1 rfl) ?_
              refine va_get (D := (g.1, g.2.1)) (ci := 13) (v := .ref (g.2.2.2 1)) (C := RX11) (T := TX11) (N := 30) hx hb hts iX11 hown hK.1 hP 0 (gM0 g σ tl) rfl 1 (by decide) k13 (fun _ h9 => h9) rfl dX11_isMade_99 ?_
              refine lv_iload hx hb dX11_isMade_102 (lv_at hl 0 rfl) ?_
              refine lv_iconst (v := nI 2) hx hb dX11_isMade_104 (by decide) ?_
              refine jn_iadd hx hb dX11_isMade_105 ?_
              refine jn_iald (f := σ.2.1 0) hx hb hK.1 hP 1 0 (gM1 g σ tl) rfl (by omega) (Nat.le_of_ble_eq_true rfl) dX11_isMade_106 ?_
              refine jn_isubB hx hb (by omega) dX11_isMade_107 ?_
              refine vp_callSi (va_Run.run (va_runV (As := [.int (nI l2), .int (nI pd), .int (nI (sb a ((σ.2.1 0) ((50 + (9 * l2)) + (3 * pd))))), .int (nI (sb b ((σ.2.1 0) (((50 + (9 * l2)) + (3 * pd)) + 1)))), .int (nI (sb c2 ((σ.2.1 0) (((50 + (9 * l2)) + (3 * pd)) + 2))))]) (rest := []) ⟨hx, hb, hml, hown, hts⟩ (c_X11_isMade_d29 l g tl σ l2 pd (sb a ((σ.2.1 0) ((50 + (9 * l2)) + (3 * pd)))) (sb b ((σ.2.1 0) (((50 + (9 * l2)) + (3 * pd)) + 1))) (sb c2 ((σ.2.1 0) (((50 + (9 * l2)) + (3 * pd)) + 2))) hl8 hLn hpd (sb_or ha9 p1) (sb_or hb9 p2) (sb_or hc9 p3) hmf) (cwV 5 hts gX11_isMade_X11_isMade rfl rfl rfl (by decide +kernel) ⟨Nat.le_of_ble_eq_true rfl, Nat.le_of_ble_eq_true rfl⟩) (okPV hK hP rfl (gM0 g σ tl)) rfl rfl hl.1 rfl (lv_room (Nat.le_of_ble_eq_true rfl)) dX11_isMade_108 ⟨Nat.le_of_ble_eq_true rfl, Nat.le_of_ble_eq_true rfl⟩)) (fun r_108 h_108 => ?_)
              subst h_108
              refine jn_beq hx hb (tgt := 118) dX11_isMade_111 (by decide) (fun c_111 => ?_) (fun c_111 => ?_)
              · refine lv_iconst (v := nI 0) hx hb dX11_isMade_118 (by decide) ?_
                exact hq _ _ ((nI 0)) dX11_isMade_119 jn_n0 (by first | exact n_if1 (hms.mpr (Or.inl c_69)) | exact n_if1 (hms.mpr (Or.inr c_111)) | exact n_if0 (fun q => (hms.mp q).elim c_69 c_111))
              · refine lv_iconst (v := nI 1) hx hb dX11_isMade_114 (by decide) ?_
                refine lv_goto (tgt := 119) hx hb dX11_isMade_115 (by decide) ?_
                exact hq _ _ ((nI 1)) dX11_isMade_119 jn_n1 (by first | exact n_if1 (hms.mpr (Or.inl c_69)) | exact n_if1 (hms.mpr (Or.inr c_111)) | exact n_if0 (fun q => (hms.mp q).elim c_69 c_111))
          · refine lv_iconst (v := nI 0) hx hb dX11_isMade_41 (by decide) ?_
            exact hq _ _ ((nI 0)) dX11_isMade_42 jn_n0 (n_if0 (fun q => by have q4 := cB_iff.mp q.2.2.2; rw [show (σ.2.1 0) (42 + l2) - pd = 0 by omega] at q4; obtain ⟨q5, q6, q7⟩ := q4; omega))
        · have ea : a = 0 := by omega
          have eb : b = 0 := by omega
          have ec : c2 = 0 := by omega
          refine lv_iconst (v := nI 1) hx hb dX11_isMade_26 (by decide) ?_
          exact hq _ _ ((nI 1)) dX11_isMade_27 jn_n1 (n_if1 ⟨by omega, by omega, by omega, cB_iff.mpr (by rw [ea, eb, ec]; exact md_0 _ _ _ _)⟩)
      · refine lv_iconst (v := nI 0) hx hb dX11_isMade_14 (by decide) ?_
        exact hq _ _ ((nI 0)) dX11_isMade_15 jn_n0 (n_if0 (fun q => by have q1 := q.1; have q2 := q.2.1; have q3 := q.2.2.1; omega))
