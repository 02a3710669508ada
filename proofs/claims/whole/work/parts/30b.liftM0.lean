def f_M_init (g : Nat) (M : ax_M) (o : Nat) : Option (ax_M) := (ax_nw M (g + 1) (.inr (0, 8)) [(some o)]).bind (fun M1 => (ax_pr M1 3 4 (some o) (some (g + 1))).bind (fun M3 => (ax_nw M3 (g + 2) (.inr (1, 8)) [(some o)]).bind (fun M4 => (ax_pr M4 3 5 (some o) (some (g + 2))).bind (fun M6 => (ax_nw M6 (g + 3) (.inr (1, 8)) [(some o)]).bind (fun M7 => (ax_pr M7 3 6 (some o) (some (g + 3))).bind (fun M9 => (ax_nw M9 (g + 4) (.inr (0, 8)) [(some o)]).bind (fun M10 => (ax_pr M10 3 7 (some o) (some (g + 4))).bind (fun M12 => (ax_nw M12 (g + 5) (.inr (0, 6)) [(some o)]).bind (fun M13 => (ax_pr M13 3 9 (some o) (some (g + 5))).bind (fun M15 => (ax_nw M15 (g + 6) (.inr (0, 6)) [(some o)]).bind (fun M16 => (ax_pr M16 3 10 (some o) (some (g + 6))).bind (fun M18 => (ax_nw M18 (g + 7) (.inr (0, 6)) [(some o)]).bind (fun M19 => (ax_pr M19 3 11 (some o) (some (g + 7))).bind (fun M21 => (ax_nw M21 (g + 8) (.inr (0, 6)) [(some o)]).bind (fun M22 => (ax_pr M22 3 12 (some o) (some (g + 8))).bind (fun M24 => (ax_nw M24 (g + 9) (.inr (0, 6)) [(some o)]).bind (fun M25 => (ax_pr M25 3 13 (some o) (some (g + 9))).bind (fun M27 => (ax_nw M27 (g + 10) (.inr (2, 6)) [(some o)]).bind (fun M28 => (ax_pr M28 3 14 (some o) (some (g + 10))).bind (fun M30 => (ax_nw M30 (g + 11) (.inr (2, 6)) [(some o)]).bind (fun M31 => (ax_pr M31 3 15 (some o) (some (g + 11))).bind (fun M33 => (ax_nw M33 (g + 12) (.inr (0, 6)) [(some o)]).bind (fun M34 => (ax_pr M34 3 16 (some o) (some (g + 12))).bind (fun M36 => (ax_nw M36 (g + 13) (.inr (0, 6)) [(some o)]).bind (fun M37 => (ax_pr M37 3 17 (some o) (some (g + 13))).bind (fun M39 => (ax_nw M39 (g + 14) (.inr (0, 6)) [(some o)]).bind (fun M40 => (ax_pr M40 3 18 (some o) (some (g + 14))).bind (fun M42 => (ax_nw M42 (g + 15) (.inr (0, 48)) [(some o)]).bind (fun M43 => (ax_pr M43 3 19 (some o) (some (g + 15))).bind (fun M45 => (ax_nw M45 (g + 16) (.inr (2, 48)) [(some o)]).bind (fun M46 => (ax_pr M46 3 20 (some o) (some (g + 16))).bind (fun M48 => (ax_nw M48 (g + 17) (.inr (0, 48)) [(some o)]).bind (fun M49 => (ax_pr M49 3 21 (some o) (some (g + 17))).bind (fun M51 => (ax_nw M51 (g + 18) (.inr (2, 48)) [(some o)]).bind (fun M52 => (ax_pr M52 3 22 (some o) (some (g + 18))).bind (fun M54 => (ax_nw M54 (g + 19) (.inr (1, 48)) [(some o)]).bind (fun M55 => (ax_pr M55 3 23 (some o) (some (g + 19))).bind (fun M57 => (ax_nw M57 (g + 20) (.inr (0, 48)) [(some o)]).bind (fun M58 => (ax_pr M58 3 24 (some o) (some (g + 20))).bind (fun M60 => (ax_nw M60 (g + 21) (.inr (0, 6)) [(some o)]).bind (fun M61 => (ax_pr M61 3 27 (some o) (some (g + 21))).bind (fun M63 => (ax_nw M63 (g + 22) (.inr (0, 6)) [(some o)]).bind (fun M64 => (ax_pr M64 3 28 (some o) (some (g + 22))).bind (fun M66 => (ax_nw M66 (g + 23) (.inr (0, 6)) [(some o)]).bind (fun M67 => (ax_pr M67 3 29 (some o) (some (g + 23))).bind (fun M69 => (ax_nw M69 (g + 24) (.inr (0, 6)) [(some o)]).bind (fun M70 => (ax_pr M70 3 30 (some o) (some (g + 24))).bind (fun M72 => (ax_nw M72 (g + 25) (.inr (0, 6)) [(some o)]).bind (fun M73 => (ax_pr M73 3 31 (some o) (some (g + 25))).bind (fun M75 => (ax_nw M75 (g + 26) (.inr (0, 6)) [(some o)]).bind (fun M76 => (ax_pr M76 3 32 (some o) (some (g + 26))).bind (fun M78 => (ax_nw M78 (g + 27) (.inr (1, 6)) [(some o)]).bind (fun M79 => (ax_pr M79 3 33 (some o) (some (g + 27))).bind (fun M81 => (ax_nw M81 (g + 28) (.inr (0, 6)) [(some o)]).bind (fun M82 => (ax_pr M82 3 34 (some o) (some (g + 28))).bind (fun M84 => (ax_nw M84 (g + 29) (.inr (2, 48)) [(some o)]).bind (fun M85 => (ax_pr M85 3 35 (some o) (some (g + 29))).bind (fun M87 => (ax_nw M87 (g + 30) (.inr (0, 48)) [(some o)]).bind (fun M88 => (ax_pr M88 3 36 (some o) (some (g + 30))).bind (fun M90 => (ax_nw M90 (g + 31) (.inr (0, 48)) [(some o)]).bind (fun M91 => (ax_pr M91 3 37 (some o) (some (g + 31))).bind (fun M93 => (ax_nw M93 (g + 32) (.inr (0, 48)) [(some o)]).bind (fun M94 => (ax_pr M94 3 38 (some o) (some (g + 32))).bind (fun M96 => (ax_nw M96 (g + 33) (.inr (1, 48)) [(some o)]).bind (fun M97 => (ax_pr M97 3 39 (some o) (some (g + 33))).bind (fun M99 => (ax_nw M99 (g + 34) (.inr (2, 48)) [(some o)]).bind (fun M100 => (ax_pr M100 3 40 (some o) (some (g + 34))).bind (fun M102 => (ax_nw M102 (g + 35) (.inr (0, 48)) [(some o)]).bind (fun M103 => (ax_pr M103 3 41 (some o) (some (g + 35))).bind (fun M105 => (ax_nw M105 (g + 36) (.inr (0, 8)) [(some o)]).bind (fun M106 => (ax_pr M106 3 42 (some o) (some (g + 36))).bind (fun M108 => (ax_nw M108 (g + 37) (.inr (0, 8)) [(some o)]).bind (fun M109 => (ax_pr M109 3 43 (some o) (some (g + 37))).bind (fun M111 => (ax_nw M111 (g + 38) (.inr (0, 4)) [(some o)]).bind (fun M112 => (ax_pr M112 3 44 (some o) (some (g + 38))).bind (fun M114 => (ax_nw M114 (g + 39) (.inr (2, 4)) [(some o)]).bind (fun M115 => (ax_pr M115 3 45 (some o) (some (g + 39))).bind (fun M117 => (ax_nw M117 (g + 40) (.inr (0, 4)) [(some o)]).bind (fun M118 => (ax_pr M118 3 46 (some o) (some (g + 40))).bind (fun M120 => some M120))))))))))))))))))))))))))))))))))))))))))))))))))))))))))))))))))))))))))))))))
set_option maxRecDepth 100000 in
set_option maxHeartbeats 4000000 in
theorem c_M_init (l : Launch) (G : ax_G) (g : Nat) (M : ax_M) (o : Nat) {q : ax_M} (hf : f_M_init g M o = some q) : ax_C l G y_M_init b_M_init 1 none [g + 1, g + 2, g + 3, g + 4, g + 5, g + 6, g + 7, g + 8, g + 9, g + 10, g + 11, g + 12, g + 13, g + 14, g + 15, g + 16, g + 17, g + 18, g + 19, g + 20, g + 21, g + 22, g + 23, g + 24, g + 25, g + 26, g + 27, g + 28, g + 29, g + 30, g + 31, g + 32, g + 33, g + 34, g + 35, g + 36, g + 37, g + 38, g + 39, g + 40] 1 40 792 [ax_O (some o)] M none q := by
  refine ax_ofW (by decide +kernel) (lv0 := [(0, ax_O (some o))]) (Nat.le_of_ble_eq_true rfl) rfl ?_
  intro Z ad B hin _ _ hn hR hE
  have hag : ∀ a, a ∉ ([g + 1, g + 2, g + 3, g + 4, g + 5, g + 6, g + 7, g + 8, g + 9, g + 10, g + 11, g + 12, g + 13, g + 14, g + 15, g + 16, g + 17, g + 18, g + 19, g + 20, g + 21, g + 22, g + 23, g + 24, g + 25, g + 26, g + 27, g + 28, g + 29, g + 30, g + 31, g + 32, g + 33, g + 34, g + 35, g + 36, g + 37, g + 38, g + 39, g + 40] : List Nat) → ad a = ad a := fun _ _ => rfl
  have hin : Z.2.2.2.2.2.2.2.2.1.name = "<init>" := hin
  unfold f_M_init at hf
  refine ax_aload_n B d_M_init_0 rfl (j := 0) rfl ?_
  refine ax_objInit B hR d_M_init_1 l_M_1 (by decide) (Nat.le_of_ble_eq_true rfl) ?_
  refine ax_aload_n B d_M_init_4 rfl (j := 0) rfl ?_
  refine ax_bipush B (v := 8) (by decide) d_M_init_5 ?_
  refine ax_newarray B hR (t := 0) (N := 8) d_M_init_7 rfl (by decide) (by decide) (by decide) (by decide) (ax_cvr (by simp) ax_cv0) (ax_cvr (by simp) ax_cv0) (by decide) (by decide) hf (fun M1 ad2 hag2 hf => ?_)
  replace hag := ax_ag (gs := [g + 1, g + 2, g + 3, g + 4, g + 5, g + 6, g + 7, g + 8, g + 9, g + 10, g + 11, g + 12, g + 13, g + 14, g + 15, g + 16, g + 17, g + 18, g + 19, g + 20, g + 21, g + 22, g + 23, g + 24, g + 25, g + 26, g + 27, g + 28, g + 29, g + 30, g + 31, g + 32, g + 33, g + 34, g + 35, g + 36, g + 37, g + 38, g + 39, g + 40]) hag2 (by simp) hag
  refine ax_putFR B d_M_init_9 kf_M_7 hin rfl hf (fun M3 hf => ?_)
  refine ax_aload_n B d_M_init_12 rfl (j := 0) rfl ?_
  refine ax_bipush B (v := 8) (by decide) d_M_init_13 ?_
  refine ax_newarray B hR (t := 1) (N := 8) d_M_init_15 rfl (by decide) (by decide) (by decide) (by decide) (ax_cvr (by simp) ax_cv0) (ax_cvr (by simp) ax_cv0) (by decide) (by decide) hf (fun M4 ad5 hag2 hf => ?_)
  replace hag := ax_ag (gs := [g + 1, g + 2, g + 3, g + 4, g + 5, g + 6, g + 7, g + 8, g + 9, g + 10, g + 11, g + 12, g + 13, g + 14, g + 15, g + 16, g + 17, g + 18, g + 19, g + 20, g + 21, g + 22, g + 23, g + 24, g + 25, g + 26, g + 27, g + 28, g + 29, g + 30, g + 31, g + 32, g + 33, g + 34, g + 35, g + 36, g + 37, g + 38, g + 39, g + 40]) hag2 (by simp) hag
  refine ax_putFR B d_M_init_17 kf_M_13 hin rfl hf (fun M6 hf => ?_)
  refine ax_aload_n B d_M_init_20 rfl (j := 0) rfl ?_
  refine ax_bipush B (v := 8) (by decide) d_M_init_21 ?_
  refine ax_newarray B hR (t := 1) (N := 8) d_M_init_23 rfl (by decide) (by decide) (by decide) (by decide) (ax_cvr (by simp) ax_cv0) (ax_cvr (by simp) ax_cv0) (by decide) (by decide) hf (fun M7 ad8 hag2 hf => ?_)
  replace hag := ax_ag (gs := [g + 1, g + 2, g + 3, g + 4, g + 5, g + 6, g + 7, g + 8, g + 9, g + 10, g + 11, g + 12, g + 13, g + 14, g + 15, g + 16, g + 17, g + 18, g + 19, g + 20, g + 21, g + 22, g + 23, g + 24, g + 25, g + 26, g + 27, g + 28, g + 29, g + 30, g + 31, g + 32, g + 33, g + 34, g + 35, g + 36, g + 37, g + 38, g + 39, g + 40]) hag2 (by simp) hag
  refine ax_putFR B d_M_init_25 kf_M_17 hin rfl hf (fun M9 hf => ?_)
  refine ax_aload_n B d_M_init_28 rfl (j := 0) rfl ?_
  refine ax_bipush B (v := 8) (by decide) d_M_init_29 ?_
  refine ax_newarray B hR (t := 0) (N := 8) d_M_init_31 rfl (by decide) (by decide) (by decide) (by decide) (ax_cvr (by simp) ax_cv0) (ax_cvr (by simp) ax_cv0) (by decide) (by decide) hf (fun M10 ad11 hag2 hf => ?_)
  replace hag := ax_ag (gs := [g + 1, g + 2, g + 3, g + 4, g + 5, g + 6, g + 7, g + 8, g + 9, g + 10, g + 11, g + 12, g + 13, g + 14, g + 15, g + 16, g + 17, g + 18, g + 19, g + 20, g + 21, g + 22, g + 23, g + 24, g + 25, g + 26, g + 27, g + 28, g + 29, g + 30, g + 31, g + 32, g + 33, g + 34, g + 35, g + 36, g + 37, g + 38, g + 39, g + 40]) hag2 (by simp) hag
  refine ax_putFR B d_M_init_33 kf_M_20 hin rfl hf (fun M12 hf => ?_)
  refine ax_aload_n B d_M_init_36 rfl (j := 0) rfl ?_
  refine ax_bipush B (v := 6) (by decide) d_M_init_37 ?_
  refine ax_newarray B hR (t := 0) (N := 6) d_M_init_39 rfl (by decide) (by decide) (by decide) (by decide) (ax_cvr (by simp) ax_cv0) (ax_cvr (by simp) ax_cv0) (by decide) (by decide) hf (fun M13 ad14 hag2 hf => ?_)
  replace hag := ax_ag (gs := [g + 1, g + 2, g + 3, g + 4, g + 5, g + 6, g + 7, g + 8, g + 9, g + 10, g + 11, g + 12, g + 13, g + 14, g + 15, g + 16, g + 17, g + 18, g + 19, g + 20, g + 21, g + 22, g + 23, g + 24, g + 25, g + 26, g + 27, g + 28, g + 29, g + 30, g + 31, g + 32, g + 33, g + 34, g + 35, g + 36, g + 37, g + 38, g + 39, g + 40]) hag2 (by simp) hag
  refine ax_putFR B d_M_init_41 kf_M_23 hin rfl hf (fun M15 hf => ?_)
  refine ax_aload_n B d_M_init_44 rfl (j := 0) rfl ?_
  refine ax_bipush B (v := 6) (by decide) d_M_init_45 ?_
  refine ax_newarray B hR (t := 0) (N := 6) d_M_init_47 rfl (by decide) (by decide) (by decide) (by decide) (ax_cvr (by simp) ax_cv0) (ax_cvr (by simp) ax_cv0) (by decide) (by decide) hf (fun M16 ad17 hag2 hf => ?_)
  replace hag := ax_ag (gs := [g + 1, g + 2, g + 3, g + 4, g + 5, g + 6, g + 7, g + 8, g + 9, g + 10, g + 11, g + 12, g + 13, g + 14, g + 15, g + 16, g + 17, g + 18, g + 19, g + 20, g + 21, g + 22, g + 23, g + 24, g + 25, g + 26, g + 27, g + 28, g + 29, g + 30, g + 31, g + 32, g + 33, g + 34, g + 35, g + 36, g + 37, g + 38, g + 39, g + 40]) hag2 (by simp) hag
  refine ax_putFR B d_M_init_49 kf_M_26 hin rfl hf (fun M18 hf => ?_)
  refine ax_aload_n B d_M_init_52 rfl (j := 0) rfl ?_
  refine ax_bipush B (v := 6) (by decide) d_M_init_53 ?_
  refine ax_newarray B hR (t := 0) (N := 6) d_M_init_55 rfl (by decide) (by decide) (by decide) (by decide) (ax_cvr (by simp) ax_cv0) (ax_cvr (by simp) ax_cv0) (by decide) (by decide) hf (fun M19 ad20 hag2 hf => ?_)
  replace hag := ax_ag (gs := [g + 1, g + 2, g + 3, g + 4, g + 5, g + 6, g + 7, g + 8, g + 9, g + 10, g + 11, g + 12, g + 13, g + 14, g + 15, g + 16, g + 17, g + 18, g + 19, g + 20, g + 21, g + 22, g + 23, g + 24, g + 25, g + 26, g + 27, g + 28, g + 29, g + 30, g + 31, g + 32, g + 33, g + 34, g + 35, g + 36, g + 37, g + 38, g + 39, g + 40]) hag2 (by simp) hag
  refine ax_putFR B d_M_init_57 kf_M_29 hin rfl hf (fun M21 hf => ?_)
  refine ax_aload_n B d_M_init_60 rfl (j := 0) rfl ?_
  refine ax_bipush B (v := 6) (by decide) d_M_init_61 ?_
  refine ax_newarray B hR (t := 0) (N := 6) d_M_init_63 rfl (by decide) (by decide) (by decide) (by decide) (ax_cvr (by simp) ax_cv0) (ax_cvr (by simp) ax_cv0) (by decide) (by decide) hf (fun M22 ad23 hag2 hf => ?_)
  replace hag := ax_ag (gs := [g + 1, g + 2, g + 3, g + 4, g + 5, g + 6, g + 7, g + 8, g + 9, g + 10, g + 11, g + 12, g + 13, g + 14, g + 15, g + 16, g + 17, g + 18, g + 19, g + 20, g + 21, g + 22, g + 23, g + 24, g + 25, g + 26, g + 27, g + 28, g + 29, g + 30, g + 31, g + 32, g + 33, g + 34, g + 35, g + 36, g + 37, g + 38, g + 39, g + 40]) hag2 (by simp) hag
  refine ax_putFR B d_M_init_65 kf_M_32 hin rfl hf (fun M24 hf => ?_)
  refine ax_aload_n B d_M_init_68 rfl (j := 0) rfl ?_
  refine ax_bipush B (v := 6) (by decide) d_M_init_69 ?_
  refine ax_newarray B hR (t := 0) (N := 6) d_M_init_71 rfl (by decide) (by decide) (by decide) (by decide) (ax_cvr (by simp) ax_cv0) (ax_cvr (by simp) ax_cv0) (by decide) (by decide) hf (fun M25 ad26 hag2 hf => ?_)
  replace hag := ax_ag (gs := [g + 1, g + 2, g + 3, g + 4, g + 5, g + 6, g + 7, g + 8, g + 9, g + 10, g + 11, g + 12, g + 13, g + 14, g + 15, g + 16, g + 17, g + 18, g + 19, g + 20, g + 21, g + 22, g + 23, g + 24, g + 25, g + 26, g + 27, g + 28, g + 29, g + 30, g + 31, g + 32, g + 33, g + 34, g + 35, g + 36, g + 37, g + 38, g + 39, g + 40]) hag2 (by simp) hag
  refine ax_putFR B d_M_init_73 kf_M_35 hin rfl hf (fun M27 hf => ?_)
  refine ax_aload_n B d_M_init_76 rfl (j := 0) rfl ?_
  refine ax_bipush B (v := 6) (by decide) d_M_init_77 ?_
  refine ax_newarray B hR (t := 2) (N := 6) d_M_init_79 rfl (by decide) (by decide) (by decide) (by decide) (ax_cvr (by simp) ax_cv0) (ax_cvr (by simp) ax_cv0) (by decide) (by decide) hf (fun M28 ad29 hag2 hf => ?_)
  replace hag := ax_ag (gs := [g + 1, g + 2, g + 3, g + 4, g + 5, g + 6, g + 7, g + 8, g + 9, g + 10, g + 11, g + 12, g + 13, g + 14, g + 15, g + 16, g + 17, g + 18, g + 19, g + 20, g + 21, g + 22, g + 23, g + 24, g + 25, g + 26, g + 27, g + 28, g + 29, g + 30, g + 31, g + 32, g + 33, g + 34, g + 35, g + 36, g + 37, g + 38, g + 39, g + 40]) hag2 (by simp) hag
  refine ax_putFR B d_M_init_81 kf_M_38 hin rfl hf (fun M30 hf => ?_)
  refine ax_aload_n B d_M_init_84 rfl (j := 0) rfl ?_
  refine ax_bipush B (v := 6) (by decide) d_M_init_85 ?_
  refine ax_newarray B hR (t := 2) (N := 6) d_M_init_87 rfl (by decide) (by decide) (by decide) (by decide) (ax_cvr (by simp) ax_cv0) (ax_cvr (by simp) ax_cv0) (by decide) (by decide) hf (fun M31 ad32 hag2 hf => ?_)
  replace hag := ax_ag (gs := [g + 1, g + 2, g + 3, g + 4, g + 5, g + 6, g + 7, g + 8, g + 9, g + 10, g + 11, g + 12, g + 13, g + 14, g + 15, g + 16, g + 17, g + 18, g + 19, g + 20, g + 21, g + 22, g + 23, g + 24, g + 25, g + 26, g + 27, g + 28, g + 29, g + 30, g + 31, g + 32, g + 33, g + 34, g + 35, g + 36, g + 37, g + 38, g + 39, g + 40]) hag2 (by simp) hag
  refine ax_putFR B d_M_init_89 kf_M_42 hin rfl hf (fun M33 hf => ?_)
  refine ax_aload_n B d_M_init_92 rfl (j := 0) rfl ?_
  refine ax_bipush B (v := 6) (by decide) d_M_init_93 ?_
  refine ax_newarray B hR (t := 0) (N := 6) d_M_init_95 rfl (by decide) (by decide) (by decide) (by decide) (ax_cvr (by simp) ax_cv0) (ax_cvr (by simp) ax_cv0) (by decide) (by decide) hf (fun M34 ad35 hag2 hf => ?_)
  replace hag := ax_ag (gs := [g + 1, g + 2, g + 3, g + 4, g + 5, g + 6, g + 7, g + 8, g + 9, g + 10, g + 11, g + 12, g + 13, g + 14, g + 15, g + 16, g + 17, g + 18, g + 19, g + 20, g + 21, g + 22, g + 23, g + 24, g + 25, g + 26, g + 27, g + 28, g + 29, g + 30, g + 31, g + 32, g + 33, g + 34, g + 35, g + 36, g + 37, g + 38, g + 39, g + 40]) hag2 (by simp) hag
  refine ax_putFR B d_M_init_97 kf_M_45 hin rfl hf (fun M36 hf => ?_)
  refine ax_aload_n B d_M_init_100 rfl (j := 0) rfl ?_
  refine ax_bipush B (v := 6) (by decide) d_M_init_101 ?_
  refine ax_newarray B hR (t := 0) (N := 6) d_M_init_103 rfl (by decide) (by decide) (by decide) (by decide) (ax_cvr (by simp) ax_cv0) (ax_cvr (by simp) ax_cv0) (by decide) (by decide) hf (fun M37 ad38 hag2 hf => ?_)
  replace hag := ax_ag (gs := [g + 1, g + 2, g + 3, g + 4, g + 5, g + 6, g + 7, g + 8, g + 9, g + 10, g + 11, g + 12, g + 13, g + 14, g + 15, g + 16, g + 17, g + 18, g + 19, g + 20, g + 21, g + 22, g + 23, g + 24, g + 25, g + 26, g + 27, g + 28, g + 29, g + 30, g + 31, g + 32, g + 33, g + 34, g + 35, g + 36, g + 37, g + 38, g + 39, g + 40]) hag2 (by simp) hag
  refine ax_putFR B d_M_init_105 kf_M_48 hin rfl hf (fun M39 hf => ?_)
  refine ax_aload_n B d_M_init_108 rfl (j := 0) rfl ?_
  refine ax_bipush B (v := 6) (by decide) d_M_init_109 ?_
  refine ax_newarray B hR (t := 0) (N := 6) d_M_init_111 rfl (by decide) (by decide) (by decide) (by decide) (ax_cvr (by simp) ax_cv0) (ax_cvr (by simp) ax_cv0) (by decide) (by decide) hf (fun M40 ad41 hag2 hf => ?_)
  replace hag := ax_ag (gs := [g + 1, g + 2, g + 3, g + 4, g + 5, g + 6, g + 7, g + 8, g + 9, g + 10, g + 11, g + 12, g + 13, g + 14, g + 15, g + 16, g + 17, g + 18, g + 19, g + 20, g + 21, g + 22, g + 23, g + 24, g + 25, g + 26, g + 27, g + 28, g + 29, g + 30, g + 31, g + 32, g + 33, g + 34, g + 35, g + 36, g + 37, g + 38, g + 39, g + 40]) hag2 (by simp) hag
  refine ax_putFR B d_M_init_113 kf_M_51 hin rfl hf (fun M42 hf => ?_)
  refine ax_aload_n B d_M_init_116 rfl (j := 0) rfl ?_
  refine ax_bipush B (v := 48) (by decide) d_M_init_117 ?_
  refine ax_newarray B hR (t := 0) (N := 48) d_M_init_119 rfl (by decide) (by decide) (by decide) (by decide) (ax_cvr (by simp) ax_cv0) (ax_cvr (by simp) ax_cv0) (by decide) (by decide) hf (fun M43 ad44 hag2 hf => ?_)
  replace hag := ax_ag (gs := [g + 1, g + 2, g + 3, g + 4, g + 5, g + 6, g + 7, g + 8, g + 9, g + 10, g + 11, g + 12, g + 13, g + 14, g + 15, g + 16, g + 17, g + 18, g + 19, g + 20, g + 21, g + 22, g + 23, g + 24, g + 25, g + 26, g + 27, g + 28, g + 29, g + 30, g + 31, g + 32, g + 33, g + 34, g + 35, g + 36, g + 37, g + 38, g + 39, g + 40]) hag2 (by simp) hag
  refine ax_putFR B d_M_init_121 kf_M_54 hin rfl hf (fun M45 hf => ?_)
  refine ax_aload_n B d_M_init_124 rfl (j := 0) rfl ?_
  refine ax_bipush B (v := 48) (by decide) d_M_init_125 ?_
  refine ax_newarray B hR (t := 2) (N := 48) d_M_init_127 rfl (by decide) (by decide) (by decide) (by decide) (ax_cvr (by simp) ax_cv0) (ax_cvr (by simp) ax_cv0) (by decide) (by decide) hf (fun M46 ad47 hag2 hf => ?_)
  replace hag := ax_ag (gs := [g + 1, g + 2, g + 3, g + 4, g + 5, g + 6, g + 7, g + 8, g + 9, g + 10, g + 11, g + 12, g + 13, g + 14, g + 15, g + 16, g + 17, g + 18, g + 19, g + 20, g + 21, g + 22, g + 23, g + 24, g + 25, g + 26, g + 27, g + 28, g + 29, g + 30, g + 31, g + 32, g + 33, g + 34, g + 35, g + 36, g + 37, g + 38, g + 39, g + 40]) hag2 (by simp) hag
  refine ax_putFR B d_M_init_129 kf_M_57 hin rfl hf (fun M48 hf => ?_)
  refine ax_aload_n B d_M_init_132 rfl (j := 0) rfl ?_
  refine ax_bipush B (v := 48) (by decide) d_M_init_133 ?_
  refine ax_newarray B hR (t := 0) (N := 48) d_M_init_135 rfl (by decide) (by decide) (by decide) (by decide) (ax_cvr (by simp) ax_cv0) (ax_cvr (by simp) ax_cv0) (by decide) (by decide) hf (fun M49 ad50 hag2 hf => ?_)
  replace hag := ax_ag (gs := [g + 1, g + 2, g + 3, g + 4, g + 5, g + 6, g + 7, g + 8, g + 9, g + 10, g + 11, g + 12, g + 13, g + 14, g + 15, g + 16, g + 17, g + 18, g + 19, g + 20, g + 21, g + 22, g + 23, g + 24, g + 25, g + 26, g + 27, g + 28, g + 29, g + 30, g + 31, g + 32, g + 33, g + 34, g + 35, g + 36, g + 37, g + 38, g + 39, g + 40]) hag2 (by simp) hag
  refine ax_putFR B d_M_init_137 kf_M_60 hin rfl hf (fun M51 hf => ?_)
  refine ax_aload_n B d_M_init_140 rfl (j := 0) rfl ?_
  refine ax_bipush B (v := 48) (by decide) d_M_init_141 ?_
  refine ax_newarray B hR (t := 2) (N := 48) d_M_init_143 rfl (by decide) (by decide) (by decide) (by decide) (ax_cvr (by simp) ax_cv0) (ax_cvr (by simp) ax_cv0) (by decide) (by decide) hf (fun M52 ad53 hag2 hf => ?_)
  replace hag := ax_ag (gs := [g + 1, g + 2, g + 3, g + 4, g + 5, g + 6, g + 7, g + 8, g + 9, g + 10, g + 11, g + 12, g + 13, g + 14, g + 15, g + 16, g + 17, g + 18, g + 19, g + 20, g + 21, g + 22, g + 23, g + 24, g + 25, g + 26, g + 27, g + 28, g + 29, g + 30, g + 31, g + 32, g + 33, g + 34, g + 35, g + 36, g + 37, g + 38, g + 39, g + 40]) hag2 (by simp) hag
  refine ax_putFR B d_M_init_145 kf_M_63 hin rfl hf (fun M54 hf => ?_)
  refine ax_aload_n B d_M_init_148 rfl (j := 0) rfl ?_
  refine ax_bipush B (v := 48) (by decide) d_M_init_149 ?_
  refine ax_newarray B hR (t := 1) (N := 48) d_M_init_151 rfl (by decide) (by decide) (by decide) (by decide) (ax_cvr (by simp) ax_cv0) (ax_cvr (by simp) ax_cv0) (by decide) (by decide) hf (fun M55 ad56 hag2 hf => ?_)
  replace hag := ax_ag (gs := [g + 1, g + 2, g + 3, g + 4, g + 5, g + 6, g + 7, g + 8, g + 9, g + 10, g + 11, g + 12, g + 13, g + 14, g + 15, g + 16, g + 17, g + 18, g + 19, g + 20, g + 21, g + 22, g + 23, g + 24, g + 25, g + 26, g + 27, g + 28, g + 29, g + 30, g + 31, g + 32, g + 33, g + 34, g + 35, g + 36, g + 37, g + 38, g + 39, g + 40]) hag2 (by simp) hag
  refine ax_putFR B d_M_init_153 kf_M_66 hin rfl hf (fun M57 hf => ?_)
  refine ax_aload_n B d_M_init_156 rfl (j := 0) rfl ?_
  refine ax_bipush B (v := 48) (by decide) d_M_init_157 ?_
  refine ax_newarray B hR (t := 0) (N := 48) d_M_init_159 rfl (by decide) (by decide) (by decide) (by decide) (ax_cvr (by simp) ax_cv0) (ax_cvr (by simp) ax_cv0) (by decide) (by decide) hf (fun M58 ad59 hag2 hf => ?_)
  replace hag := ax_ag (gs := [g + 1, g + 2, g + 3, g + 4, g + 5, g + 6, g + 7, g + 8, g + 9, g + 10, g + 11, g + 12, g + 13, g + 14, g + 15, g + 16, g + 17, g + 18, g + 19, g + 20, g + 21, g + 22, g + 23, g + 24, g + 25, g + 26, g + 27, g + 28, g + 29, g + 30, g + 31, g + 32, g + 33, g + 34, g + 35, g + 36, g + 37, g + 38, g + 39, g + 40]) hag2 (by simp) hag
  refine ax_putFR B d_M_init_161 kf_M_69 hin rfl hf (fun M60 hf => ?_)
  refine ax_aload_n B d_M_init_164 rfl (j := 0) rfl ?_
  refine ax_bipush B (v := 6) (by decide) d_M_init_165 ?_
  refine ax_newarray B hR (t := 0) (N := 6) d_M_init_167 rfl (by decide) (by decide) (by decide) (by decide) (ax_cvr (by simp) ax_cv0) (ax_cvr (by simp) ax_cv0) (by decide) (by decide) hf (fun M61 ad62 hag2 hf => ?_)
  replace hag := ax_ag (gs := [g + 1, g + 2, g + 3, g + 4, g + 5, g + 6, g + 7, g + 8, g + 9, g + 10, g + 11, g + 12, g + 13, g + 14, g + 15, g + 16, g + 17, g + 18, g + 19, g + 20, g + 21, g + 22, g + 23, g + 24, g + 25, g + 26, g + 27, g + 28, g + 29, g + 30, g + 31, g + 32, g + 33, g + 34, g + 35, g + 36, g + 37, g + 38, g + 39, g + 40]) hag2 (by simp) hag
  refine ax_putFR B d_M_init_169 kf_M_72 hin rfl hf (fun M63 hf => ?_)
  refine ax_aload_n B d_M_init_172 rfl (j := 0) rfl ?_
  refine ax_bipush B (v := 6) (by decide) d_M_init_173 ?_
  refine ax_newarray B hR (t := 0) (N := 6) d_M_init_175 rfl (by decide) (by decide) (by decide) (by decide) (ax_cvr (by simp) ax_cv0) (ax_cvr (by simp) ax_cv0) (by decide) (by decide) hf (fun M64 ad65 hag2 hf => ?_)
  replace hag := ax_ag (gs := [g + 1, g + 2, g + 3, g + 4, g + 5, g + 6, g + 7, g + 8, g + 9, g + 10, g + 11, g + 12, g + 13, g + 14, g + 15, g + 16, g + 17, g + 18, g + 19, g + 20, g + 21, g + 22, g + 23, g + 24, g + 25, g + 26, g + 27, g + 28, g + 29, g + 30, g + 31, g + 32, g + 33, g + 34, g + 35, g + 36, g + 37, g + 38, g + 39, g + 40]) hag2 (by simp) hag
  refine ax_putFR B d_M_init_177 kf_M_75 hin rfl hf (fun M66 hf => ?_)
  refine ax_aload_n B d_M_init_180 rfl (j := 0) rfl ?_
  refine ax_bipush B (v := 6) (by decide) d_M_init_181 ?_
  refine ax_newarray B hR (t := 0) (N := 6) d_M_init_183 rfl (by decide) (by decide) (by decide) (by decide) (ax_cvr (by simp) ax_cv0) (ax_cvr (by simp) ax_cv0) (by decide) (by decide) hf (fun M67 ad68 hag2 hf => ?_)
  replace hag := ax_ag (gs := [g + 1, g + 2, g + 3, g + 4, g + 5, g + 6, g + 7, g + 8, g + 9, g + 10, g + 11, g + 12, g + 13, g + 14, g + 15, g + 16, g + 17, g + 18, g + 19, g + 20, g + 21, g + 22, g + 23, g + 24, g + 25, g + 26, g + 27, g + 28, g + 29, g + 30, g + 31, g + 32, g + 33, g + 34, g + 35, g + 36, g + 37, g + 38, g + 39, g + 40]) hag2 (by simp) hag
  refine ax_putFR B d_M_init_185 kf_M_78 hin rfl hf (fun M69 hf => ?_)
  refine ax_aload_n B d_M_init_188 rfl (j := 0) rfl ?_
  refine ax_bipush B (v := 6) (by decide) d_M_init_189 ?_
  refine ax_newarray B hR (t := 0) (N := 6) d_M_init_191 rfl (by decide) (by decide) (by decide) (by decide) (ax_cvr (by simp) ax_cv0) (ax_cvr (by simp) ax_cv0) (by decide) (by decide) hf (fun M70 ad71 hag2 hf => ?_)
  replace hag := ax_ag (gs := [g + 1, g + 2, g + 3, g + 4, g + 5, g + 6, g + 7, g + 8, g + 9, g + 10, g + 11, g + 12, g + 13, g + 14, g + 15, g + 16, g + 17, g + 18, g + 19, g + 20, g + 21, g + 22, g + 23, g + 24, g + 25, g + 26, g + 27, g + 28, g + 29, g + 30, g + 31, g + 32, g + 33, g + 34, g + 35, g + 36, g + 37, g + 38, g + 39, g + 40]) hag2 (by simp) hag
  refine ax_putFR B d_M_init_193 kf_M_81 hin rfl hf (fun M72 hf => ?_)
  refine ax_aload_n B d_M_init_196 rfl (j := 0) rfl ?_
  refine ax_bipush B (v := 6) (by decide) d_M_init_197 ?_
  refine ax_newarray B hR (t := 0) (N := 6) d_M_init_199 rfl (by decide) (by decide) (by decide) (by decide) (ax_cvr (by simp) ax_cv0) (ax_cvr (by simp) ax_cv0) (by decide) (by decide) hf (fun M73 ad74 hag2 hf => ?_)
  replace hag := ax_ag (gs := [g + 1, g + 2, g + 3, g + 4, g + 5, g + 6, g + 7, g + 8, g + 9, g + 10, g + 11, g + 12, g + 13, g + 14, g + 15, g + 16, g + 17, g + 18, g + 19, g + 20, g + 21, g + 22, g + 23, g + 24, g + 25, g + 26, g + 27, g + 28, g + 29, g + 30, g + 31, g + 32, g + 33, g + 34, g + 35, g + 36, g + 37, g + 38, g + 39, g + 40]) hag2 (by simp) hag
  refine ax_putFR B d_M_init_201 kf_M_84 hin rfl hf (fun M75 hf => ?_)
  refine ax_aload_n B d_M_init_204 rfl (j := 0) rfl ?_
  refine ax_bipush B (v := 6) (by decide) d_M_init_205 ?_
  refine ax_newarray B hR (t := 0) (N := 6) d_M_init_207 rfl (by decide) (by decide) (by decide) (by decide) (ax_cvr (by simp) ax_cv0) (ax_cvr (by simp) ax_cv0) (by decide) (by decide) hf (fun M76 ad77 hag2 hf => ?_)
  replace hag := ax_ag (gs := [g + 1, g + 2, g + 3, g + 4, g + 5, g + 6, g + 7, g + 8, g + 9, g + 10, g + 11, g + 12, g + 13, g + 14, g + 15, g + 16, g + 17, g + 18, g + 19, g + 20, g + 21, g + 22, g + 23, g + 24, g + 25, g + 26, g + 27, g + 28, g + 29, g + 30, g + 31, g + 32, g + 33, g + 34, g + 35, g + 36, g + 37, g + 38, g + 39, g + 40]) hag2 (by simp) hag
  refine ax_putFR B d_M_init_209 kf_M_87 hin rfl hf (fun M78 hf => ?_)
  refine ax_aload_n B d_M_init_212 rfl (j := 0) rfl ?_
  refine ax_bipush B (v := 6) (by decide) d_M_init_213 ?_
  refine ax_newarray B hR (t := 1) (N := 6) d_M_init_215 rfl (by decide) (by decide) (by decide) (by decide) (ax_cvr (by simp) ax_cv0) (ax_cvr (by simp) ax_cv0) (by decide) (by decide) hf (fun M79 ad80 hag2 hf => ?_)
  replace hag := ax_ag (gs := [g + 1, g + 2, g + 3, g + 4, g + 5, g + 6, g + 7, g + 8, g + 9, g + 10, g + 11, g + 12, g + 13, g + 14, g + 15, g + 16, g + 17, g + 18, g + 19, g + 20, g + 21, g + 22, g + 23, g + 24, g + 25, g + 26, g + 27, g + 28, g + 29, g + 30, g + 31, g + 32, g + 33, g + 34, g + 35, g + 36, g + 37, g + 38, g + 39, g + 40]) hag2 (by simp) hag
  refine ax_putFR B d_M_init_217 kf_M_90 hin rfl hf (fun M81 hf => ?_)
  refine ax_aload_n B d_M_init_220 rfl (j := 0) rfl ?_
  refine ax_bipush B (v := 6) (by decide) d_M_init_221 ?_
  refine ax_newarray B hR (t := 0) (N := 6) d_M_init_223 rfl (by decide) (by decide) (by decide) (by decide) (ax_cvr (by simp) ax_cv0) (ax_cvr (by simp) ax_cv0) (by decide) (by decide) hf (fun M82 ad83 hag2 hf => ?_)
  replace hag := ax_ag (gs := [g + 1, g + 2, g + 3, g + 4, g + 5, g + 6, g + 7, g + 8, g + 9, g + 10, g + 11, g + 12, g + 13, g + 14, g + 15, g + 16, g + 17, g + 18, g + 19, g + 20, g + 21, g + 22, g + 23, g + 24, g + 25, g + 26, g + 27, g + 28, g + 29, g + 30, g + 31, g + 32, g + 33, g + 34, g + 35, g + 36, g + 37, g + 38, g + 39, g + 40]) hag2 (by simp) hag
  refine ax_putFR B d_M_init_225 kf_M_93 hin rfl hf (fun M84 hf => ?_)
  refine ax_aload_n B d_M_init_228 rfl (j := 0) rfl ?_
  refine ax_bipush B (v := 48) (by decide) d_M_init_229 ?_
  refine ax_newarray B hR (t := 2) (N := 48) d_M_init_231 rfl (by decide) (by decide) (by decide) (by decide) (ax_cvr (by simp) ax_cv0) (ax_cvr (by simp) ax_cv0) (by decide) (by decide) hf (fun M85 ad86 hag2 hf => ?_)
  replace hag := ax_ag (gs := [g + 1, g + 2, g + 3, g + 4, g + 5, g + 6, g + 7, g + 8, g + 9, g + 10, g + 11, g + 12, g + 13, g + 14, g + 15, g + 16, g + 17, g + 18, g + 19, g + 20, g + 21, g + 22, g + 23, g + 24, g + 25, g + 26, g + 27, g + 28, g + 29, g + 30, g + 31, g + 32, g + 33, g + 34, g + 35, g + 36, g + 37, g + 38, g + 39, g + 40]) hag2 (by simp) hag
  refine ax_putFR B d_M_init_233 kf_M_96 hin rfl hf (fun M87 hf => ?_)
  refine ax_aload_n B d_M_init_236 rfl (j := 0) rfl ?_
  refine ax_bipush B (v := 48) (by decide) d_M_init_237 ?_
  refine ax_newarray B hR (t := 0) (N := 48) d_M_init_239 rfl (by decide) (by decide) (by decide) (by decide) (ax_cvr (by simp) ax_cv0) (ax_cvr (by simp) ax_cv0) (by decide) (by decide) hf (fun M88 ad89 hag2 hf => ?_)
  replace hag := ax_ag (gs := [g + 1, g + 2, g + 3, g + 4, g + 5, g + 6, g + 7, g + 8, g + 9, g + 10, g + 11, g + 12, g + 13, g + 14, g + 15, g + 16, g + 17, g + 18, g + 19, g + 20, g + 21, g + 22, g + 23, g + 24, g + 25, g + 26, g + 27, g + 28, g + 29, g + 30, g + 31, g + 32, g + 33, g + 34, g + 35, g + 36, g + 37, g + 38, g + 39, g + 40]) hag2 (by simp) hag
  refine ax_putFR B d_M_init_241 kf_M_99 hin rfl hf (fun M90 hf => ?_)
  refine ax_aload_n B d_M_init_244 rfl (j := 0) rfl ?_
  refine ax_bipush B (v := 48) (by decide) d_M_init_245 ?_
  refine ax_newarray B hR (t := 0) (N := 48) d_M_init_247 rfl (by decide) (by decide) (by decide) (by decide) (ax_cvr (by simp) ax_cv0) (ax_cvr (by simp) ax_cv0) (by decide) (by decide) hf (fun M91 ad92 hag2 hf => ?_)
  replace hag := ax_ag (gs := [g + 1, g + 2, g + 3, g + 4, g + 5, g + 6, g + 7, g + 8, g + 9, g + 10, g + 11, g + 12, g + 13, g + 14, g + 15, g + 16, g + 17, g + 18, g + 19, g + 20, g + 21, g + 22, g + 23, g + 24, g + 25, g + 26, g + 27, g + 28, g + 29, g + 30, g + 31, g + 32, g + 33, g + 34, g + 35, g + 36, g + 37, g + 38, g + 39, g + 40]) hag2 (by simp) hag
  refine ax_putFR B d_M_init_249 kf_M_102 hin rfl hf (fun M93 hf => ?_)
  refine ax_aload_n B d_M_init_252 rfl (j := 0) rfl ?_
  refine ax_bipush B (v := 48) (by decide) d_M_init_253 ?_
  refine ax_newarray B hR (t := 0) (N := 48) d_M_init_255 rfl (by decide) (by decide) (by decide) (by decide) (ax_cvr (by simp) ax_cv0) (ax_cvr (by simp) ax_cv0) (by decide) (by decide) hf (fun M94 ad95 hag2 hf => ?_)
  replace hag := ax_ag (gs := [g + 1, g + 2, g + 3, g + 4, g + 5, g + 6, g + 7, g + 8, g + 9, g + 10, g + 11, g + 12, g + 13, g + 14, g + 15, g + 16, g + 17, g + 18, g + 19, g + 20, g + 21, g + 22, g + 23, g + 24, g + 25, g + 26, g + 27, g + 28, g + 29, g + 30, g + 31, g + 32, g + 33, g + 34, g + 35, g + 36, g + 37, g + 38, g + 39, g + 40]) hag2 (by simp) hag
  refine ax_putFR B d_M_init_257 kf_M_105 hin rfl hf (fun M96 hf => ?_)
  refine ax_aload_n B d_M_init_260 rfl (j := 0) rfl ?_
  refine ax_bipush B (v := 48) (by decide) d_M_init_261 ?_
  refine ax_newarray B hR (t := 1) (N := 48) d_M_init_263 rfl (by decide) (by decide) (by decide) (by decide) (ax_cvr (by simp) ax_cv0) (ax_cvr (by simp) ax_cv0) (by decide) (by decide) hf (fun M97 ad98 hag2 hf => ?_)
  replace hag := ax_ag (gs := [g + 1, g + 2, g + 3, g + 4, g + 5, g + 6, g + 7, g + 8, g + 9, g + 10, g + 11, g + 12, g + 13, g + 14, g + 15, g + 16, g + 17, g + 18, g + 19, g + 20, g + 21, g + 22, g + 23, g + 24, g + 25, g + 26, g + 27, g + 28, g + 29, g + 30, g + 31, g + 32, g + 33, g + 34, g + 35, g + 36, g + 37, g + 38, g + 39, g + 40]) hag2 (by simp) hag
  refine ax_putFR B d_M_init_265 kf_M_108 hin rfl hf (fun M99 hf => ?_)
  refine ax_aload_n B d_M_init_268 rfl (j := 0) rfl ?_
  refine ax_bipush B (v := 48) (by decide) d_M_init_269 ?_
  refine ax_newarray B hR (t := 2) (N := 48) d_M_init_271 rfl (by decide) (by decide) (by decide) (by decide) (ax_cvr (by simp) ax_cv0) (ax_cvr (by simp) ax_cv0) (by decide) (by decide) hf (fun M100 ad101 hag2 hf => ?_)
  replace hag := ax_ag (gs := [g + 1, g + 2, g + 3, g + 4, g + 5, g + 6, g + 7, g + 8, g + 9, g + 10, g + 11, g + 12, g + 13, g + 14, g + 15, g + 16, g + 17, g + 18, g + 19, g + 20, g + 21, g + 22, g + 23, g + 24, g + 25, g + 26, g + 27, g + 28, g + 29, g + 30, g + 31, g + 32, g + 33, g + 34, g + 35, g + 36, g + 37, g + 38, g + 39, g + 40]) hag2 (by simp) hag
  refine ax_putFR B d_M_init_273 kf_M_111 hin rfl hf (fun M102 hf => ?_)
  refine ax_aload_n B d_M_init_276 rfl (j := 0) rfl ?_
  refine ax_bipush B (v := 48) (by decide) d_M_init_277 ?_
  refine ax_newarray B hR (t := 0) (N := 48) d_M_init_279 rfl (by decide) (by decide) (by decide) (by decide) (ax_cvr (by simp) ax_cv0) (ax_cvr (by simp) ax_cv0) (by decide) (by decide) hf (fun M103 ad104 hag2 hf => ?_)
  replace hag := ax_ag (gs := [g + 1, g + 2, g + 3, g + 4, g + 5, g + 6, g + 7, g + 8, g + 9, g + 10, g + 11, g + 12, g + 13, g + 14, g + 15, g + 16, g + 17, g + 18, g + 19, g + 20, g + 21, g + 22, g + 23, g + 24, g + 25, g + 26, g + 27, g + 28, g + 29, g + 30, g + 31, g + 32, g + 33, g + 34, g + 35, g + 36, g + 37, g + 38, g + 39, g + 40]) hag2 (by simp) hag
  refine ax_putFR B d_M_init_281 kf_M_114 hin rfl hf (fun M105 hf => ?_)
  refine ax_aload_n B d_M_init_284 rfl (j := 0) rfl ?_
  refine ax_bipush B (v := 8) (by decide) d_M_init_285 ?_
  refine ax_newarray B hR (t := 0) (N := 8) d_M_init_287 rfl (by decide) (by decide) (by decide) (by decide) (ax_cvr (by simp) ax_cv0) (ax_cvr (by simp) ax_cv0) (by decide) (by decide) hf (fun M106 ad107 hag2 hf => ?_)
  replace hag := ax_ag (gs := [g + 1, g + 2, g + 3, g + 4, g + 5, g + 6, g + 7, g + 8, g + 9, g + 10, g + 11, g + 12, g + 13, g + 14, g + 15, g + 16, g + 17, g + 18, g + 19, g + 20, g + 21, g + 22, g + 23, g + 24, g + 25, g + 26, g + 27, g + 28, g + 29, g + 30, g + 31, g + 32, g + 33, g + 34, g + 35, g + 36, g + 37, g + 38, g + 39, g + 40]) hag2 (by simp) hag
  refine ax_putFR B d_M_init_289 kf_M_117 hin rfl hf (fun M108 hf => ?_)
  refine ax_aload_n B d_M_init_292 rfl (j := 0) rfl ?_
  refine ax_bipush B (v := 8) (by decide) d_M_init_293 ?_
  refine ax_newarray B hR (t := 0) (N := 8) d_M_init_295 rfl (by decide) (by decide) (by decide) (by decide) (ax_cvr (by simp) ax_cv0) (ax_cvr (by simp) ax_cv0) (by decide) (by decide) hf (fun M109 ad110 hag2 hf => ?_)
  replace hag := ax_ag (gs := [g + 1, g + 2, g + 3, g + 4, g + 5, g + 6, g + 7, g + 8, g + 9, g + 10, g + 11, g + 12, g + 13, g + 14, g + 15, g + 16, g + 17, g + 18, g + 19, g + 20, g + 21, g + 22, g + 23, g + 24, g + 25, g + 26, g + 27, g + 28, g + 29, g + 30, g + 31, g + 32, g + 33, g + 34, g + 35, g + 36, g + 37, g + 38, g + 39, g + 40]) hag2 (by simp) hag
  refine ax_putFR B d_M_init_297 kf_M_120 hin rfl hf (fun M111 hf => ?_)
  refine ax_aload_n B d_M_init_300 rfl (j := 0) rfl ?_
  refine ax_iconst B (v := 4) (by decide) d_M_init_301 ?_
  refine ax_newarray B hR (t := 0) (N := 4) d_M_init_302 rfl (by decide) (by decide) (by decide) (by decide) (ax_cvr (by simp) ax_cv0) (ax_cvr (by simp) ax_cv0) (by decide) (by decide) hf (fun M112 ad113 hag2 hf => ?_)
  replace hag := ax_ag (gs := [g + 1, g + 2, g + 3, g + 4, g + 5, g + 6, g + 7, g + 8, g + 9, g + 10, g + 11, g + 12, g + 13, g + 14, g + 15, g + 16, g + 17, g + 18, g + 19, g + 20, g + 21, g + 22, g + 23, g + 24, g + 25, g + 26, g + 27, g + 28, g + 29, g + 30, g + 31, g + 32, g + 33, g + 34, g + 35, g + 36, g + 37, g + 38, g + 39, g + 40]) hag2 (by simp) hag
  refine ax_putFR B d_M_init_304 kf_M_123 hin rfl hf (fun M114 hf => ?_)
  refine ax_aload_n B d_M_init_307 rfl (j := 0) rfl ?_
  refine ax_iconst B (v := 4) (by decide) d_M_init_308 ?_
  refine ax_newarray B hR (t := 2) (N := 4) d_M_init_309 rfl (by decide) (by decide) (by decide) (by decide) (ax_cvr (by simp) ax_cv0) (ax_cvr (by simp) ax_cv0) (by decide) (by decide) hf (fun M115 ad116 hag2 hf => ?_)
  replace hag := ax_ag (gs := [g + 1, g + 2, g + 3, g + 4, g + 5, g + 6, g + 7, g + 8, g + 9, g + 10, g + 11, g + 12, g + 13, g + 14, g + 15, g + 16, g + 17, g + 18, g + 19, g + 20, g + 21, g + 22, g + 23, g + 24, g + 25, g + 26, g + 27, g + 28, g + 29, g + 30, g + 31, g + 32, g + 33, g + 34, g + 35, g + 36, g + 37, g + 38, g + 39, g + 40]) hag2 (by simp) hag
  refine ax_putFR B d_M_init_311 kf_M_126 hin rfl hf (fun M117 hf => ?_)
  refine ax_aload_n B d_M_init_314 rfl (j := 0) rfl ?_
  refine ax_iconst B (v := 4) (by decide) d_M_init_315 ?_
  refine ax_newarray B hR (t := 0) (N := 4) d_M_init_316 rfl (by decide) (by decide) (by decide) (by decide) (ax_cvr (by simp) ax_cv0) (ax_cvr (by simp) ax_cv0) (by decide) (by decide) hf (fun M118 ad119 hag2 hf => ?_)
  replace hag := ax_ag (gs := [g + 1, g + 2, g + 3, g + 4, g + 5, g + 6, g + 7, g + 8, g + 9, g + 10, g + 11, g + 12, g + 13, g + 14, g + 15, g + 16, g + 17, g + 18, g + 19, g + 20, g + 21, g + 22, g + 23, g + 24, g + 25, g + 26, g + 27, g + 28, g + 29, g + 30, g + 31, g + 32, g + 33, g + 34, g + 35, g + 36, g + 37, g + 38, g + 39, g + 40]) hag2 (by simp) hag
  refine ax_putFR B d_M_init_318 kf_M_129 hin rfl hf (fun M120 hf => ?_)
  exact ax_vreturn B hE d_M_init_321 hf hag (by decide) (by decide)
def G_M_isIn_15  (M : ax_M) (s0 : Int32) : Option (Int32 × ax_M) := (ax_bo s0).bind (fun _ => some (s0, M))
set_option maxRecDepth 100000 in
set_option maxHeartbeats 4000000 in
theorem K_M_isIn_15 {Z : ax_Z} {ad0 ad : Nat → Nat} {q : Int32 × ax_M} (B : ax_B Z "VoteAuctionsModel" b_M_isIn (some .boolean)) (hn : Z.2.2.2.2.2.2.2.2.2.2.2.1 = 3) (hR : ax_R Z 0 0 0) (hE : ax_E Z ad0 [] 0 0 (some (ax_I q.1)) q.2) (hag : ∀ a, a ∉ ([] : List Nat) → ad a = ad0 a)   : ∀ (M : ax_M) (s0 : Int32), G_M_isIn_15  M s0 = some q → ax_W Z ad 0 0 15 [] [ax_I s0] M := by
  intro M s0 hf
  unfold G_M_isIn_15 at hf
  obtain ⟨_, hb, hf⟩ := ax_bd hf
  exact ax_ireturn B hE d_M_isIn_15 hf (ax_bo_n hb) hag (by decide) (by decide)
def G_M_isIn_14  (M : ax_M)  : Option (Int32 × ax_M) := G_M_isIn_15 M 0
set_option maxRecDepth 100000 in
set_option maxHeartbeats 4000000 in
theorem K_M_isIn_14 {Z : ax_Z} {ad0 ad : Nat → Nat} {q : Int32 × ax_M} (B : ax_B Z "VoteAuctionsModel" b_M_isIn (some .boolean)) (hn : Z.2.2.2.2.2.2.2.2.2.2.2.1 = 3) (hR : ax_R Z 0 0 0) (hE : ax_E Z ad0 [] 0 0 (some (ax_I q.1)) q.2) (hag : ∀ a, a ∉ ([] : List Nat) → ad a = ad0 a)   : ∀ (M : ax_M) , G_M_isIn_14  M  = some q → ax_W Z ad 0 0 14 [] [] M := by
  intro M  hf
  unfold G_M_isIn_14 at hf
  refine ax_iconst B (v := 0) (by decide) d_M_isIn_14 ?_
  exact K_M_isIn_15 B hn hR hE hag M 0 hf
def f_M_isIn (M : ax_M) (p0 : Int32) (p1 : Int32) (p2 : Int32) : Option (Int32 × ax_M) := if p0 < p1 then G_M_isIn_14 M else if p2 < p0 then G_M_isIn_14 M else G_M_isIn_15 M 1
set_option maxRecDepth 100000 in
set_option maxHeartbeats 4000000 in
theorem c_M_isIn (l : Launch) (G : ax_G) (M : ax_M) (p0 : Int32) (p1 : Int32) (p2 : Int32) {q : Int32 × ax_M} (hf : f_M_isIn M p0 p1 p2 = some q) : ax_C l G y_M_isIn b_M_isIn 3 (some .boolean) [] 0 0 0 [ax_I p0, ax_I p1, ax_I p2] M (some (ax_I q.1)) q.2 := by
  refine ax_ofW (by decide +kernel) (lv0 := [(0, ax_I p0), (1, ax_I p1), (2, ax_I p2)]) (Nat.le_of_ble_eq_true rfl) rfl ?_
  intro Z ad B hin _ _ hn hR hE
  have hag : ∀ a, a ∉ ([] : List Nat) → ad a = ad a := fun _ _ => rfl
  unfold f_M_isIn at hf
  refine ax_iload_n B d_M_isIn_0 rfl (j := 0) rfl ?_
  refine ax_iload_n B d_M_isIn_1 rfl (j := 1) rfl ?_
  refine ax_icmp_lt B (tgt := 14) d_M_isIn_2 (by decide) hf (fun hf => ?_) (fun hf => ?_)
  · refine ax_sub [] rfl ?_
    exact K_M_isIn_14 B hn hR hE hag M hf
  · refine ax_iload_n B d_M_isIn_5 rfl (j := 0) rfl ?_
    refine ax_iload_n B d_M_isIn_6 rfl (j := 2) rfl ?_
    refine ax_icmp_gt B (tgt := 14) d_M_isIn_7 (by decide) hf (fun hf => ?_) (fun hf => ?_)
    · refine ax_sub [] rfl ?_
      exact K_M_isIn_14 B hn hR hE hag M hf
    · refine ax_iconst B (v := 1) (by decide) d_M_isIn_10 ?_
      refine ax_goto B (tgt := 15) d_M_isIn_11 (by decide) ?_
      refine ax_sub [] rfl ?_
      exact K_M_isIn_15 B hn hR hE hag M 1 hf
def G_M_isAccount_17  (M : ax_M) (s0 : Int32) : Option (Int32 × ax_M) := (ax_bo s0).bind (fun _ => some (s0, M))
set_option maxRecDepth 100000 in
set_option maxHeartbeats 4000000 in
theorem K_M_isAccount_17 {Z : ax_Z} {ad0 ad : Nat → Nat} {q : Int32 × ax_M} (B : ax_B Z "VoteAuctionsModel" b_M_isAccount (some .boolean)) (hn : Z.2.2.2.2.2.2.2.2.2.2.2.1 = 2) (hR : ax_R Z 0 0 0) (hE : ax_E Z ad0 [] 0 0 (some (ax_I q.1)) q.2) (hag : ∀ a, a ∉ ([] : List Nat) → ad a = ad0 a)   : ∀ (M : ax_M) (s0 : Int32), G_M_isAccount_17  M s0 = some q → ax_W Z ad 0 0 17 [] [ax_I s0] M := by
  intro M s0 hf
  unfold G_M_isAccount_17 at hf
  obtain ⟨_, hb, hf⟩ := ax_bd hf
  exact ax_ireturn B hE d_M_isAccount_17 hf (ax_bo_n hb) hag (by decide) (by decide)
def G_M_isAccount_16  (M : ax_M)  : Option (Int32 × ax_M) := G_M_isAccount_17 M 0
set_option maxRecDepth 100000 in
set_option maxHeartbeats 4000000 in
theorem K_M_isAccount_16 {Z : ax_Z} {ad0 ad : Nat → Nat} {q : Int32 × ax_M} (B : ax_B Z "VoteAuctionsModel" b_M_isAccount (some .boolean)) (hn : Z.2.2.2.2.2.2.2.2.2.2.2.1 = 2) (hR : ax_R Z 0 0 0) (hE : ax_E Z ad0 [] 0 0 (some (ax_I q.1)) q.2) (hag : ∀ a, a ∉ ([] : List Nat) → ad a = ad0 a)   : ∀ (M : ax_M) , G_M_isAccount_16  M  = some q → ax_W Z ad 0 0 16 [] [] M := by
  intro M  hf
  unfold G_M_isAccount_16 at hf
  refine ax_iconst B (v := 0) (by decide) d_M_isAccount_16 ?_
  exact K_M_isAccount_17 B hn hR hE hag M 0 hf
def f_M_isAccount (M : ax_M) (x0 : Option Nat) (p0 : Int32) : Option (Int32 × ax_M) := if p0 < 0 then G_M_isAccount_16 M else (ax_gi M 3 3 x0).bind (fun x1 => if x1 ≤ p0 then G_M_isAccount_16 M else G_M_isAccount_17 M 1)
set_option maxRecDepth 100000 in
set_option maxHeartbeats 4000000 in
theorem c_M_isAccount (l : Launch) (G : ax_G) (M : ax_M) (x0 : Option Nat) (p0 : Int32) {q : Int32 × ax_M} (hf : f_M_isAccount M x0 p0 = some q) : ax_C l G y_M_isAccount b_M_isAccount 2 (some .boolean) [] 0 0 0 [ax_O x0, ax_I p0] M (some (ax_I q.1)) q.2 := by
  refine ax_ofW (by decide +kernel) (lv0 := [(0, ax_O x0), (1, ax_I p0)]) (Nat.le_of_ble_eq_true rfl) rfl ?_
  intro Z ad B hin _ _ hn hR hE
  have hag : ∀ a, a ∉ ([] : List Nat) → ad a = ad a := fun _ _ => rfl
  unfold f_M_isAccount at hf
  refine ax_iload_n B d_M_isAccount_0 rfl (j := 1) rfl ?_
  refine ax_if_lt B (tgt := 16) d_M_isAccount_1 (by decide) hf (fun hf => ?_) (fun hf => ?_)
  · refine ax_sub [] rfl ?_
    exact K_M_isAccount_16 B hn hR hE hag M hf
  · refine ax_iload_n B d_M_isAccount_4 rfl (j := 1) rfl ?_
    refine ax_aload_n B d_M_isAccount_5 rfl (j := 0) rfl ?_
    refine ax_getI B d_M_isAccount_6 k_M_136 rfl hf (fun x1 hf => ?_)
    refine ax_icmp_ge B (tgt := 16) d_M_isAccount_9 (by decide) hf (fun hf => ?_) (fun hf => ?_)
    · refine ax_sub [] rfl ?_
      exact K_M_isAccount_16 B hn hR hE hag M hf
    · refine ax_iconst B (v := 1) (by decide) d_M_isAccount_12 ?_
      refine ax_goto B (tgt := 17) d_M_isAccount_13 (by decide) ?_
      refine ax_sub [] rfl ?_
      exact K_M_isAccount_17 B hn hR hE hag M 1 hf
def G_M_account_21  (M : ax_M)  : Option (Int32 × ax_M) := some ((-2), M)
set_option maxRecDepth 100000 in
set_option maxHeartbeats 4000000 in
theorem K_M_account_21 {Z : ax_Z} {ad0 ad : Nat → Nat} {q : Int32 × ax_M} (B : ax_B Z "VoteAuctionsModel" b_M_account (some .int)) (hn : Z.2.2.2.2.2.2.2.2.2.2.2.1 = 3) (hR : ax_R Z 1 0 0) (hE : ax_E Z ad0 [] 0 0 (some (ax_I q.1)) q.2) (hag : ∀ a, a ∉ ([] : List Nat) → ad a = ad0 a)   : ∀ (M : ax_M) , G_M_account_21  M  = some q → ax_W Z ad 0 0 21 [] [] M := by
  intro M  hf
  unfold G_M_account_21 at hf
  refine ax_bipush B (v := (-2)) (by decide) d_M_account_21 ?_
  exact ax_ireturn B hE d_M_account_23 hf rfl hag (by decide) (by decide)
def f_M_account (M : ax_M) (x0 : Option Nat) (p0 : Int32) (p1 : Int32) : Option (Int32 × ax_M) := (f_M_isIn M p0 0 1000).bind (fun q1 => if q1.1 = 0 then G_M_account_21 q1.2 else (f_M_isIn q1.2 p1 0 1000000).bind (fun q2 => if q2.1 = 0 then G_M_account_21 q2.2 else (ax_gi q2.2 3 3 x0).bind (fun x3 => if x3 = 8 then some ((-4), q2.2) else (ax_gr q2.2 3 4 x0).bind (fun x4 => (ax_gi q2.2 3 3 x0).bind (fun x5 => (ax_ti q2.2 0 x4 x5 p0).bind (fun M6 => (ax_gr M6 3 5 x0).bind (fun x7 => (ax_gi M6 3 3 x0).bind (fun x8 => (ax_tl M6 1 x7 x8 (p1.toInt64)).bind (fun M9 => (ax_gr M9 3 6 x0).bind (fun x10 => (ax_gi M9 3 3 x0).bind (fun x11 => (ax_tl M9 1 x10 x11 0).bind (fun M12 => (ax_gr M12 3 7 x0).bind (fun x13 => (ax_gi M12 3 3 x0).bind (fun x14 => (ax_gi M12 3 3 x0).bind (fun x15 => (ax_ti M12 0 x13 x14 x15).bind (fun M16 => (ax_gi M16 3 3 x0).bind (fun x17 => (ax_pi M16 3 3 x0 (x17 + 1)).bind (fun M18 => (ax_gi M18 3 3 x0).bind (fun x19 => some ((x19 - 1), M18))))))))))))))))))))
set_option maxRecDepth 100000 in
set_option maxHeartbeats 4000000 in
theorem c_M_account (l : Launch) (G : ax_G) (M : ax_M) (x0 : Option Nat) (p0 : Int32) (p1 : Int32) {q : Int32 × ax_M} (hf : f_M_account M x0 p0 p1 = some q) : ax_C l G y_M_account b_M_account 3 (some .int) [] 1 0 0 [ax_O x0, ax_I p0, ax_I p1] M (some (ax_I q.1)) q.2 := by
  refine ax_ofW (by decide +kernel) (lv0 := [(0, ax_O x0), (1, ax_I p0), (2, ax_I p1)]) (Nat.le_of_ble_eq_true rfl) rfl ?_
  intro Z ad B hin _ _ hn hR hE
  have hag : ∀ a, a ∉ ([] : List Nat) → ad a = ad a := fun _ _ => rfl
  unfold f_M_account at hf
  refine ax_iload_n B d_M_account_0 rfl (j := 1) rfl ?_
  refine ax_iconst B (v := 0) (by decide) d_M_account_1 ?_
  refine ax_sipush B (v := 1000) (by decide) d_M_account_2 ?_
  refine ax_cSV B hR (as := [ax_I p0, ax_I 0, ax_I 1000]) (V := fun q => ax_I q.1) (N := fun q => q.2) d_M_account_5 l_M_139 m_M_isIn hf (fun q h => c_M_isIn _ _ _ _ _ _ h) rfl rfl (by decide) (by decide) (by decide) (by decide) (Nat.le_of_ble_eq_true rfl) (fun q1 hf => ?_)
  refine ax_if_eq B (tgt := 21) d_M_account_8 (by decide) hf (fun hf => ?_) (fun hf => ?_)
  · refine ax_sub [] rfl ?_
    exact K_M_account_21 B hn hR hE hag q1.2 hf
  · refine ax_iload_n B d_M_account_11 rfl (j := 2) rfl ?_
    refine ax_iconst B (v := 0) (by decide) d_M_account_12 ?_
    refine ax_ldc B (v := 1000000) n_M_142 d_M_account_13 ?_
    refine ax_cSV B hR (as := [ax_I p1, ax_I 0, ax_I 1000000]) (V := fun q => ax_I q.1) (N := fun q => q.2) d_M_account_15 l_M_139 m_M_isIn hf (fun q h => c_M_isIn _ _ _ _ _ _ h) rfl rfl (by decide) (by decide) (by decide) (by decide) (Nat.le_of_ble_eq_true rfl) (fun q2 hf => ?_)
    refine ax_if_ne B (tgt := 24) d_M_account_18 (by decide) hf (fun hf => ?_) (fun hf => ?_)
    · refine ax_sub [] rfl ?_
      exact K_M_account_21 B hn hR hE hag q2.2 hf
    · refine ax_aload_n B d_M_account_24 rfl (j := 0) rfl ?_
      refine ax_getI B d_M_account_25 k_M_136 rfl hf (fun x3 hf => ?_)
      refine ax_bipush B (v := 8) (by decide) d_M_account_28 ?_
      refine ax_icmp_ne B (tgt := 36) d_M_account_30 (by decide) hf (fun hf => ?_) (fun hf => ?_)
      · refine ax_bipush B (v := (-4)) (by decide) d_M_account_33 ?_
        exact ax_ireturn B hE d_M_account_35 hf rfl hag (by decide) (by decide)
      · refine ax_aload_n B d_M_account_36 rfl (j := 0) rfl ?_
        refine ax_getR B d_M_account_37 k_M_7 rfl hf (fun x4 hf => ?_)
        refine ax_aload_n B d_M_account_40 rfl (j := 0) rfl ?_
        refine ax_getI B d_M_account_41 k_M_136 rfl hf (fun x5 hf => ?_)
        refine ax_iload_n B d_M_account_44 rfl (j := 1) rfl ?_
        refine ax_iast B d_M_account_45 (t := 0) (by decide) rfl hf (fun M6 hf => ?_)
        refine ax_aload_n B d_M_account_46 rfl (j := 0) rfl ?_
        refine ax_getR B d_M_account_47 k_M_13 rfl hf (fun x7 hf => ?_)
        refine ax_aload_n B d_M_account_50 rfl (j := 0) rfl ?_
        refine ax_getI B d_M_account_51 k_M_136 rfl hf (fun x8 hf => ?_)
        refine ax_iload_n B d_M_account_54 rfl (j := 2) rfl ?_
        refine ax_i2l B d_M_account_55 ?_
        refine ax_last B d_M_account_56 (t := 1) (by decide) rfl hf (fun M9 hf => ?_)
        refine ax_aload_n B d_M_account_57 rfl (j := 0) rfl ?_
        refine ax_getR B d_M_account_58 k_M_17 rfl hf (fun x10 hf => ?_)
        refine ax_aload_n B d_M_account_61 rfl (j := 0) rfl ?_
        refine ax_getI B d_M_account_62 k_M_136 rfl hf (fun x11 hf => ?_)
        refine ax_lconst B (v := 0) (by decide) d_M_account_65 ?_
        refine ax_last B d_M_account_66 (t := 1) (by decide) rfl hf (fun M12 hf => ?_)
        refine ax_aload_n B d_M_account_67 rfl (j := 0) rfl ?_
        refine ax_getR B d_M_account_68 k_M_20 rfl hf (fun x13 hf => ?_)
        refine ax_aload_n B d_M_account_71 rfl (j := 0) rfl ?_
        refine ax_getI B d_M_account_72 k_M_136 rfl hf (fun x14 hf => ?_)
        refine ax_aload_n B d_M_account_75 rfl (j := 0) rfl ?_
        refine ax_getI B d_M_account_76 k_M_136 rfl hf (fun x15 hf => ?_)
        refine ax_iast B d_M_account_79 (t := 0) (by decide) rfl hf (fun M16 hf => ?_)
        refine ax_aload_n B d_M_account_80 rfl (j := 0) rfl ?_
        refine ax_dup B rfl d_M_account_81 ?_
        refine ax_getI B d_M_account_82 k_M_136 rfl hf (fun x17 hf => ?_)
        refine ax_iconst B (v := 1) (by decide) d_M_account_85 ?_
        refine ax_iadd B d_M_account_86 ?_
        refine ax_putI B d_M_account_87 k_M_136 rfl rfl rfl rfl hf (fun M18 hf => ?_)
        refine ax_aload_n B d_M_account_90 rfl (j := 0) rfl ?_
        refine ax_getI B d_M_account_91 k_M_136 rfl hf (fun x19 hf => ?_)
        refine ax_iconst B (v := 1) (by decide) d_M_account_94 ?_
        refine ax_isub B d_M_account_95 ?_
        exact ax_ireturn B hE d_M_account_96 hf rfl hag (by decide) (by decide)
def f_M_weigh (M : ax_M) (x0 : Option Nat) (p0 : Int32) (p1 : Int32) : Option (Int32 × ax_M) := (ax_ob M 3 x0).bind (fun _ => (f_M_isAccount M x0 p0).bind (fun q1 => if q1.1 = 0 then some ((-1), q1.2) else (f_M_isIn q1.2 p1 0 1000).bind (fun q2 => if q2.1 = 0 then some ((-2), q2.2) else (ax_gr q2.2 3 4 x0).bind (fun x3 => (ax_ri q2.2 0 x3 p0).bind (fun x4 => (ax_gr q2.2 3 4 x0).bind (fun x5 => (ax_ti q2.2 0 x5 p0 p1).bind (fun M6 => some (x4, M6))))))))
set_option maxRecDepth 100000 in
set_option maxHeartbeats 4000000 in
theorem c_M_weigh (l : Launch) (G : ax_G) (M : ax_M) (x0 : Option Nat) (p0 : Int32) (p1 : Int32) {q : Int32 × ax_M} (hf : f_M_weigh M x0 p0 p1 = some q) : ax_C l G y_M_weigh b_M_weigh 4 (some .int) [] 1 0 0 [ax_O x0, ax_I p0, ax_I p1] M (some (ax_I q.1)) q.2 := by
  refine ax_ofW (by decide +kernel) (lv0 := [(0, ax_O x0), (1, ax_I p0), (2, ax_I p1)]) (Nat.le_of_ble_eq_true rfl) rfl ?_
  intro Z ad B hin _ _ hn hR hE
  have hag : ∀ a, a ∉ ([] : List Nat) → ad a = ad a := fun _ _ => rfl
  unfold f_M_weigh at hf
  refine ax_aload_n B d_M_weigh_0 rfl (j := 0) rfl ?_
  refine ax_iload_n B d_M_weigh_1 rfl (j := 1) rfl ?_
  refine ax_cVV B hR (as := [ax_I p0]) (V := fun q => ax_I q.1) (N := fun q => q.2) d_M_weigh_2 l_M_143 m_M_isAccount hf (fun q h => c_M_isAccount _ _ _ _ _ h) rfl rfl (by decide) (by decide) (by decide) (by decide) (Nat.le_of_ble_eq_true rfl) (fun q1 hf => ?_)
  refine ax_if_ne B (tgt := 10) d_M_weigh_5 (by decide) hf (fun hf => ?_) (fun hf => ?_)
  · refine ax_iconst B (v := (-1)) (by decide) d_M_weigh_8 ?_
    exact ax_ireturn B hE d_M_weigh_9 hf rfl hag (by decide) (by decide)
  · refine ax_iload_n B d_M_weigh_10 rfl (j := 2) rfl ?_
    refine ax_iconst B (v := 0) (by decide) d_M_weigh_11 ?_
    refine ax_sipush B (v := 1000) (by decide) d_M_weigh_12 ?_
    refine ax_cSV B hR (as := [ax_I p1, ax_I 0, ax_I 1000]) (V := fun q => ax_I q.1) (N := fun q => q.2) d_M_weigh_15 l_M_139 m_M_isIn hf (fun q h => c_M_isIn _ _ _ _ _ _ h) rfl rfl (by decide) (by decide) (by decide) (by decide) (Nat.le_of_ble_eq_true rfl) (fun q2 hf => ?_)
    refine ax_if_ne B (tgt := 24) d_M_weigh_18 (by decide) hf (fun hf => ?_) (fun hf => ?_)
    · refine ax_bipush B (v := (-2)) (by decide) d_M_weigh_21 ?_
      exact ax_ireturn B hE d_M_weigh_23 hf rfl hag (by decide) (by decide)
    · refine ax_aload_n B d_M_weigh_24 rfl (j := 0) rfl ?_
      refine ax_getR B d_M_weigh_25 k_M_7 rfl hf (fun x3 hf => ?_)
      refine ax_iload_n B d_M_weigh_28 rfl (j := 1) rfl ?_
      refine ax_iald B d_M_weigh_29 (t := 0) (by decide) rfl hf (fun x4 hf => ?_)
      refine ax_istore_n B (lv' := [(3, ax_I x4), (0, ax_O x0), (1, ax_I p0), (2, ax_I p1)]) d_M_weigh_30 rfl (by rw [hn]; decide) rfl ?_
      refine ax_aload_n B d_M_weigh_31 rfl (j := 1) rfl ?_
      refine ax_getR B d_M_weigh_32 k_M_7 rfl hf (fun x5 hf => ?_)
      refine ax_iload_n B d_M_weigh_35 rfl (j := 2) rfl ?_
      refine ax_iload_n B d_M_weigh_36 rfl (j := 3) rfl ?_
      refine ax_iast B d_M_weigh_37 (t := 0) (by decide) rfl hf (fun M6 hf => ?_)
      refine ax_iload_n B d_M_weigh_38 rfl (j := 0) rfl ?_
      exact ax_ireturn B hE d_M_weigh_39 hf rfl hag (by decide) (by decide)
def f_M_fund (M : ax_M) (x0 : Option Nat) (p0 : Int32) (p1 : Int32) : Option (Int32 × ax_M) := (ax_ob M 3 x0).bind (fun _ => (f_M_isAccount M x0 p0).bind (fun q1 => if q1.1 = 0 then some ((-1), q1.2) else (f_M_isIn q1.2 p1 0 100000).bind (fun q2 => if q2.1 = 0 then some ((-2), q2.2) else (ax_gr q2.2 3 5 x0).bind (fun x3 => (ax_rl q2.2 1 x3 p0).bind (fun x4 => (ax_tl q2.2 1 x3 p0 (x4 + (p1.toInt64))).bind (fun M5 => some (1, M5)))))))
set_option maxRecDepth 100000 in
set_option maxHeartbeats 4000000 in
theorem c_M_fund (l : Launch) (G : ax_G) (M : ax_M) (x0 : Option Nat) (p0 : Int32) (p1 : Int32) {q : Int32 × ax_M} (hf : f_M_fund M x0 p0 p1 = some q) : ax_C l G y_M_fund b_M_fund 3 (some .int) [] 1 0 0 [ax_O x0, ax_I p0, ax_I p1] M (some (ax_I q.1)) q.2 := by
  refine ax_ofW (by decide +kernel) (lv0 := [(0, ax_O x0), (1, ax_I p0), (2, ax_I p1)]) (Nat.le_of_ble_eq_true rfl) rfl ?_
  intro Z ad B hin _ _ hn hR hE
  have hag : ∀ a, a ∉ ([] : List Nat) → ad a = ad a := fun _ _ => rfl
  unfold f_M_fund at hf
  refine ax_aload_n B d_M_fund_0 rfl (j := 0) rfl ?_
  refine ax_iload_n B d_M_fund_1 rfl (j := 1) rfl ?_
  refine ax_cVV B hR (as := [ax_I p0]) (V := fun q => ax_I q.1) (N := fun q => q.2) d_M_fund_2 l_M_143 m_M_isAccount hf (fun q h => c_M_isAccount _ _ _ _ _ h) rfl rfl (by decide) (by decide) (by decide) (by decide) (Nat.le_of_ble_eq_true rfl) (fun q1 hf => ?_)
  refine ax_if_ne B (tgt := 10) d_M_fund_5 (by decide) hf (fun hf => ?_) (fun hf => ?_)
  · refine ax_iconst B (v := (-1)) (by decide) d_M_fund_8 ?_
    exact ax_ireturn B hE d_M_fund_9 hf rfl hag (by decide) (by decide)
  · refine ax_iload_n B d_M_fund_10 rfl (j := 2) rfl ?_
    refine ax_iconst B (v := 0) (by decide) d_M_fund_11 ?_
    refine ax_ldc B (v := 100000) n_M_147 d_M_fund_12 ?_
    refine ax_cSV B hR (as := [ax_I p1, ax_I 0, ax_I 100000]) (V := fun q => ax_I q.1) (N := fun q => q.2) d_M_fund_14 l_M_139 m_M_isIn hf (fun q h => c_M_isIn _ _ _ _ _ _ h) rfl rfl (by decide) (by decide) (by decide) (by decide) (Nat.le_of_ble_eq_true rfl) (fun q2 hf => ?_)
    refine ax_if_ne B (tgt := 23) d_M_fund_17 (by decide) hf (fun hf => ?_) (fun hf => ?_)
    · refine ax_bipush B (v := (-2)) (by decide) d_M_fund_20 ?_
      exact ax_ireturn B hE d_M_fund_22 hf rfl hag (by decide) (by decide)
    · refine ax_aload_n B d_M_fund_23 rfl (j := 0) rfl ?_
      refine ax_getR B d_M_fund_24 k_M_13 rfl hf (fun x3 hf => ?_)
      refine ax_iload_n B d_M_fund_27 rfl (j := 1) rfl ?_
      refine ax_dup2_11 B rfl rfl d_M_fund_28 ?_
      refine ax_lald B d_M_fund_29 (t := 1) (by decide) rfl hf (fun x4 hf => ?_)
      refine ax_iload_n B d_M_fund_30 rfl (j := 2) rfl ?_
      refine ax_i2l B d_M_fund_31 ?_
      refine ax_ladd B d_M_fund_32 ?_
      refine ax_last B d_M_fund_33 (t := 1) (by decide) rfl hf (fun M5 hf => ?_)
      refine ax_iconst B (v := 1) (by decide) d_M_fund_34 ?_
      exact ax_ireturn B hE d_M_fund_35 hf rfl hag (by decide) (by decide)
def G_M_speak_16  (M : ax_M)  : Option (Int32 × ax_M) := some ((-1), M)
set_option maxRecDepth 100000 in
set_option maxHeartbeats 4000000 in
theorem K_M_speak_16 {Z : ax_Z} {ad0 ad : Nat → Nat} {q : Int32 × ax_M} (B : ax_B Z "VoteAuctionsModel" b_M_speak (some .int)) (hn : Z.2.2.2.2.2.2.2.2.2.2.2.1 = 4) (hR : ax_R Z 1 0 0) (hE : ax_E Z ad0 [] 0 0 (some (ax_I q.1)) q.2) (hag : ∀ a, a ∉ ([] : List Nat) → ad a = ad0 a)   : ∀ (M : ax_M) , G_M_speak_16  M  = some q → ax_W Z ad 0 0 16 [] [] M := by
  intro M  hf
  unfold G_M_speak_16 at hf
  refine ax_iconst B (v := (-1)) (by decide) d_M_speak_16 ?_
  exact ax_ireturn B hE d_M_speak_17 hf rfl hag (by decide) (by decide)
def f_M_speak (M : ax_M) (x0 : Option Nat) (p0 : Int32) (p1 : Int32) : Option (Int32 × ax_M) := (ax_ob M 3 x0).bind (fun _ => (f_M_isAccount M x0 p0).bind (fun q1 => if q1.1 = 0 then G_M_speak_16 q1.2 else (ax_ob q1.2 3 x0).bind (fun _ => (f_M_isAccount q1.2 x0 p1).bind (fun q2 => if q2.1 = 0 then G_M_speak_16 q2.2 else (ax_gr q2.2 3 7 x0).bind (fun x3 => (ax_ri q2.2 0 x3 p0).bind (fun x4 => (ax_gr q2.2 3 7 x0).bind (fun x5 => (ax_ti q2.2 0 x5 p0 p1).bind (fun M6 => some (x4, M6)))))))))
set_option maxRecDepth 100000 in
set_option maxHeartbeats 4000000 in
theorem c_M_speak (l : Launch) (G : ax_G) (M : ax_M) (x0 : Option Nat) (p0 : Int32) (p1 : Int32) {q : Int32 × ax_M} (hf : f_M_speak M x0 p0 p1 = some q) : ax_C l G y_M_speak b_M_speak 4 (some .int) [] 1 0 0 [ax_O x0, ax_I p0, ax_I p1] M (some (ax_I q.1)) q.2 := by
  refine ax_ofW (by decide +kernel) (lv0 := [(0, ax_O x0), (1, ax_I p0), (2, ax_I p1)]) (Nat.le_of_ble_eq_true rfl) rfl ?_
  intro Z ad B hin _ _ hn hR hE
  have hag : ∀ a, a ∉ ([] : List Nat) → ad a = ad a := fun _ _ => rfl
  unfold f_M_speak at hf
  refine ax_aload_n B d_M_speak_0 rfl (j := 0) rfl ?_
  refine ax_iload_n B d_M_speak_1 rfl (j := 1) rfl ?_
  refine ax_cVV B hR (as := [ax_I p0]) (V := fun q => ax_I q.1) (N := fun q => q.2) d_M_speak_2 l_M_143 m_M_isAccount hf (fun q h => c_M_isAccount _ _ _ _ _ h) rfl rfl (by decide) (by decide) (by decide) (by decide) (Nat.le_of_ble_eq_true rfl) (fun q1 hf => ?_)
  refine ax_if_eq B (tgt := 16) d_M_speak_5 (by decide) hf (fun hf => ?_) (fun hf => ?_)
  · refine ax_sub [] rfl ?_
    exact K_M_speak_16 B hn hR hE hag q1.2 hf
  · refine ax_aload_n B d_M_speak_8 rfl (j := 0) rfl ?_
    refine ax_iload_n B d_M_speak_9 rfl (j := 2) rfl ?_
    refine ax_cVV B hR (as := [ax_I p1]) (V := fun q => ax_I q.1) (N := fun q => q.2) d_M_speak_10 l_M_143 m_M_isAccount hf (fun q h => c_M_isAccount _ _ _ _ _ h) rfl rfl (by decide) (by decide) (by decide) (by decide) (Nat.le_of_ble_eq_true rfl) (fun q2 hf => ?_)
    refine ax_if_ne B (tgt := 18) d_M_speak_13 (by decide) hf (fun hf => ?_) (fun hf => ?_)
    · refine ax_sub [] rfl ?_
      exact K_M_speak_16 B hn hR hE hag q2.2 hf
    · refine ax_aload_n B d_M_speak_18 rfl (j := 0) rfl ?_
      refine ax_getR B d_M_speak_19 k_M_20 rfl hf (fun x3 hf => ?_)
      refine ax_iload_n B d_M_speak_22 rfl (j := 1) rfl ?_
      refine ax_iald B d_M_speak_23 (t := 0) (by decide) rfl hf (fun x4 hf => ?_)
      refine ax_istore_n B (lv' := [(3, ax_I x4), (0, ax_O x0), (1, ax_I p0), (2, ax_I p1)]) d_M_speak_24 rfl (by rw [hn]; decide) rfl ?_
      refine ax_aload_n B d_M_speak_25 rfl (j := 1) rfl ?_
      refine ax_getR B d_M_speak_26 k_M_20 rfl hf (fun x5 hf => ?_)
      refine ax_iload_n B d_M_speak_29 rfl (j := 2) rfl ?_
      refine ax_iload_n B d_M_speak_30 rfl (j := 3) rfl ?_
      refine ax_iast B d_M_speak_31 (t := 0) (by decide) rfl hf (fun M6 hf => ?_)
      refine ax_iload_n B d_M_speak_32 rfl (j := 0) rfl ?_
      exact ax_ireturn B hE d_M_speak_33 hf rfl hag (by decide) (by decide)
def G_M_holds_57  (M : ax_M) (s0 : Int64) : Option (Int64 × ax_M) := some (s0, M)
set_option maxRecDepth 100000 in
set_option maxHeartbeats 4000000 in
theorem K_M_holds_57 {Z : ax_Z} {ad0 ad : Nat → Nat} {q : Int64 × ax_M} (B : ax_B Z "VoteAuctionsModel" b_M_holds (some .long)) (hn : Z.2.2.2.2.2.2.2.2.2.2.2.1 = 3) (hR : ax_R Z 1 0 0) (hE : ax_E Z ad0 [] 0 0 (some (ax_L q.1)) q.2) (hag : ∀ a, a ∉ ([] : List Nat) → ad a = ad0 a)   : ∀ (M : ax_M) (s0 : Int64), G_M_holds_57  M s0 = some q → ax_W Z ad 0 0 57 [] [ax_L s0] M := by
  intro M s0 hf
  unfold G_M_holds_57 at hf
  exact ax_lreturn B hE d_M_holds_57 hf hag (by decide) (by decide)
def f_M_holds (M : ax_M) (x0 : Option Nat) (p0 : Int32) (p1 : Int32) : Option (Int64 × ax_M) := (ax_ob M 3 x0).bind (fun _ => (f_M_isAccount M x0 p0).bind (fun q1 => if q1.1 = 0 then some ((-1), q1.2) else if p1 = 0 then (ax_gr q1.2 3 4 x0).bind (fun x2 => (ax_ri q1.2 0 x2 p0).bind (fun x3 => G_M_holds_57 q1.2 (x3.toInt64))) else if p1 = 1 then (ax_gr q1.2 3 5 x0).bind (fun x4 => (ax_rl q1.2 1 x4 p0).bind (fun x5 => G_M_holds_57 q1.2 x5)) else if p1 = 2 then (ax_gr q1.2 3 6 x0).bind (fun x6 => (ax_rl q1.2 1 x6 p0).bind (fun x7 => G_M_holds_57 q1.2 x7)) else G_M_holds_57 q1.2 (-2)))
set_option maxRecDepth 100000 in
set_option maxHeartbeats 4000000 in
theorem c_M_holds (l : Launch) (G : ax_G) (M : ax_M) (x0 : Option Nat) (p0 : Int32) (p1 : Int32) {q : Int64 × ax_M} (hf : f_M_holds M x0 p0 p1 = some q) : ax_C l G y_M_holds b_M_holds 3 (some .long) [] 1 0 0 [ax_O x0, ax_I p0, ax_I p1] M (some (ax_L q.1)) q.2 := by
  refine ax_ofW (by decide +kernel) (lv0 := [(0, ax_O x0), (1, ax_I p0), (2, ax_I p1)]) (Nat.le_of_ble_eq_true rfl) rfl ?_
  intro Z ad B hin _ _ hn hR hE
  have hag : ∀ a, a ∉ ([] : List Nat) → ad a = ad a := fun _ _ => rfl
  unfold f_M_holds at hf
  refine ax_aload_n B d_M_holds_0 rfl (j := 0) rfl ?_
  refine ax_iload_n B d_M_holds_1 rfl (j := 1) rfl ?_
  refine ax_cVV B hR (as := [ax_I p0]) (V := fun q => ax_I q.1) (N := fun q => q.2) d_M_holds_2 l_M_143 m_M_isAccount hf (fun q h => c_M_isAccount _ _ _ _ _ h) rfl rfl (by decide) (by decide) (by decide) (by decide) (Nat.le_of_ble_eq_true rfl) (fun q1 hf => ?_)
  refine ax_if_ne B (tgt := 12) d_M_holds_5 (by decide) hf (fun hf => ?_) (fun hf => ?_)
  · refine ax_ldc2 B (v := (-1)) n_M_148 d_M_holds_8 ?_
    exact ax_lreturn B hE d_M_holds_11 hf hag (by decide) (by decide)
  · refine ax_iload_n B d_M_holds_12 rfl (j := 2) rfl ?_
    refine ax_if_ne B (tgt := 26) d_M_holds_13 (by decide) hf (fun hf => ?_) (fun hf => ?_)
    · refine ax_aload_n B d_M_holds_16 rfl (j := 0) rfl ?_
      refine ax_getR B d_M_holds_17 k_M_7 rfl hf (fun x2 hf => ?_)
      refine ax_iload_n B d_M_holds_20 rfl (j := 1) rfl ?_
      refine ax_iald B d_M_holds_21 (t := 0) (by decide) rfl hf (fun x3 hf => ?_)
      refine ax_i2l B d_M_holds_22 ?_
      refine ax_goto B (tgt := 57) d_M_holds_23 (by decide) ?_
      refine ax_sub [] rfl ?_
      exact K_M_holds_57 B hn hR hE hag q1.2 (x3.toInt64) hf
    · refine ax_iload_n B d_M_holds_26 rfl (j := 2) rfl ?_
      refine ax_iconst B (v := 1) (by decide) d_M_holds_27 ?_
      refine ax_icmp_ne B (tgt := 40) d_M_holds_28 (by decide) hf (fun hf => ?_) (fun hf => ?_)
      · refine ax_aload_n B d_M_holds_31 rfl (j := 0) rfl ?_
        refine ax_getR B d_M_holds_32 k_M_13 rfl hf (fun x4 hf => ?_)
        refine ax_iload_n B d_M_holds_35 rfl (j := 1) rfl ?_
        refine ax_lald B d_M_holds_36 (t := 1) (by decide) rfl hf (fun x5 hf => ?_)
        refine ax_goto B (tgt := 57) d_M_holds_37 (by decide) ?_
        refine ax_sub [] rfl ?_
        exact K_M_holds_57 B hn hR hE hag q1.2 x5 hf
      · refine ax_iload_n B d_M_holds_40 rfl (j := 2) rfl ?_
        refine ax_iconst B (v := 2) (by decide) d_M_holds_41 ?_
        refine ax_icmp_ne B (tgt := 54) d_M_holds_42 (by decide) hf (fun hf => ?_) (fun hf => ?_)
        · refine ax_aload_n B d_M_holds_45 rfl (j := 0) rfl ?_
          refine ax_getR B d_M_holds_46 k_M_17 rfl hf (fun x6 hf => ?_)
          refine ax_iload_n B d_M_holds_49 rfl (j := 1) rfl ?_
          refine ax_lald B d_M_holds_50 (t := 1) (by decide) rfl hf (fun x7 hf => ?_)
          refine ax_goto B (tgt := 57) d_M_holds_51 (by decide) ?_
          refine ax_sub [] rfl ?_
          exact K_M_holds_57 B hn hR hE hag q1.2 x7 hf
        · refine ax_ldc2 B (v := (-2)) n_M_150 d_M_holds_54 ?_
          refine ax_sub [] rfl ?_
          exact K_M_holds_57 B hn hR hE hag q1.2 (-2) hf
def f_M_pot (M : ax_M) (x0 : Option Nat) : Option (Int64 × ax_M) := (ax_gl M 3 2 x0).bind (fun x1 => some (x1, M))
set_option maxRecDepth 100000 in
set_option maxHeartbeats 4000000 in
theorem c_M_pot (l : Launch) (G : ax_G) (M : ax_M) (x0 : Option Nat) {q : Int64 × ax_M} (hf : f_M_pot M x0 = some q) : ax_C l G y_M_pot b_M_pot 1 (some .long) [] 0 0 0 [ax_O x0] M (some (ax_L q.1)) q.2 := by
  refine ax_ofW (by decide +kernel) (lv0 := [(0, ax_O x0)]) (Nat.le_of_ble_eq_true rfl) rfl ?_
  intro Z ad B hin _ _ hn hR hE
  have hag : ∀ a, a ∉ ([] : List Nat) → ad a = ad a := fun _ _ => rfl
  unfold f_M_pot at hf
  refine ax_aload_n B d_M_pot_0 rfl (j := 0) rfl ?_
  refine ax_getL B d_M_pot_1 k_M_152 rfl hf (fun x1 hf => ?_)
  exact ax_lreturn B hE d_M_pot_4 hf hag (by decide) (by decide)
def G_M_greatest_178 (rec5 : ax_M → Option Nat → Int32 → Int32 → Int32 → Int32 → Option (Int32 × ax_M)) (M : ax_M) (v0 : Option Nat) (v1 : Int32) (v2 : Int32) (v4 : Int32) (s0 : Int32) : Option (Int32 × ax_M) := (some (v4 + 1)).bind (fun y1 => rec5 M v0 v1 v2 s0 y1)
set_option maxRecDepth 100000 in
set_option maxHeartbeats 4000000 in
theorem K_M_greatest_178 {Z : ax_Z} {ad0 ad : Nat → Nat} {q : Int32 × ax_M} (B : ax_B Z "VoteAuctionsModel" b_M_greatest (some .int)) (hn : Z.2.2.2.2.2.2.2.2.2.2.2.1 = 8) (hR : ax_R Z 0 0 0) (hE : ax_E Z ad0 [] 0 0 (some (ax_I q.1)) q.2) (hag : ∀ a, a ∉ ([] : List Nat) → ad a = ad0 a) {rec5 : ax_M → Option Nat → Int32 → Int32 → Int32 → Int32 → Option (Int32 × ax_M)} (hr5 : ∀ (M : ax_M) (v0 : Option Nat) (v1 : Int32) (v2 : Int32) (v3 : Int32) (v4 : Int32), rec5 M v0 v1 v2 v3 v4 = some q → ax_W Z ad 0 0 5 [(0, ax_O v0), (1, ax_I v1), (2, ax_I v2), (3, ax_I v3), (4, ax_I v4)] [] M) : ∀ (M : ax_M) (v0 : Option Nat) (v1 : Int32) (v2 : Int32) (v4 : Int32) (s0 : Int32), G_M_greatest_178 rec5 M v0 v1 v2 v4 s0 = some q → ax_W Z ad 0 0 178 [(0, ax_O v0), (1, ax_I v1), (2, ax_I v2), (4, ax_I v4)] [ax_I s0] M := by
  intro M v0 v1 v2 v4 s0 hf
  unfold G_M_greatest_178 at hf
  refine ax_istore_n B (lv' := [(3, ax_I s0), (0, ax_O v0), (1, ax_I v1), (2, ax_I v2), (4, ax_I v4)]) d_M_greatest_178 rfl (by rw [hn]; decide) rfl ?_
  refine ax_iincN B (j := 4) (lv' := fun y => [(4, ax_I y), (3, ax_I s0), (0, ax_O v0), (1, ax_I v1), (2, ax_I v2)]) d_M_greatest_179 rfl hf rfl (by rw [hn]; decide) (fun _ => rfl) (fun y1 hf => ?_)
  refine ax_goto B (tgt := 5) d_M_greatest_182 (by decide) ?_
  refine ax_sub [2, 3, 4, 1, 0] rfl ?_
  exact hr5 M v0 v1 v2 s0 y1 hf
def G_M_greatest_165 (rec5 : ax_M → Option Nat → Int32 → Int32 → Int32 → Int32 → Option (Int32 × ax_M)) (M : ax_M) (v0 : Option Nat) (v1 : Int32) (v2 : Int32) (v3 : Int32) (v4 : Int32) (s0 : Int32) : Option (Int32 × ax_M) := if s0 = 0 then G_M_greatest_178 rec5 M v0 v1 v2 v4 v3 else G_M_greatest_178 rec5 M v0 v1 v2 v4 v4
set_option maxRecDepth 100000 in
set_option maxHeartbeats 4000000 in
theorem K_M_greatest_165 {Z : ax_Z} {ad0 ad : Nat → Nat} {q : Int32 × ax_M} (B : ax_B Z "VoteAuctionsModel" b_M_greatest (some .int)) (hn : Z.2.2.2.2.2.2.2.2.2.2.2.1 = 8) (hR : ax_R Z 0 0 0) (hE : ax_E Z ad0 [] 0 0 (some (ax_I q.1)) q.2) (hag : ∀ a, a ∉ ([] : List Nat) → ad a = ad0 a) {rec5 : ax_M → Option Nat → Int32 → Int32 → Int32 → Int32 → Option (Int32 × ax_M)} (hr5 : ∀ (M : ax_M) (v0 : Option Nat) (v1 : Int32) (v2 : Int32) (v3 : Int32) (v4 : Int32), rec5 M v0 v1 v2 v3 v4 = some q → ax_W Z ad 0 0 5 [(0, ax_O v0), (1, ax_I v1), (2, ax_I v2), (3, ax_I v3), (4, ax_I v4)] [] M) : ∀ (M : ax_M) (v0 : Option Nat) (v1 : Int32) (v2 : Int32) (v3 : Int32) (v4 : Int32) (s0 : Int32), G_M_greatest_165 rec5 M v0 v1 v2 v3 v4 s0 = some q → ax_W Z ad 0 0 165 [(0, ax_O v0), (1, ax_I v1), (2, ax_I v2), (3, ax_I v3), (4, ax_I v4)] [ax_I s0] M := by
  intro M v0 v1 v2 v3 v4 s0 hf
  unfold G_M_greatest_165 at hf
  refine ax_istore B (lv' := [(7, ax_I s0), (0, ax_O v0), (1, ax_I v1), (2, ax_I v2), (3, ax_I v3), (4, ax_I v4)]) d_M_greatest_165 (by rw [hn]; decide) rfl ?_
  refine ax_iload B (j := 0) d_M_greatest_167 rfl ?_
  refine ax_if_eq B (tgt := 177) d_M_greatest_169 (by decide) hf (fun hf => ?_) (fun hf => ?_)
  · refine ax_iload_n B d_M_greatest_177 rfl (j := 4) rfl ?_
    refine ax_sub [1, 2, 3, 5] rfl ?_
    exact K_M_greatest_178 B hn hR hE hag hr5 M v0 v1 v2 v4 v3 hf
  · refine ax_iload B (j := 5) d_M_greatest_172 rfl ?_
    refine ax_goto B (tgt := 178) d_M_greatest_174 (by decide) ?_
    refine ax_sub [1, 2, 3, 5] rfl ?_
    exact K_M_greatest_178 B hn hR hE hag hr5 M v0 v1 v2 v4 v4 hf
def G_M_greatest_164 (rec5 : ax_M → Option Nat → Int32 → Int32 → Int32 → Int32 → Option (Int32 × ax_M)) (M : ax_M) (v0 : Option Nat) (v1 : Int32) (v2 : Int32) (v3 : Int32) (v4 : Int32) : Option (Int32 × ax_M) := G_M_greatest_165 rec5 M v0 v1 v2 v3 v4 0
set_option maxRecDepth 100000 in
set_option maxHeartbeats 4000000 in
theorem K_M_greatest_164 {Z : ax_Z} {ad0 ad : Nat → Nat} {q : Int32 × ax_M} (B : ax_B Z "VoteAuctionsModel" b_M_greatest (some .int)) (hn : Z.2.2.2.2.2.2.2.2.2.2.2.1 = 8) (hR : ax_R Z 0 0 0) (hE : ax_E Z ad0 [] 0 0 (some (ax_I q.1)) q.2) (hag : ∀ a, a ∉ ([] : List Nat) → ad a = ad0 a) {rec5 : ax_M → Option Nat → Int32 → Int32 → Int32 → Int32 → Option (Int32 × ax_M)} (hr5 : ∀ (M : ax_M) (v0 : Option Nat) (v1 : Int32) (v2 : Int32) (v3 : Int32) (v4 : Int32), rec5 M v0 v1 v2 v3 v4 = some q → ax_W Z ad 0 0 5 [(0, ax_O v0), (1, ax_I v1), (2, ax_I v2), (3, ax_I v3), (4, ax_I v4)] [] M) : ∀ (M : ax_M) (v0 : Option Nat) (v1 : Int32) (v2 : Int32) (v3 : Int32) (v4 : Int32), G_M_greatest_164 rec5 M v0 v1 v2 v3 v4 = some q → ax_W Z ad 0 0 164 [(0, ax_O v0), (1, ax_I v1), (2, ax_I v2), (3, ax_I v3), (4, ax_I v4)] [] M := by
  intro M v0 v1 v2 v3 v4 hf
  unfold G_M_greatest_164 at hf
  refine ax_iconst B (v := 0) (by decide) d_M_greatest_164 ?_
  exact K_M_greatest_165 B hn hR hE hag hr5 M v0 v1 v2 v3 v4 0 hf
def G_M_greatest_160 (rec5 : ax_M → Option Nat → Int32 → Int32 → Int32 → Int32 → Option (Int32 × ax_M)) (M : ax_M) (v0 : Option Nat) (v1 : Int32) (v2 : Int32) (v3 : Int32) (v4 : Int32) : Option (Int32 × ax_M) := G_M_greatest_165 rec5 M v0 v1 v2 v3 v4 1
set_option maxRecDepth 100000 in
set_option maxHeartbeats 4000000 in
theorem K_M_greatest_160 {Z : ax_Z} {ad0 ad : Nat → Nat} {q : Int32 × ax_M} (B : ax_B Z "VoteAuctionsModel" b_M_greatest (some .int)) (hn : Z.2.2.2.2.2.2.2.2.2.2.2.1 = 8) (hR : ax_R Z 0 0 0) (hE : ax_E Z ad0 [] 0 0 (some (ax_I q.1)) q.2) (hag : ∀ a, a ∉ ([] : List Nat) → ad a = ad0 a) {rec5 : ax_M → Option Nat → Int32 → Int32 → Int32 → Int32 → Option (Int32 × ax_M)} (hr5 : ∀ (M : ax_M) (v0 : Option Nat) (v1 : Int32) (v2 : Int32) (v3 : Int32) (v4 : Int32), rec5 M v0 v1 v2 v3 v4 = some q → ax_W Z ad 0 0 5 [(0, ax_O v0), (1, ax_I v1), (2, ax_I v2), (3, ax_I v3), (4, ax_I v4)] [] M) : ∀ (M : ax_M) (v0 : Option Nat) (v1 : Int32) (v2 : Int32) (v3 : Int32) (v4 : Int32), G_M_greatest_160 rec5 M v0 v1 v2 v3 v4 = some q → ax_W Z ad 0 0 160 [(0, ax_O v0), (1, ax_I v1), (2, ax_I v2), (3, ax_I v3), (4, ax_I v4)] [] M := by
  intro M v0 v1 v2 v3 v4 hf
  unfold G_M_greatest_160 at hf
  refine ax_iconst B (v := 1) (by decide) d_M_greatest_160 ?_
  refine ax_goto B (tgt := 165) d_M_greatest_161 (by decide) ?_
  exact K_M_greatest_165 B hn hR hE hag hr5 M v0 v1 v2 v3 v4 1 hf
def G_M_greatest_86 (rec5 : ax_M → Option Nat → Int32 → Int32 → Int32 → Int32 → Option (Int32 × ax_M)) (M : ax_M) (v0 : Option Nat) (v1 : Int32) (v2 : Int32) (v3 : Int32) (v4 : Int32) (v5 : Int32) (s0 : Int32) : Option (Int32 × ax_M) := if s0 = 0 then G_M_greatest_164 rec5 M v0 v1 v2 v3 v4 else if v3 < 0 then G_M_greatest_160 rec5 M v0 v1 v2 v3 v4 else (ax_gr M 3 37 v0).bind (fun x1 => (ax_ri M 0 x1 v5).bind (fun x2 => (ax_gr M 3 37 v0).bind (fun x3 => (ax_ri M 0 x3 ((8 * v1) + v3)).bind (fun x4 => if x4 < x2 then G_M_greatest_160 rec5 M v0 v1 v2 v3 v4 else (ax_gr M 3 37 v0).bind (fun x5 => (ax_ri M 0 x5 v5).bind (fun x6 => (ax_gr M 3 37 v0).bind (fun x7 => (ax_ri M 0 x7 ((8 * v1) + v3)).bind (fun x8 => if x6 = x8 then (ax_gr M 3 38 v0).bind (fun x9 => (ax_ri M 0 x9 v5).bind (fun x10 => (ax_gr M 3 38 v0).bind (fun x11 => (ax_ri M 0 x11 ((8 * v1) + v3)).bind (fun x12 => if x12 ≤ x10 then G_M_greatest_164 rec5 M v0 v1 v2 v3 v4 else G_M_greatest_160 rec5 M v0 v1 v2 v3 v4)))) else G_M_greatest_164 rec5 M v0 v1 v2 v3 v4))))))))
set_option maxRecDepth 100000 in
set_option maxHeartbeats 4000000 in
theorem K_M_greatest_86 {Z : ax_Z} {ad0 ad : Nat → Nat} {q : Int32 × ax_M} (B : ax_B Z "VoteAuctionsModel" b_M_greatest (some .int)) (hn : Z.2.2.2.2.2.2.2.2.2.2.2.1 = 8) (hR : ax_R Z 0 0 0) (hE : ax_E Z ad0 [] 0 0 (some (ax_I q.1)) q.2) (hag : ∀ a, a ∉ ([] : List Nat) → ad a = ad0 a) {rec5 : ax_M → Option Nat → Int32 → Int32 → Int32 → Int32 → Option (Int32 × ax_M)} (hr5 : ∀ (M : ax_M) (v0 : Option Nat) (v1 : Int32) (v2 : Int32) (v3 : Int32) (v4 : Int32), rec5 M v0 v1 v2 v3 v4 = some q → ax_W Z ad 0 0 5 [(0, ax_O v0), (1, ax_I v1), (2, ax_I v2), (3, ax_I v3), (4, ax_I v4)] [] M) : ∀ (M : ax_M) (v0 : Option Nat) (v1 : Int32) (v2 : Int32) (v3 : Int32) (v4 : Int32) (v5 : Int32) (s0 : Int32), G_M_greatest_86 rec5 M v0 v1 v2 v3 v4 v5 s0 = some q → ax_W Z ad 0 0 86 [(0, ax_O v0), (1, ax_I v1), (2, ax_I v2), (3, ax_I v3), (4, ax_I v4), (5, ax_I v5)] [ax_I s0] M := by
  intro M v0 v1 v2 v3 v4 v5 s0 hf
  unfold G_M_greatest_86 at hf
  refine ax_istore B (lv' := [(6, ax_I s0), (0, ax_O v0), (1, ax_I v1), (2, ax_I v2), (3, ax_I v3), (4, ax_I v4), (5, ax_I v5)]) d_M_greatest_86 (by rw [hn]; decide) rfl ?_
  refine ax_iload B (j := 0) d_M_greatest_88 rfl ?_
  refine ax_if_eq B (tgt := 164) d_M_greatest_90 (by decide) hf (fun hf => ?_) (fun hf => ?_)
  · refine ax_sub [1, 2, 3, 4, 5] rfl ?_
    exact K_M_greatest_164 B hn hR hE hag hr5 M v0 v1 v2 v3 v4 hf
  · refine ax_iload_n B d_M_greatest_93 rfl (j := 4) rfl ?_
    refine ax_if_lt B (tgt := 160) d_M_greatest_94 (by decide) hf (fun hf => ?_) (fun hf => ?_)
    · refine ax_sub [1, 2, 3, 4, 5] rfl ?_
      exact K_M_greatest_160 B hn hR hE hag hr5 M v0 v1 v2 v3 v4 hf
    · refine ax_aload_n B d_M_greatest_97 rfl (j := 1) rfl ?_
      refine ax_getR B d_M_greatest_98 k_M_102 rfl hf (fun x1 hf => ?_)
      refine ax_iload B (j := 6) d_M_greatest_101 rfl ?_
      refine ax_iald B d_M_greatest_103 (t := 0) (by decide) rfl hf (fun x2 hf => ?_)
      refine ax_aload_n B d_M_greatest_104 rfl (j := 1) rfl ?_
      refine ax_getR B d_M_greatest_105 k_M_102 rfl hf (fun x3 hf => ?_)
      refine ax_bipush B (v := 8) (by decide) d_M_greatest_108 ?_
      refine ax_iload_n B d_M_greatest_110 rfl (j := 2) rfl ?_
      refine ax_imul B d_M_greatest_111 ?_
      refine ax_iload_n B d_M_greatest_112 rfl (j := 4) rfl ?_
      refine ax_iadd B d_M_greatest_113 ?_
      refine ax_iald B d_M_greatest_114 (t := 0) (by decide) rfl hf (fun x4 hf => ?_)
      refine ax_icmp_gt B (tgt := 160) d_M_greatest_115 (by decide) hf (fun hf => ?_) (fun hf => ?_)
      · refine ax_sub [1, 2, 3, 4, 5] rfl ?_
        exact K_M_greatest_160 B hn hR hE hag hr5 M v0 v1 v2 v3 v4 hf
      · refine ax_aload_n B d_M_greatest_118 rfl (j := 1) rfl ?_
        refine ax_getR B d_M_greatest_119 k_M_102 rfl hf (fun x5 hf => ?_)
        refine ax_iload B (j := 6) d_M_greatest_122 rfl ?_
        refine ax_iald B d_M_greatest_124 (t := 0) (by decide) rfl hf (fun x6 hf => ?_)
        refine ax_aload_n B d_M_greatest_125 rfl (j := 1) rfl ?_
        refine ax_getR B d_M_greatest_126 k_M_102 rfl hf (fun x7 hf => ?_)
        refine ax_bipush B (v := 8) (by decide) d_M_greatest_129 ?_
        refine ax_iload_n B d_M_greatest_131 rfl (j := 2) rfl ?_
        refine ax_imul B d_M_greatest_132 ?_
        refine ax_iload_n B d_M_greatest_133 rfl (j := 4) rfl ?_
        refine ax_iadd B d_M_greatest_134 ?_
        refine ax_iald B d_M_greatest_135 (t := 0) (by decide) rfl hf (fun x8 hf => ?_)
        refine ax_icmp_ne B (tgt := 164) d_M_greatest_136 (by decide) hf (fun hf => ?_) (fun hf => ?_)
        · refine ax_aload_n B d_M_greatest_139 rfl (j := 1) rfl ?_
          refine ax_getR B d_M_greatest_140 k_M_105 rfl hf (fun x9 hf => ?_)
          refine ax_iload B (j := 6) d_M_greatest_143 rfl ?_
          refine ax_iald B d_M_greatest_145 (t := 0) (by decide) rfl hf (fun x10 hf => ?_)
          refine ax_aload_n B d_M_greatest_146 rfl (j := 1) rfl ?_
          refine ax_getR B d_M_greatest_147 k_M_105 rfl hf (fun x11 hf => ?_)
          refine ax_bipush B (v := 8) (by decide) d_M_greatest_150 ?_
          refine ax_iload_n B d_M_greatest_152 rfl (j := 2) rfl ?_
          refine ax_imul B d_M_greatest_153 ?_
          refine ax_iload_n B d_M_greatest_154 rfl (j := 4) rfl ?_
          refine ax_iadd B d_M_greatest_155 ?_
          refine ax_iald B d_M_greatest_156 (t := 0) (by decide) rfl hf (fun x12 hf => ?_)
          refine ax_icmp_ge B (tgt := 164) d_M_greatest_157 (by decide) hf (fun hf => ?_) (fun hf => ?_)
          · refine ax_sub [1, 2, 3, 4, 5] rfl ?_
            exact K_M_greatest_164 B hn hR hE hag hr5 M v0 v1 v2 v3 v4 hf
          · refine ax_sub [1, 2, 3, 4, 5] rfl ?_
            exact K_M_greatest_160 B hn hR hE hag hr5 M v0 v1 v2 v3 v4 hf
        · refine ax_sub [1, 2, 3, 4, 5] rfl ?_
          exact K_M_greatest_164 B hn hR hE hag hr5 M v0 v1 v2 v3 v4 hf
def G_M_greatest_85 (rec5 : ax_M → Option Nat → Int32 → Int32 → Int32 → Int32 → Option (Int32 × ax_M)) (M : ax_M) (v0 : Option Nat) (v1 : Int32) (v2 : Int32) (v3 : Int32) (v4 : Int32) (v5 : Int32) : Option (Int32 × ax_M) := G_M_greatest_86 rec5 M v0 v1 v2 v3 v4 v5 0
set_option maxRecDepth 100000 in
set_option maxHeartbeats 4000000 in
theorem K_M_greatest_85 {Z : ax_Z} {ad0 ad : Nat → Nat} {q : Int32 × ax_M} (B : ax_B Z "VoteAuctionsModel" b_M_greatest (some .int)) (hn : Z.2.2.2.2.2.2.2.2.2.2.2.1 = 8) (hR : ax_R Z 0 0 0) (hE : ax_E Z ad0 [] 0 0 (some (ax_I q.1)) q.2) (hag : ∀ a, a ∉ ([] : List Nat) → ad a = ad0 a) {rec5 : ax_M → Option Nat → Int32 → Int32 → Int32 → Int32 → Option (Int32 × ax_M)} (hr5 : ∀ (M : ax_M) (v0 : Option Nat) (v1 : Int32) (v2 : Int32) (v3 : Int32) (v4 : Int32), rec5 M v0 v1 v2 v3 v4 = some q → ax_W Z ad 0 0 5 [(0, ax_O v0), (1, ax_I v1), (2, ax_I v2), (3, ax_I v3), (4, ax_I v4)] [] M) : ∀ (M : ax_M) (v0 : Option Nat) (v1 : Int32) (v2 : Int32) (v3 : Int32) (v4 : Int32) (v5 : Int32), G_M_greatest_85 rec5 M v0 v1 v2 v3 v4 v5 = some q → ax_W Z ad 0 0 85 [(0, ax_O v0), (1, ax_I v1), (2, ax_I v2), (3, ax_I v3), (4, ax_I v4), (5, ax_I v5)] [] M := by
  intro M v0 v1 v2 v3 v4 v5 hf
  unfold G_M_greatest_85 at hf
  refine ax_iconst B (v := 0) (by decide) d_M_greatest_85 ?_
  exact K_M_greatest_86 B hn hR hE hag hr5 M v0 v1 v2 v3 v4 v5 0 hf
def G_M_greatest_81 (rec5 : ax_M → Option Nat → Int32 → Int32 → Int32 → Int32 → Option (Int32 × ax_M)) (M : ax_M) (v0 : Option Nat) (v1 : Int32) (v2 : Int32) (v3 : Int32) (v4 : Int32) (v5 : Int32) : Option (Int32 × ax_M) := G_M_greatest_86 rec5 M v0 v1 v2 v3 v4 v5 1
set_option maxRecDepth 100000 in
set_option maxHeartbeats 4000000 in
theorem K_M_greatest_81 {Z : ax_Z} {ad0 ad : Nat → Nat} {q : Int32 × ax_M} (B : ax_B Z "VoteAuctionsModel" b_M_greatest (some .int)) (hn : Z.2.2.2.2.2.2.2.2.2.2.2.1 = 8) (hR : ax_R Z 0 0 0) (hE : ax_E Z ad0 [] 0 0 (some (ax_I q.1)) q.2) (hag : ∀ a, a ∉ ([] : List Nat) → ad a = ad0 a) {rec5 : ax_M → Option Nat → Int32 → Int32 → Int32 → Int32 → Option (Int32 × ax_M)} (hr5 : ∀ (M : ax_M) (v0 : Option Nat) (v1 : Int32) (v2 : Int32) (v3 : Int32) (v4 : Int32), rec5 M v0 v1 v2 v3 v4 = some q → ax_W Z ad 0 0 5 [(0, ax_O v0), (1, ax_I v1), (2, ax_I v2), (3, ax_I v3), (4, ax_I v4)] [] M) : ∀ (M : ax_M) (v0 : Option Nat) (v1 : Int32) (v2 : Int32) (v3 : Int32) (v4 : Int32) (v5 : Int32), G_M_greatest_81 rec5 M v0 v1 v2 v3 v4 v5 = some q → ax_W Z ad 0 0 81 [(0, ax_O v0), (1, ax_I v1), (2, ax_I v2), (3, ax_I v3), (4, ax_I v4), (5, ax_I v5)] [] M := by
  intro M v0 v1 v2 v3 v4 v5 hf
  unfold G_M_greatest_81 at hf
  refine ax_iconst B (v := 1) (by decide) d_M_greatest_81 ?_
  refine ax_goto B (tgt := 86) d_M_greatest_82 (by decide) ?_
  exact K_M_greatest_86 B hn hR hE hag hr5 M v0 v1 v2 v3 v4 v5 1 hf
def G_M_greatest_58 (rec5 : ax_M → Option Nat → Int32 → Int32 → Int32 → Int32 → Option (Int32 × ax_M)) (M : ax_M) (v0 : Option Nat) (v1 : Int32) (v2 : Int32) (v3 : Int32) (v4 : Int32) (v5 : Int32) : Option (Int32 × ax_M) := (ax_gr M 3 41 v0).bind (fun x1 => (ax_ri M 0 x1 v5).bind (fun x2 => if x2 = 0 then G_M_greatest_81 rec5 M v0 v1 v2 v3 v4 v5 else G_M_greatest_85 rec5 M v0 v1 v2 v3 v4 v5))
set_option maxRecDepth 100000 in
set_option maxHeartbeats 4000000 in
theorem K_M_greatest_58 {Z : ax_Z} {ad0 ad : Nat → Nat} {q : Int32 × ax_M} (B : ax_B Z "VoteAuctionsModel" b_M_greatest (some .int)) (hn : Z.2.2.2.2.2.2.2.2.2.2.2.1 = 8) (hR : ax_R Z 0 0 0) (hE : ax_E Z ad0 [] 0 0 (some (ax_I q.1)) q.2) (hag : ∀ a, a ∉ ([] : List Nat) → ad a = ad0 a) {rec5 : ax_M → Option Nat → Int32 → Int32 → Int32 → Int32 → Option (Int32 × ax_M)} (hr5 : ∀ (M : ax_M) (v0 : Option Nat) (v1 : Int32) (v2 : Int32) (v3 : Int32) (v4 : Int32), rec5 M v0 v1 v2 v3 v4 = some q → ax_W Z ad 0 0 5 [(0, ax_O v0), (1, ax_I v1), (2, ax_I v2), (3, ax_I v3), (4, ax_I v4)] [] M) : ∀ (M : ax_M) (v0 : Option Nat) (v1 : Int32) (v2 : Int32) (v3 : Int32) (v4 : Int32) (v5 : Int32), G_M_greatest_58 rec5 M v0 v1 v2 v3 v4 v5 = some q → ax_W Z ad 0 0 58 [(0, ax_O v0), (1, ax_I v1), (2, ax_I v2), (3, ax_I v3), (4, ax_I v4), (5, ax_I v5)] [] M := by
  intro M v0 v1 v2 v3 v4 v5 hf
  unfold G_M_greatest_58 at hf
  refine ax_aload_n B d_M_greatest_58 rfl (j := 0) rfl ?_
  refine ax_getR B d_M_greatest_59 k_M_114 rfl hf (fun x1 hf => ?_)
  refine ax_iload B (j := 5) d_M_greatest_62 rfl ?_
  refine ax_iald B d_M_greatest_64 (t := 0) (by decide) rfl hf (fun x2 hf => ?_)
  refine ax_if_ne B (tgt := 85) d_M_greatest_65 (by decide) hf (fun hf => ?_) (fun hf => ?_)
  · refine ax_goto B (tgt := 81) d_M_greatest_68 (by decide) ?_
    exact K_M_greatest_81 B hn hR hE hag hr5 M v0 v1 v2 v3 v4 v5 hf
  · exact K_M_greatest_85 B hn hR hE hag hr5 M v0 v1 v2 v3 v4 v5 hf
def G_M_greatest_5 (rec5 : ax_M → Option Nat → Int32 → Int32 → Int32 → Int32 → Option (Int32 × ax_M)) (M : ax_M) (v0 : Option Nat) (v1 : Int32) (v2 : Int32) (v3 : Int32) (v4 : Int32) : Option (Int32 × ax_M) := (ax_gi M 3 3 v0).bind (fun x1 => if x1 ≤ v4 then some (v3, M) else (some ((8 * v1) + v4)).bind (fun y2 => (ax_gr M 3 35 v0).bind (fun x3 => (ax_ri M 2 x3 y2).bind (fun x4 => if x4 = 0 then G_M_greatest_85 rec5 M v0 v1 v2 v3 v4 y2 else if v4 = v2 then G_M_greatest_85 rec5 M v0 v1 v2 v3 v4 y2 else (ax_gr M 3 27 v0).bind (fun x5 => (ax_ri M 0 x5 v1).bind (fun x6 => if x6 = 0 then G_M_greatest_58 rec5 M v0 v1 v2 v3 v4 y2 else (ax_gr M 3 27 v0).bind (fun x7 => (ax_ri M 0 x7 v1).bind (fun x8 => if x8 = 4 then G_M_greatest_58 rec5 M v0 v1 v2 v3 v4 y2 else (ax_gr M 3 40 v0).bind (fun x9 => (ax_ri M 2 x9 y2).bind (fun x10 => if x10 = 0 then G_M_greatest_85 rec5 M v0 v1 v2 v3 v4 y2 else G_M_greatest_81 rec5 M v0 v1 v2 v3 v4 y2))))))))))
set_option maxRecDepth 100000 in
set_option maxHeartbeats 4000000 in
theorem K_M_greatest_5 {Z : ax_Z} {ad0 ad : Nat → Nat} {q : Int32 × ax_M} (B : ax_B Z "VoteAuctionsModel" b_M_greatest (some .int)) (hn : Z.2.2.2.2.2.2.2.2.2.2.2.1 = 8) (hR : ax_R Z 0 0 0) (hE : ax_E Z ad0 [] 0 0 (some (ax_I q.1)) q.2) (hag : ∀ a, a ∉ ([] : List Nat) → ad a = ad0 a) {rec5 : ax_M → Option Nat → Int32 → Int32 → Int32 → Int32 → Option (Int32 × ax_M)} (hr5 : ∀ (M : ax_M) (v0 : Option Nat) (v1 : Int32) (v2 : Int32) (v3 : Int32) (v4 : Int32), rec5 M v0 v1 v2 v3 v4 = some q → ax_W Z ad 0 0 5 [(0, ax_O v0), (1, ax_I v1), (2, ax_I v2), (3, ax_I v3), (4, ax_I v4)] [] M) : ∀ (M : ax_M) (v0 : Option Nat) (v1 : Int32) (v2 : Int32) (v3 : Int32) (v4 : Int32), G_M_greatest_5 rec5 M v0 v1 v2 v3 v4 = some q → ax_W Z ad 0 0 5 [(0, ax_O v0), (1, ax_I v1), (2, ax_I v2), (3, ax_I v3), (4, ax_I v4)] [] M := by
  intro M v0 v1 v2 v3 v4 hf
  unfold G_M_greatest_5 at hf
  refine ax_iload B (j := 4) d_M_greatest_5 rfl ?_
  refine ax_aload_n B d_M_greatest_7 rfl (j := 0) rfl ?_
  refine ax_getI B d_M_greatest_8 k_M_136 rfl hf (fun x1 hf => ?_)
  refine ax_icmp_ge B (tgt := 185) d_M_greatest_11 (by decide) hf (fun hf => ?_) (fun hf => ?_)
  · refine ax_iload_n B d_M_greatest_185 rfl (j := 3) rfl ?_
    exact ax_ireturn B hE d_M_greatest_186 hf rfl hag (by decide) (by decide)
  · refine ax_bipush B (v := 8) (by decide) d_M_greatest_14 ?_
    refine ax_iload_n B d_M_greatest_16 rfl (j := 1) rfl ?_
    refine ax_imul B d_M_greatest_17 ?_
    refine ax_iload B (j := 4) d_M_greatest_18 rfl ?_
    refine ax_iadd B d_M_greatest_20 ?_
    refine ax_nmI hf (fun y2 hf => ?_)
    refine ax_istore B (lv' := [(5, ax_I y2), (0, ax_O v0), (1, ax_I v1), (2, ax_I v2), (3, ax_I v3), (4, ax_I v4)]) d_M_greatest_21 (by rw [hn]; decide) rfl ?_
    refine ax_aload_n B d_M_greatest_23 rfl (j := 1) rfl ?_
    refine ax_getR B d_M_greatest_24 k_M_96 rfl hf (fun x3 hf => ?_)
    refine ax_iload B (j := 0) d_M_greatest_27 rfl ?_
    refine ax_zald B d_M_greatest_29 (t := 2) (by decide) rfl hf (fun x4 hf => ?_)
    refine ax_if_eq B (tgt := 85) d_M_greatest_30 (by decide) hf (fun hf => ?_) (fun hf => ?_)
    · refine ax_sub [1, 2, 3, 4, 5, 0] rfl ?_
      exact K_M_greatest_85 B hn hR hE hag hr5 M v0 v1 v2 v3 v4 y2 hf
    · refine ax_iload B (j := 5) d_M_greatest_33 rfl ?_
      refine ax_iload_n B d_M_greatest_35 rfl (j := 3) rfl ?_
      refine ax_icmp_eq B (tgt := 85) d_M_greatest_36 (by decide) hf (fun hf => ?_) (fun hf => ?_)
      · refine ax_sub [1, 2, 3, 4, 5, 0] rfl ?_
        exact K_M_greatest_85 B hn hR hE hag hr5 M v0 v1 v2 v3 v4 y2 hf
      · refine ax_aload_n B d_M_greatest_39 rfl (j := 1) rfl ?_
        refine ax_getR B d_M_greatest_40 k_M_72 rfl hf (fun x5 hf => ?_)
        refine ax_iload_n B d_M_greatest_43 rfl (j := 2) rfl ?_
        refine ax_iald B d_M_greatest_44 (t := 0) (by decide) rfl hf (fun x6 hf => ?_)
        refine ax_if_eq B (tgt := 58) d_M_greatest_45 (by decide) hf (fun hf => ?_) (fun hf => ?_)
        · refine ax_sub [1, 2, 3, 4, 5, 0] rfl ?_
          exact K_M_greatest_58 B hn hR hE hag hr5 M v0 v1 v2 v3 v4 y2 hf
        · refine ax_aload_n B d_M_greatest_48 rfl (j := 1) rfl ?_
          refine ax_getR B d_M_greatest_49 k_M_72 rfl hf (fun x7 hf => ?_)
          refine ax_iload_n B d_M_greatest_52 rfl (j := 2) rfl ?_
          refine ax_iald B d_M_greatest_53 (t := 0) (by decide) rfl hf (fun x8 hf => ?_)
          refine ax_iconst B (v := 4) (by decide) d_M_greatest_54 ?_
          refine ax_icmp_ne B (tgt := 71) d_M_greatest_55 (by decide) hf (fun hf => ?_) (fun hf => ?_)
          · refine ax_sub [1, 2, 3, 4, 5, 0] rfl ?_
            exact K_M_greatest_58 B hn hR hE hag hr5 M v0 v1 v2 v3 v4 y2 hf
          · refine ax_aload_n B d_M_greatest_71 rfl (j := 1) rfl ?_
            refine ax_getR B d_M_greatest_72 k_M_111 rfl hf (fun x9 hf => ?_)
            refine ax_iload B (j := 0) d_M_greatest_75 rfl ?_
            refine ax_zald B d_M_greatest_77 (t := 2) (by decide) rfl hf (fun x10 hf => ?_)
            refine ax_if_eq B (tgt := 85) d_M_greatest_78 (by decide) hf (fun hf => ?_) (fun hf => ?_)
            · refine ax_sub [1, 2, 3, 4, 5, 0] rfl ?_
              exact K_M_greatest_85 B hn hR hE hag hr5 M v0 v1 v2 v3 v4 y2 hf
            · refine ax_sub [1, 2, 3, 4, 5, 0] rfl ?_
              exact K_M_greatest_81 B hn hR hE hag hr5 M v0 v1 v2 v3 v4 y2 hf
def F_M_greatest_5  : Nat → ax_M → Option Nat → Int32 → Int32 → Int32 → Int32 → Option (Int32 × ax_M)
  | 0 => fun _ _ _ _ _ _ => none
  | n + 1 => G_M_greatest_5 (F_M_greatest_5  n)
set_option maxRecDepth 100000 in
set_option maxHeartbeats 4000000 in
theorem L_M_greatest_5 {Z : ax_Z} {ad0 ad : Nat → Nat} {q : Int32 × ax_M} (B : ax_B Z "VoteAuctionsModel" b_M_greatest (some .int)) (hn : Z.2.2.2.2.2.2.2.2.2.2.2.1 = 8) (hR : ax_R Z 0 0 0) (hE : ax_E Z ad0 [] 0 0 (some (ax_I q.1)) q.2) (hag : ∀ a, a ∉ ([] : List Nat) → ad a = ad0 a)   : ∀ (n : Nat) (M : ax_M) (v0 : Option Nat) (v1 : Int32) (v2 : Int32) (v3 : Int32) (v4 : Int32), F_M_greatest_5  n M v0 v1 v2 v3 v4 = some q → ax_W Z ad 0 0 5 [(0, ax_O v0), (1, ax_I v1), (2, ax_I v2), (3, ax_I v3), (4, ax_I v4)] [] M := by
  intro n
  induction n with
  | zero => intro M v0 v1 v2 v3 v4 hf; cases hf
  | succ n ih => exact K_M_greatest_5 B hn hR hE hag ih
def f_M_greatest (M : ax_M) (x0 : Option Nat) (p0 : Int32) (p1 : Int32) : Option (Int32 × ax_M) := F_M_greatest_5 64 M x0 p0 p1 (-1) 0
set_option maxRecDepth 100000 in
set_option maxHeartbeats 4000000 in
theorem c_M_greatest (l : Launch) (G : ax_G) (M : ax_M) (x0 : Option Nat) (p0 : Int32) (p1 : Int32) {q : Int32 × ax_M} (hf : f_M_greatest M x0 p0 p1 = some q) : ax_C l G y_M_greatest b_M_greatest 8 (some .int) [] 0 0 0 [ax_O x0, ax_I p0, ax_I p1] M (some (ax_I q.1)) q.2 := by
  refine ax_ofW (by decide +kernel) (lv0 := [(0, ax_O x0), (1, ax_I p0), (2, ax_I p1)]) (Nat.le_of_ble_eq_true rfl) rfl ?_
  intro Z ad B hin _ _ hn hR hE
  have hag : ∀ a, a ∉ ([] : List Nat) → ad a = ad a := fun _ _ => rfl
  unfold f_M_greatest at hf
  refine ax_iconst B (v := (-1)) (by decide) d_M_greatest_0 ?_
  refine ax_istore_n B (lv' := [(3, ax_I (-1)), (0, ax_O x0), (1, ax_I p0), (2, ax_I p1)]) d_M_greatest_1 rfl (by rw [hn]; decide) rfl ?_
  refine ax_iconst B (v := 0) (by decide) d_M_greatest_2 ?_
  refine ax_istore B (lv' := [(4, ax_I 0), (3, ax_I (-1)), (0, ax_O x0), (1, ax_I p0), (2, ax_I p1)]) d_M_greatest_3 (by rw [hn]; decide) rfl ?_
  refine ax_sub [2, 3, 4, 1, 0] rfl ?_
  exact L_M_greatest_5 B hn hR hE hag 64 M x0 p0 p1 (-1) 0 hf
def G_M_costOf_28  (M : ax_M) (s0 : Int64) : Option (Int64 × ax_M) := some (s0, M)
set_option maxRecDepth 100000 in
set_option maxHeartbeats 4000000 in
theorem K_M_costOf_28 {Z : ax_Z} {ad0 ad : Nat → Nat} {q : Int64 × ax_M} (B : ax_B Z "VoteAuctionsModel" b_M_costOf (some .long)) (hn : Z.2.2.2.2.2.2.2.2.2.2.2.1 = 2) (hR : ax_R Z 0 0 0) (hE : ax_E Z ad0 [] 0 0 (some (ax_L q.1)) q.2) (hag : ∀ a, a ∉ ([] : List Nat) → ad a = ad0 a)   : ∀ (M : ax_M) (s0 : Int64), G_M_costOf_28  M s0 = some q → ax_W Z ad 0 0 28 [] [ax_L s0] M := by
  intro M s0 hf
  unfold G_M_costOf_28 at hf
  exact ax_lreturn B hE d_M_costOf_28 hf hag (by decide) (by decide)
def f_M_costOf (M : ax_M) (x0 : Option Nat) (p0 : Int32) : Option (Int64 × ax_M) := (ax_gr M 3 35 x0).bind (fun x1 => (ax_ri M 2 x1 p0).bind (fun x2 => if x2 = 0 then G_M_costOf_28 M 0 else (ax_gr M 3 36 x0).bind (fun x3 => (ax_ri M 0 x3 p0).bind (fun x4 => (ax_gr M 3 37 x0).bind (fun x5 => (ax_ri M 0 x5 p0).bind (fun x6 => G_M_costOf_28 M ((x4.toInt64) * (x6.toInt64))))))))
set_option maxRecDepth 100000 in
set_option maxHeartbeats 4000000 in
theorem c_M_costOf (l : Launch) (G : ax_G) (M : ax_M) (x0 : Option Nat) (p0 : Int32) {q : Int64 × ax_M} (hf : f_M_costOf M x0 p0 = some q) : ax_C l G y_M_costOf b_M_costOf 2 (some .long) [] 0 0 0 [ax_O x0, ax_I p0] M (some (ax_L q.1)) q.2 := by
  refine ax_ofW (by decide +kernel) (lv0 := [(0, ax_O x0), (1, ax_I p0)]) (Nat.le_of_ble_eq_true rfl) rfl ?_
  intro Z ad B hin _ _ hn hR hE
  have hag : ∀ a, a ∉ ([] : List Nat) → ad a = ad a := fun _ _ => rfl
  unfold f_M_costOf at hf
  refine ax_aload_n B d_M_costOf_0 rfl (j := 0) rfl ?_
  refine ax_getR B d_M_costOf_1 k_M_96 rfl hf (fun x1 hf => ?_)
  refine ax_iload_n B d_M_costOf_4 rfl (j := 1) rfl ?_
  refine ax_zald B d_M_costOf_5 (t := 2) (by decide) rfl hf (fun x2 hf => ?_)
  refine ax_if_eq B (tgt := 27) d_M_costOf_6 (by decide) hf (fun hf => ?_) (fun hf => ?_)
  · refine ax_lconst B (v := 0) (by decide) d_M_costOf_27 ?_
    refine ax_sub [] rfl ?_
    exact K_M_costOf_28 B hn hR hE hag M 0 hf
  · refine ax_aload_n B d_M_costOf_9 rfl (j := 0) rfl ?_
    refine ax_getR B d_M_costOf_10 k_M_99 rfl hf (fun x3 hf => ?_)
    refine ax_iload_n B d_M_costOf_13 rfl (j := 1) rfl ?_
    refine ax_iald B d_M_costOf_14 (t := 0) (by decide) rfl hf (fun x4 hf => ?_)
    refine ax_i2l B d_M_costOf_15 ?_
    refine ax_aload_n B d_M_costOf_16 rfl (j := 0) rfl ?_
    refine ax_getR B d_M_costOf_17 k_M_102 rfl hf (fun x5 hf => ?_)
    refine ax_iload_n B d_M_costOf_20 rfl (j := 1) rfl ?_
    refine ax_iald B d_M_costOf_21 (t := 0) (by decide) rfl hf (fun x6 hf => ?_)
    refine ax_i2l B d_M_costOf_22 ?_
    refine ax_lmul B d_M_costOf_23 ?_
    refine ax_goto B (tgt := 28) d_M_costOf_24 (by decide) ?_
    refine ax_sub [] rfl ?_
    exact K_M_costOf_28 B hn hR hE hag M ((x4.toInt64) * (x6.toInt64)) hf
