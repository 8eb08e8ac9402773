theorem dX15_feed_0 : decode cX15_feed 0 = .ok (.aload_n 0, 1) := by decide +kernel
theorem dX15_feed_1 : decode cX15_feed 1 = .ok (.getfield 166, 3) := by decide +kernel
theorem dX15_feed_4 : decode cX15_feed 4 = .ok (.bipush 20, 2) := by decide +kernel
theorem dX15_feed_6 : decode cX15_feed 6 = .ok (.iadd, 1) := by decide +kernel
theorem dX15_feed_7 : decode cX15_feed 7 = .ok (.sipush 3000, 3) := by decide +kernel
theorem dX15_feed_10 : decode cX15_feed 10 = .ok (.if_icmp .le 6, 3) := by decide +kernel
theorem dX15_feed_13 : decode cX15_feed 13 = .ok (.bipush (-3), 2) := by decide +kernel
theorem dX15_feed_15 : decode cX15_feed 15 = .ok (.ireturn, 1) := by decide +kernel
theorem dX15_feed_16 : decode cX15_feed 16 = .ok (.iconst 5, 1) := by decide +kernel
theorem dX15_feed_17 : decode cX15_feed 17 = .ok (.newarray .int, 2) := by decide +kernel
theorem dX15_feed_19 : decode cX15_feed 19 = .ok (.dup, 1) := by decide +kernel
theorem dX15_feed_20 : decode cX15_feed 20 = .ok (.iconst 0, 1) := by decide +kernel
theorem dX15_feed_21 : decode cX15_feed 21 = .ok (.iload_n 1, 1) := by decide +kernel
theorem dX15_feed_22 : decode cX15_feed 22 = .ok (.iastore, 1) := by decide +kernel
theorem dX15_feed_23 : decode cX15_feed 23 = .ok (.dup, 1) := by decide +kernel
theorem dX15_feed_24 : decode cX15_feed 24 = .ok (.iconst 1, 1) := by decide +kernel
theorem dX15_feed_25 : decode cX15_feed 25 = .ok (.iload_n 2, 1) := by decide +kernel
theorem dX15_feed_26 : decode cX15_feed 26 = .ok (.iastore, 1) := by decide +kernel
theorem dX15_feed_27 : decode cX15_feed 27 = .ok (.dup, 1) := by decide +kernel
theorem dX15_feed_28 : decode cX15_feed 28 = .ok (.iconst 2, 1) := by decide +kernel
theorem dX15_feed_29 : decode cX15_feed 29 = .ok (.iload_n 3, 1) := by decide +kernel
theorem dX15_feed_30 : decode cX15_feed 30 = .ok (.iastore, 1) := by decide +kernel
theorem dX15_feed_31 : decode cX15_feed 31 = .ok (.dup, 1) := by decide +kernel
theorem dX15_feed_32 : decode cX15_feed 32 = .ok (.iconst 3, 1) := by decide +kernel
theorem dX15_feed_33 : decode cX15_feed 33 = .ok (.iload 4, 2) := by decide +kernel
theorem dX15_feed_35 : decode cX15_feed 35 = .ok (.iastore, 1) := by decide +kernel
theorem dX15_feed_36 : decode cX15_feed 36 = .ok (.dup, 1) := by decide +kernel
theorem dX15_feed_37 : decode cX15_feed 37 = .ok (.iconst 4, 1) := by decide +kernel
theorem dX15_feed_38 : decode cX15_feed 38 = .ok (.iload 5, 2) := by decide +kernel
theorem dX15_feed_40 : decode cX15_feed 40 = .ok (.iastore, 1) := by decide +kernel
theorem dX15_feed_41 : decode cX15_feed 41 = .ok (.astore 6, 2) := by decide +kernel
theorem dX15_feed_43 : decode cX15_feed 43 = .ok (.iconst 0, 1) := by decide +kernel
theorem dX15_feed_44 : decode cX15_feed 44 = .ok (.istore 7, 2) := by decide +kernel
theorem dX15_feed_46 : decode cX15_feed 46 = .ok (.iload 7, 2) := by decide +kernel
theorem dX15_feed_48 : decode cX15_feed 48 = .ok (.bipush 20, 2) := by decide +kernel
theorem dX15_feed_50 : decode cX15_feed 50 = .ok (.if_icmp .ge 40, 3) := by decide +kernel
theorem dX15_feed_53 : decode cX15_feed 53 = .ok (.aload_n 0, 1) := by decide +kernel
theorem dX15_feed_54 : decode cX15_feed 54 = .ok (.getfield 31, 3) := by decide +kernel
theorem dX15_feed_57 : decode cX15_feed 57 = .ok (.aload_n 0, 1) := by decide +kernel
theorem dX15_feed_58 : decode cX15_feed 58 = .ok (.getfield 166, 3) := by decide +kernel
theorem dX15_feed_61 : decode cX15_feed 61 = .ok (.iload 7, 2) := by decide +kernel
theorem dX15_feed_63 : decode cX15_feed 63 = .ok (.iadd, 1) := by decide +kernel
theorem dX15_feed_64 : decode cX15_feed 64 = .ok (.aload 6, 2) := by decide +kernel
theorem dX15_feed_66 : decode cX15_feed 66 = .ok (.iload 7, 2) := by decide +kernel
theorem dX15_feed_68 : decode cX15_feed 68 = .ok (.iconst 4, 1) := by decide +kernel
theorem dX15_feed_69 : decode cX15_feed 69 = .ok (.idiv, 1) := by decide +kernel
theorem dX15_feed_70 : decode cX15_feed 70 = .ok (.iaload, 1) := by decide +kernel
theorem dX15_feed_71 : decode cX15_feed 71 = .ok (.bipush 24, 2) := by decide +kernel
theorem dX15_feed_73 : decode cX15_feed 73 = .ok (.bipush 8, 2) := by decide +kernel
theorem dX15_feed_75 : decode cX15_feed 75 = .ok (.iload 7, 2) := by decide +kernel
theorem dX15_feed_77 : decode cX15_feed 77 = .ok (.iconst 4, 1) := by decide +kernel
theorem dX15_feed_78 : decode cX15_feed 78 = .ok (.irem, 1) := by decide +kernel
theorem dX15_feed_79 : decode cX15_feed 79 = .ok (.imul, 1) := by decide +kernel
theorem dX15_feed_80 : decode cX15_feed 80 = .ok (.isub, 1) := by decide +kernel
theorem dX15_feed_81 : decode cX15_feed 81 = .ok (.ishr, 1) := by decide +kernel
theorem dX15_feed_82 : decode cX15_feed 82 = .ok (.i2b, 1) := by decide +kernel
theorem dX15_feed_83 : decode cX15_feed 83 = .ok (.bastore, 1) := by decide +kernel
theorem dX15_feed_84 : decode cX15_feed 84 = .ok (.iinc 7 1, 3) := by decide +kernel
theorem dX15_feed_87 : decode cX15_feed 87 = .ok (.goto (-41), 3) := by decide +kernel
theorem dX15_feed_90 : decode cX15_feed 90 = .ok (.aload_n 0, 1) := by decide +kernel
theorem dX15_feed_91 : decode cX15_feed 91 = .ok (.dup, 1) := by decide +kernel
theorem dX15_feed_92 : decode cX15_feed 92 = .ok (.getfield 166, 3) := by decide +kernel
theorem dX15_feed_95 : decode cX15_feed 95 = .ok (.bipush 20, 2) := by decide +kernel
theorem dX15_feed_97 : decode cX15_feed 97 = .ok (.iadd, 1) := by decide +kernel
theorem dX15_feed_98 : decode cX15_feed 98 = .ok (.putfield 166, 3) := by decide +kernel
theorem dX15_feed_101 : decode cX15_feed 101 = .ok (.aload_n 0, 1) := by decide +kernel
theorem dX15_feed_102 : decode cX15_feed 102 = .ok (.getfield 166, 3) := by decide +kernel
theorem dX15_feed_105 : decode cX15_feed 105 = .ok (.ireturn, 1) := by decide +kernel
theorem kt_1082 : Cond.arrayClass .int ∈ tb := tb_at (i := 136) (by decide +kernel) (by decide +kernel)
set_option maxHeartbeats 4000000 in
set_option maxRecDepth 100000 in
theorem s_X15_feed (l : Launch) (dC : Nat → ClassId) (dI : Nat → Nat → Nat) (cs : Nat → ClassId) (ty0 : TyM) (gm : Nat → Nat → Nat) (L0 : List Nat) (sz : Nat) (F : Nat → va_E) (h0 : Nat) (ρ : Nat) (ta : Nat) (ou : Nat) (so : Nat) (ad : Nat) (na : Nat) (va : Nat) (lc : Nat) (dm : Nat) (tg : Nat) (pe : Nat) (ml : Nat) (bg : Nat) (co : Nat) (sp : Nat) (nb0 : Nat) (nb1 : Nat) (nb2 : Nat) (pl : Nat) (se : Nat) (ke : Nat) (wi : Nat) (hs : Nat) (mo : Nat) (po : Nat) (nu : Nat) (pr : Nat) (sq : Nat) (xa : Nat) (sa : Nat) (n64 : Nat) (m64 : Nat) (ex : Nat) (wh : Nat) (sd : Nat) (tk : Nat) (hd : Nat) (ak : Nat) (ho : Nat) (ot : Nat) (sx : Nat) (s0 : Nat) (s1 : Nat) (s2 : Nat) (nf : Nat) (bd : Nat) (mm : Nat) (zt : Nat) (x1 : Int32) (x2 : Int32) (x3 : Int32) (x4 : Int32) (x5 : Int32) (hW : WTm ty0 gm L0) (hL_h0 : h0 ∈ L0) (hT_h0 : ty0 h0 = (15, ρ, [ta, ou, so, ad, na, va, lc, dm, tg, pe, ml, bg, co, sp, nb0, nb1, nb2, pl, se, ke, wi, hs, mo, po, nu, pr, sq, xa, sa, n64, m64, ex, wh, sd, tk, hd, ak, ho, ot, sx, s0, s1, s2, nf, bd, mm, zt])) : Met l yX15_feed (.code yX15_feed cX15_feed 8 (some .int) :: tb) ({ frames := 0, cells := 1, slots := 5, locals := 0 }) (va_Pc [.ref h0, .int x1, .int x2, .int x3, .int x4, .int x5] (PTm (dC, dI) cs ty0 gm L0 F sz)) (va_Qi (fun (r : Int32) (_ : Unit) => r = (if 2980 < zt then (-3) else nI (zt + 20))) (fun _ T9 => ∃ F2 : Nat → va_E, ∃ ty2 : TyM, ty2 = rtf ty0 h0 (15, ρ, [ta, ou, so, ad, na, va, lc, dm, tg, pe, ml, bg, co, sp, nb0, nb1, nb2, pl, se, ke, wi, hs, mo, po, nu, pr, sq, xa, sa, n64, m64, ex, wh, sd, tk, hd, ak, ho, ot, sx, s0, s1, s2, nf, bd, mm, (if 2980 < zt then zt else zt + 20)]) ∧ QTm (dC, dI) cs ty2 gm L0 [ρ, ρ + 1] F F2 (va_A (va_pl L0 F) sz) T9 ∧ WTm ty2 gm L0) (va_A (va_pl L0 F) sz)) 1 5 (va_A (va_pl L0 F) sz) := by
  refine Met.ofW (cc := cX15_feed) (maxL := 8) (ret := (some .int)) (by decide) rfl ?_
  intro p e s m args below meth c s₁ B hml hv
  obtain ⟨rfl, hsz, hP, hK, hD0, hE, hO⟩ := hv
  have hx := B.exec
  have hb := B.bytes
  have hr := B.returns
  have hts : ∀ w ∈ tb, w.before _ s = true := fun w h => atoms_spec (ws := .code yX15_feed cX15_feed 8 (some .int) :: tb) B.pre w (List.mem_cons_of_mem _ h)
  have hown : s.vm.findClass RX15 = some m.cls := findClass_of_methodNamed B.named
  have hlocks := B.notSynchronized
  subst hsz
  have hD := hD0.self (sz := s.heap.size)
  generalize hAe : va_A (va_pl L0 F) s.heap.size = A at hD ⊢
  have hA : ∀ q : Nat, s.heap.size ≤ q → A q := fun q h => by rw [← hAe]; exact Or.inr h
  have hS : va_S A s.heap s.heap [] := va_S.rf
  have hR : FR ty0 [ρ, ρ + 1] F F := FR.refl
  have hl := lv_entry ([.ref h0, .int x1, .int x2, .int x3, .int x4, .int x5]) (n := 8) (Nat.le_of_ble_eq_true rfl)
  rw [lg_entry_eq]
  generalize (lg_sl ([.ref h0, .int x1, .int x2, .int x3, .int x4, .int x5]) ++ List.replicate (8 - (lg_sl ([.ref h0, .int x1, .int x2, .int x3, .int x4, .int x5])).length) Slot.unset).toArray = ls at hl ⊢
  have hl : lv_has ls 8 [(0, .ref h0), (1, .int x1), (2, .int x2), (3, .int x3), (4, .int x4), (5, .int x5)] := hl
  obtain ⟨hi_1, ht_2, hi_3, ht_4, hi_5, ht_6, hi_7, ht_8, hi_9, ht_10, hi_11, ht_12, hi_13, ⟨r_14, ht_15⟩, hi_16, ⟨r_17, ht_18⟩, hi_19, ht_20, hi_21, ⟨r_22, ht_23⟩, hi_24, ht_25, hi_26, ht_27, hi_28, ht_29, hi_30, ht_31, hi_32, ht_33, hi_34, ht_35, hi_36, ht_37, hi_38, ⟨r_39, ht_40⟩, hi_41, ht_42, hi_43, ⟨x_44, y0_45, y1_46, y2_47, ht_48⟩, hi_49, ⟨x_50, y0_51, y1_52, y2_53, ht_54⟩, hi_55, ⟨x_56, y_57, w_58, u_59, bl_60, ht_61⟩, hi_62, ht_63, hi_64, ht_65, hi_66, ht_67, hi_68, ht_69, hi_70, ht_71, hi_72, ht_73, hi_74, ht_75, hi_76, ht_77, hi_78, ht_79, hi_80, ht_81, hi_82, ⟨r_83, ht_84⟩, hi_85, ⟨r_86, ht_87⟩, hi_88, ht_89, hi_90, ht_91, hi_92, ⟨r_93, ht_94⟩, hi_95, ⟨r_96, ht_97⟩, hi_98, ⟨r_99, ht_100⟩, hq_101, hq_102, hq_103, hq_104, hq_105, hgO, hgA, hgB⟩ := hW.mod hL_h0 hT_h0
  refine lv_aload_n hx hb dX15_feed_0 rfl (lv_at hl 0 rfl) ?_
  obtain ⟨zo_106, ze_107, v11_108, v12_109, v14_110, v15_111, v17_112, v18_113, v19_114, v20_115, v21_116, v22_117, v33_118, v52_119, v53_120, v54_121, hF_122, hq_123, hq_124, hq_125, hq_126⟩ := hO.mod hL_h0 hT_h0
  refine pg_get (ci := 15) (v := .int (nI zt)) (C := RX15) (T := TX15) (N := 59) hx hb hts it_15 hown hK hP hL_h0 hF_122 rfl 1 (by decide) (hts _ kt_1070) (fun _ h9 => h9) rfl dX15_feed_1 ?_
  refine lv_bipush (v := 20) hx hb dX15_feed_4 (by decide) ?_
  refine lv_iadd hx hb dX15_feed_6 ?_
  refine lv_topi (fun x_127 ex_127 => ?_)
  obtain rfl : x_127 = (nI (zt + 20)) := ex_127.trans (nI_add zt 20)
  refine lv_sipush (v := 3000) hx hb dX15_feed_7 (by decide) ?_
  refine lv_icmp_le (tgt := 16) hx hb dX15_feed_10 (by decide) (fun c_128 => ?_) (fun c_128 => ?_)
  ·
    have hi_129 : (zt + 20) ≤ 3000 := (nI_leI (a := (zt + 20)) (b := 3000) (by omega) (by omega)).mp c_128
    refine lv_iconst (v := 5) hx hb dX15_feed_16 (by decide) ?_
    refine va_newa (atype := .int) (ty := .int) (a0 := (5, .inl (fun _ => 0))) (N' := 5) hx hb (hts _ kt_1082) rfl hK hP hD hS hA (fun _ => rfl) (by decide) (by decide) (by show _ * 4 ≤ _; omega) (by show _ + 1 ≤ 1; omega) (by show _ + 5 ≤ 5; omega) dX15_feed_17 (fun q5 cA H hKn hP hD hS => ?_)
    have hq5 : q5 ∉ L0 := va_pl_fresh2 (X := []) hD
    obtain rfl : cA = cs 16 := cid_int hK hKn
    rw [va_pl_push hq5] at hP hD
    have hW0 := hW
    have hT0 := hT_h0
    have hL00 := hL_h0
    obtain ⟨L, hL9⟩ : ∃ L : List Nat, L = L0 ++ [q5] := ⟨_, rfl⟩
    obtain ⟨ty, hty9⟩ : ∃ t9 : TyM, t9 = rtf ty0 q5 (16, ρ, [5]) := ⟨_, rfl⟩
    obtain ⟨F5, hF5e⟩ : ∃ G : Nat → va_E, G = va_up F q5 (.inl (cs 16, 5, .inl (fun _ => 0))) := ⟨_, rfl⟩
    have hO : OKm cs ty gm L F5 := by rw [hL9, hty9, hF5e]; exact OKm.ext hO hq5 (shm.ints rtf_self ⟨_, rfl⟩)
    have hW : WTm ty gm L := by rw [hL9, hty9]; exact WTm.ext_ints hW hq5 ⟨by decide, by decide⟩
    have hR : FR ty [ρ, ρ + 1] F F5 := by rw [hty9, hF5e]; exact FR.refl.up rtf_self (by simp)
    rw [← hL9, ← hF5e] at hP hD
    have hL_h0 : h0 ∈ L := by rw [hL9]; exact List.mem_append_left _ hL00
    have hT_h0 : ty h0 = (15, ρ, [ta, ou, so, ad, na, va, lc, dm, tg, pe, ml, bg, co, sp, nb0, nb1, nb2, pl, se, ke, wi, hs, mo, po, nu, pr, sq, xa, sa, n64, m64, ex, wh, sd, tk, hd, ak, ho, ot, sx, s0, s1, s2, nf, bd, mm, zt]) := by rw [hty9]; exact rtf_in hq5 hL00 hT0
    have hi5 : q5 ∈ L := by rw [hL9]; exact List.mem_append_right _ (List.mem_singleton.mpr rfl)
    have ht5 : ty q5 = (16, ρ, [5]) := by rw [hty9]; exact rtf_self
    have hF5 : F5 q5 = .inl (cs 16, 5, .inl (fun _ => 0)) := by rw [hF5e]; exact up_self
    obtain ⟨hi_130, ht_131, hi_132, ht_133, hi_134, ht_135, hi_136, ht_137, hi_138, ht_139, hi_140, ht_141, hi_142, ⟨r_143, ht_144⟩, hi_145, ⟨r_146, ht_147⟩, hi_148, ht_149, hi_150, ⟨r_151, ht_152⟩, hi_153, ht_154, hi_155, ht_156, hi_157, ht_158, hi_159, ht_160, hi_161, ht_162, hi_163, ht_164, hi_165, ht_166, hi_167, ⟨r_168, ht_169⟩, hi_170, ht_171, hi_172, ⟨x_173, y0_174, y1_175, y2_176, ht_177⟩, hi_178, ⟨x_179, y0_180, y1_181, y2_182, ht_183⟩, hi_184, ⟨x_185, y_186, w_187, u_188, bl_189, ht_190⟩, hi_191, ht_192, hi_193, ht_194, hi_195, ht_196, hi_197, ht_198, hi_199, ht_200, hi_201, ht_202, hi_203, ht_204, hi_205, ht_206, hi_207, ht_208, hi_209, ht_210, hi_211, ⟨r_212, ht_213⟩, hi_214, ⟨r_215, ht_216⟩, hi_217, ht_218, hi_219, ht_220, hi_221, ⟨r_222, ht_223⟩, hi_224, ⟨r_225, ht_226⟩, hi_227, ⟨r_228, ht_229⟩, hq_230, hq_231, hq_232, hq_233, hq_234, hgO, hgA, hgB⟩ := hW.mod hL_h0 hT_h0
    refine lv_dup hx hb dX15_feed_19 rfl ?_
    refine lv_iconst (v := 0) hx hb dX15_feed_20 (by decide) ?_
    refine lv_iload_n hx hb dX15_feed_21 rfl (lv_at hl 1 rfl) ?_
    obtain ⟨hq_235, hq_236⟩ := hW.ints hi5 ht5
    refine pg_iast hx hb hK hP hD hS hi5 0 hF5 rfl (show vp_in (0 : Int32) 5 from (show vp_in (nI 0) 5 from vp_in_nI (by omega) (by omega))) dX15_feed_22 (fun H locs hP hD hS => ?_)
    obtain ⟨F_237, he_238, hP, hD, hO, hR⟩ : ∃ G, G = va_up F5 q5 (.inl (cs 16, 5, .inl (upd (fun _ => 0) (0 : Int32).toNatClampNeg (x1)))) ∧ va_P (dC, dI) vwCl (va_pl L G) H ∧ va_D A (va_pl L G) ∧ OKm cs ty gm L G ∧ FR ty [ρ, ρ + 1] F G := ⟨_, rfl, hP, hD, hO.up (shm.ints ht5 ⟨_, rfl⟩), hR.up ht5 (by simp)⟩
    have hF_239 : F_237 q5 = .inl (cs 16, 5, .inl (upd (fun _ => 0) (0 : Int32).toNatClampNeg (x1))) := by rw [he_238]; exact up_self
    obtain ⟨f_240, hF_239⟩ : ∃ f : Nat → Int32, F_237 q5 = .inl (cs 16, 5, .inl f) := ⟨_, hF_239⟩
    refine lv_dup hx hb dX15_feed_23 rfl ?_
    refine lv_iconst (v := 1) hx hb dX15_feed_24 (by decide) ?_
    refine lv_iload_n hx hb dX15_feed_25 rfl (lv_at hl 2 rfl) ?_
    refine pg_iast hx hb hK hP hD hS hi5 0 hF_239 rfl (show vp_in (1 : Int32) 5 from (show vp_in (nI 1) 5 from vp_in_nI (by omega) (by omega))) dX15_feed_26 (fun H locs hP hD hS => ?_)
    obtain ⟨F_241, he_242, hP, hD, hO, hR⟩ : ∃ G, G = va_up F_237 q5 (.inl (cs 16, 5, .inl (upd f_240 (1 : Int32).toNatClampNeg (x2)))) ∧ va_P (dC, dI) vwCl (va_pl L G) H ∧ va_D A (va_pl L G) ∧ OKm cs ty gm L G ∧ FR ty [ρ, ρ + 1] F G := ⟨_, rfl, hP, hD, hO.up (shm.ints ht5 ⟨_, rfl⟩), hR.up ht5 (by simp)⟩
    have hF_243 : F_241 q5 = .inl (cs 16, 5, .inl (upd f_240 (1 : Int32).toNatClampNeg (x2))) := by rw [he_242]; exact up_self
    obtain ⟨f_244, hF_243⟩ : ∃ f : Nat → Int32, F_241 q5 = .inl (cs 16, 5, .inl f) := ⟨_, hF_243⟩
    refine lv_dup hx hb dX15_feed_27 rfl ?_
    refine lv_iconst (v := 2) hx hb dX15_feed_28 (by decide) ?_
    refine lv_iload_n hx hb dX15_feed_29 rfl (lv_at hl 3 rfl) ?_
    refine pg_iast hx hb hK hP hD hS hi5 0 hF_243 rfl (show vp_in (2 : Int32) 5 from (show vp_in (nI 2) 5 from vp_in_nI (by omega) (by omega))) dX15_feed_30 (fun H locs hP hD hS => ?_)
    obtain ⟨F_245, he_246, hP, hD, hO, hR⟩ : ∃ G, G = va_up F_241 q5 (.inl (cs 16, 5, .inl (upd f_244 (2 : Int32).toNatClampNeg (x3)))) ∧ va_P (dC, dI) vwCl (va_pl L G) H ∧ va_D A (va_pl L G) ∧ OKm cs ty gm L G ∧ FR ty [ρ, ρ + 1] F G := ⟨_, rfl, hP, hD, hO.up (shm.ints ht5 ⟨_, rfl⟩), hR.up ht5 (by simp)⟩
    have hF_247 : F_245 q5 = .inl (cs 16, 5, .inl (upd f_244 (2 : Int32).toNatClampNeg (x3))) := by rw [he_246]; exact up_self
    obtain ⟨f_248, hF_247⟩ : ∃ f : Nat → Int32, F_245 q5 = .inl (cs 16, 5, .inl f) := ⟨_, hF_247⟩
    refine lv_dup hx hb dX15_feed_31 rfl ?_
    refine lv_iconst (v := 3) hx hb dX15_feed_32 (by decide) ?_
    refine lv_iload hx hb dX15_feed_33 (lv_at hl 4 rfl) ?_
    refine pg_iast hx hb hK hP hD hS hi5 0 hF_247 rfl (show vp_in (3 : Int32) 5 from (show vp_in (nI 3) 5 from vp_in_nI (by omega) (by omega))) dX15_feed_35 (fun H locs hP hD hS => ?_)
    obtain ⟨F_249, he_250, hP, hD, hO, hR⟩ : ∃ G, G = va_up F_245 q5 (.inl (cs 16, 5, .inl (upd f_248 (3 : Int32).toNatClampNeg (x4)))) ∧ va_P (dC, dI) vwCl (va_pl L G) H ∧ va_D A (va_pl L G) ∧ OKm cs ty gm L G ∧ FR ty [ρ, ρ + 1] F G := ⟨_, rfl, hP, hD, hO.up (shm.ints ht5 ⟨_, rfl⟩), hR.up ht5 (by simp)⟩
    have hF_251 : F_249 q5 = .inl (cs 16, 5, .inl (upd f_248 (3 : Int32).toNatClampNeg (x4))) := by rw [he_250]; exact up_self
    obtain ⟨f_252, hF_251⟩ : ∃ f : Nat → Int32, F_249 q5 = .inl (cs 16, 5, .inl f) := ⟨_, hF_251⟩
    refine lv_dup hx hb dX15_feed_36 rfl ?_
    refine lv_iconst (v := 4) hx hb dX15_feed_37 (by decide) ?_
    refine lv_iload hx hb dX15_feed_38 (lv_at hl 5 rfl) ?_
    refine pg_iast hx hb hK hP hD hS hi5 0 hF_251 rfl (show vp_in (4 : Int32) 5 from (show vp_in (nI 4) 5 from vp_in_nI (by omega) (by omega))) dX15_feed_40 (fun H locs hP hD hS => ?_)
    obtain ⟨F_253, he_254, hP, hD, hO, hR⟩ : ∃ G, G = va_up F_249 q5 (.inl (cs 16, 5, .inl (upd f_252 (4 : Int32).toNatClampNeg (x5)))) ∧ va_P (dC, dI) vwCl (va_pl L G) H ∧ va_D A (va_pl L G) ∧ OKm cs ty gm L G ∧ FR ty [ρ, ρ + 1] F G := ⟨_, rfl, hP, hD, hO.up (shm.ints ht5 ⟨_, rfl⟩), hR.up ht5 (by simp)⟩
    have hF_255 : F_253 q5 = .inl (cs 16, 5, .inl (upd f_252 (4 : Int32).toNatClampNeg (x5))) := by rw [he_254]; exact up_self
    obtain ⟨f_256, hF_255⟩ : ∃ f : Nat → Int32, F_253 q5 = .inl (cs 16, 5, .inl f) := ⟨_, hF_255⟩
    refine lv_astore (lv' := [(6, .ref q5), (0, .ref h0), (1, .int x1), (2, .int x2), (3, .int x3), (4, .int x4), (5, .int x5)]) hx hb dX15_feed_41 hl (by decide) rfl (fun ls hl => ?_)
    refine lv_iconst (v := 0) hx hb dX15_feed_43 (by decide) ?_
    refine lv_istore (lv' := [(7, .int 0), (6, .ref q5), (0, .ref h0), (1, .int x1), (2, .int x2), (3, .int x3), (4, .int x4), (5, .int x5)]) hx hb dX15_feed_44 hl (by decide) rfl (fun ls hl => ?_)
    refine W.widen (k := 1) (n := 5) (by omega) (by omega) ?_
    refine pl_loopm (σ := Nat) A (dC, dI) cs ty gm L [ρ, ρ + 1] F 46 8 (fun j => [(7, .int (nI j)), (6, .ref q5), (0, .ref h0)]) (fun j => []) (fun j _ => j ≤ 20) (fun j => 20 - j) ?_ 0 F_253 (by omega) hO hR _ _ hP hD hS ls (lv_sub hl [0, 1, 2] rfl)
    rintro j F_257 hv_258 hO hR ih_259 H locs hP hD hS ls hl
    have hl : lv_has ls 8 [(7, .int (nI j)), (6, .ref q5), (0, .ref h0)] := hl
    have hv_258 : j ≤ 20 := hv_258
    refine W.eq (g2 := F0 m 46 ls []) rfl ?_
    refine lv_iload hx hb dX15_feed_46 (lv_at hl 0 rfl) ?_
    refine lv_bipush (v := 20) hx hb dX15_feed_48 (by decide) ?_
    refine lv_icmp_ge (tgt := 90) hx hb dX15_feed_50 (by decide) (fun c_260 => ?_) (fun c_260 => ?_)
    ·
      have hi_261 : 20 ≤ j := leN (N := 20) c_260
      refine lv_aload_n hx hb dX15_feed_90 rfl (lv_at hl 2 rfl) ?_
      refine lv_dup hx hb dX15_feed_91 rfl ?_
      obtain ⟨zo_262, ze_263, v11_264, v12_265, v14_266, v15_267, v17_268, v18_269, v19_270, v20_271, v21_272, v22_273, v33_274, v52_275, v53_276, v54_277, hF_278, hq_279, hq_280, hq_281, hq_282⟩ := hO.mod hL_h0 hT_h0
      refine pg_get (ci := 15) (v := .int (nI zt)) (C := RX15) (T := TX15) (N := 59) hx hb hts it_15 hown hK hP hL_h0 hF_278 rfl 1 (by decide) (hts _ kt_1070) (fun _ h9 => h9) rfl dX15_feed_92 ?_
      refine lv_bipush (v := 20) hx hb dX15_feed_95 (by decide) ?_
      refine lv_iadd hx hb dX15_feed_97 ?_
      refine lv_topi (fun x_283 ex_283 => ?_)
      obtain rfl : x_283 = (nI (zt + 20)) := ex_283.trans (nI_add zt 20)
      refine pg_put (ci := 15) (v := .int (nI (zt + 20))) (ty := .int) (C := RX15) (T := TX15) (N := 59) hx hb hts it_15 tyX15 tyX15_ok nmX15 hown hK hP hD hS hL_h0 hF_278 rfl 1 (by decide) (hts _ kt_1070) (fun _ h9 => h9) rfl (by decide +kernel) (rfl) (rfl) (Nat.le_of_ble_eq_true rfl) dX15_feed_98 (fun H locs hP hD hS => ?_)
      obtain ⟨F_284, he_285, hP, hD, hR⟩ : ∃ G, G = va_up F_257 h0 (.inr (15, (.ref ta) :: (.int (nI (zt + 20))) :: (.int (nI zo_262)) :: (.int (nI ze_263)) :: (.ref ou) :: (.ref so) :: (.ref ad) :: (.ref na) :: (.ref va) :: (.ref lc) :: (.ref dm) :: (.int v11_264) :: (.int v12_265) :: (.ref tg) :: (.int v14_266) :: (.int v15_267) :: (.ref pe) :: (.int v17_268) :: (.int v18_269) :: (.int v19_270) :: (.int v20_271) :: (.int v21_272) :: (.int v22_273) :: (.ref ml) :: (.ref bg) :: (.ref co) :: (.ref sp) :: (.ref nb0) :: (.ref nb1) :: (.ref nb2) :: (.int (nI nf)) :: (.int (nI bd)) :: (.int (nI mm)) :: (.int v33_274) :: (.ref pl) :: (.ref se) :: (.ref ke) :: (.ref wi) :: (.ref hs) :: (.ref mo) :: (.ref po) :: (.ref nu) :: (.ref pr) :: (.ref sq) :: (.ref xa) :: (.ref sa) :: (.ref n64) :: (.ref m64) :: (.ref ex) :: (.ref wh) :: (.ref sd) :: (.ref tk) :: (.int v52_275) :: (.int v53_276) :: (.int v54_277) :: (.ref hd) :: (.ref ak) :: (.ref ho) :: (.ref ot) :: [])) ∧ va_P (dC, dI) vwCl (va_pl L G) H ∧ va_D A (va_pl L G) ∧ FR ty [ρ, ρ + 1] F G := ⟨_, rfl, hP, hD, hR.up hT_h0 (by simp)⟩
      obtain ⟨ty, hty, hT_h0, hW, hO, hR⟩ : ∃ t9 : TyM, t9 = rtf ty h0 (15, ρ, [ta, ou, so, ad, na, va, lc, dm, tg, pe, ml, bg, co, sp, nb0, nb1, nb2, pl, se, ke, wi, hs, mo, po, nu, pr, sq, xa, sa, n64, m64, ex, wh, sd, tk, hd, ak, ho, ot, sx, s0, s1, s2, nf, bd, mm, zt + 20]) ∧ t9 h0 = (15, ρ, [ta, ou, so, ad, na, va, lc, dm, tg, pe, ml, bg, co, sp, nb0, nb1, nb2, pl, se, ke, wi, hs, mo, po, nu, pr, sq, xa, sa, n64, m64, ex, wh, sd, tk, hd, ak, ho, ot, sx, s0, s1, s2, nf, bd, mm, zt + 20]) ∧ WTm t9 gm L ∧ OKm cs t9 gm L F_284 ∧ FR t9 [ρ, ρ + 1] F F_284 := ⟨_, rfl, rtf_self, hW.zt hL_h0 hT_h0 (by omega), (by rw [he_285]; exact OKm.retype hO hT_h0 (shm.mod rtf_self ⟨zo_262, ze_263, v11_264, v12_265, v14_266, v15_267, v17_268, v18_269, v19_270, v20_271, v21_272, v22_273, v33_274, v52_275, v53_276, v54_277, rfl, (by first | omega | assumption | exact Or.inl rfl | exact Or.inr rfl), (by first | omega | assumption | exact Or.inl rfl | exact Or.inr rfl), (by first | omega | assumption | exact Or.inl rfl | exact Or.inr rfl), (by first | omega | assumption | exact Or.inl rfl | exact Or.inr rfl)⟩)), FR.retype hT_h0 hR⟩
      have hF_286 : F_284 h0 = .inr (15, (.ref ta) :: (.int (nI (zt + 20))) :: (.int (nI zo_262)) :: (.int (nI ze_263)) :: (.ref ou) :: (.ref so) :: (.ref ad) :: (.ref na) :: (.ref va) :: (.ref lc) :: (.ref dm) :: (.int v11_264) :: (.int v12_265) :: (.ref tg) :: (.int v14_266) :: (.int v15_267) :: (.ref pe) :: (.int v17_268) :: (.int v18_269) :: (.int v19_270) :: (.int v20_271) :: (.int v21_272) :: (.int v22_273) :: (.ref ml) :: (.ref bg) :: (.ref co) :: (.ref sp) :: (.ref nb0) :: (.ref nb1) :: (.ref nb2) :: (.int (nI nf)) :: (.int (nI bd)) :: (.int (nI mm)) :: (.int v33_274) :: (.ref pl) :: (.ref se) :: (.ref ke) :: (.ref wi) :: (.ref hs) :: (.ref mo) :: (.ref po) :: (.ref nu) :: (.ref pr) :: (.ref sq) :: (.ref xa) :: (.ref sa) :: (.ref n64) :: (.ref m64) :: (.ref ex) :: (.ref wh) :: (.ref sd) :: (.ref tk) :: (.int v52_275) :: (.int v53_276) :: (.int v54_277) :: (.ref hd) :: (.ref ak) :: (.ref ho) :: (.ref ot) :: []) := by rw [he_285]; exact up_self
      obtain ⟨hi_287, ht_288, hi_289, ht_290, hi_291, ht_292, hi_293, ht_294, hi_295, ht_296, hi_297, ht_298, hi_299, ⟨r_300, ht_301⟩, hi_302, ⟨r_303, ht_304⟩, hi_305, ht_306, hi_307, ⟨r_308, ht_309⟩, hi_310, ht_311, hi_312, ht_313, hi_314, ht_315, hi_316, ht_317, hi_318, ht_319, hi_320, ht_321, hi_322, ht_323, hi_324, ⟨r_325, ht_326⟩, hi_327, ht_328, hi_329, ⟨x_330, y0_331, y1_332, y2_333, ht_334⟩, hi_335, ⟨x_336, y0_337, y1_338, y2_339, ht_340⟩, hi_341, ⟨x_342, y_343, w_344, u_345, bl_346, ht_347⟩, hi_348, ht_349, hi_350, ht_351, hi_352, ht_353, hi_354, ht_355, hi_356, ht_357, hi_358, ht_359, hi_360, ht_361, hi_362, ht_363, hi_364, ht_365, hi_366, ht_367, hi_368, ⟨r_369, ht_370⟩, hi_371, ⟨r_372, ht_373⟩, hi_374, ht_375, hi_376, ht_377, hi_378, ⟨r_379, ht_380⟩, hi_381, ⟨r_382, ht_383⟩, hi_384, ⟨r_385, ht_386⟩, hq_387, hq_388, hq_389, hq_390, hq_391, hgO, hgA, hgB⟩ := hW.mod hL_h0 hT_h0
      refine lv_aload_n hx hb dX15_feed_101 rfl (lv_at hl 2 rfl) ?_
      refine pg_get (ci := 15) (v := .int (nI (zt + 20))) (C := RX15) (T := TX15) (N := 59) hx hb hts it_15 hown hK hP hL_h0 hF_286 rfl 1 (by decide) (hts _ kt_1070) (fun _ h9 => h9) rfl dX15_feed_102 ?_
      have hq0 : h0 ≠ q5 := fun w => hq5 (w ▸ hL00)
      have hO3 : OKm cs (rtf (rtf ty0 h0 (15, ρ, [ta, ou, so, ad, na, va, lc, dm, tg, pe, ml, bg, co, sp, nb0, nb1, nb2, pl, se, ke, wi, hs, mo, po, nu, pr, sq, xa, sa, n64, m64, ex, wh, sd, tk, hd, ak, ho, ot, sx, s0, s1, s2, nf, bd, mm, zt + 20])) q5 (16, ρ, [5])) gm (L0 ++ [q5]) F_284 := by rw [rtf_comm hq0, ← hty9, ← hty, ← hL9]; exact hO
      have hO2 : OKm cs (rtf ty0 h0 (15, ρ, [ta, ou, so, ad, na, va, lc, dm, tg, pe, ml, bg, co, sp, nb0, nb1, nb2, pl, se, ke, wi, hs, mo, po, nu, pr, sq, xa, sa, n64, m64, ex, wh, sd, tk, hd, ak, ho, ot, sx, s0, s1, s2, nf, bd, mm, zt + 20])) gm L0 (va_up F_284 q5 (F q5)) := OKm.cut hq5 (by simp) hO3
      have hR3 : FR (rtf (rtf ty0 h0 (15, ρ, [ta, ou, so, ad, na, va, lc, dm, tg, pe, ml, bg, co, sp, nb0, nb1, nb2, pl, se, ke, wi, hs, mo, po, nu, pr, sq, xa, sa, n64, m64, ex, wh, sd, tk, hd, ak, ho, ot, sx, s0, s1, s2, nf, bd, mm, zt + 20])) q5 (16, ρ, [5])) [ρ, ρ + 1] F F_284 := by rw [rtf_comm hq0, ← hty9, ← hty]; exact hR
      have hR2 := FR.cut hR3
      have hP2 : va_P (dC, dI) vwCl (va_pl L0 (va_up F_284 q5 (F q5))) H := va_P.by (ws := va_pl (L0 ++ [q5]) F_284) (by rw [← hL9]; exact hP) (fun k => k) (pl_sub hq5)
      have hD2 : va_D A (va_pl L0 (va_up F_284 q5 (F q5))) := va_D.by (ws := va_pl (L0 ++ [q5]) F_284) (by rw [← hL9]; exact hD) (fun k => k) (pl_sub hq5) (fun i j _ _ h => h)
      have hW2 : WTm (rtf ty0 h0 (15, ρ, [ta, ou, so, ad, na, va, lc, dm, tg, pe, ml, bg, co, sp, nb0, nb1, nb2, pl, se, ke, wi, hs, mo, po, nu, pr, sq, xa, sa, n64, m64, ex, wh, sd, tk, hd, ak, ho, ot, sx, s0, s1, s2, nf, bd, mm, zt + 20])) gm L0 := hW0.zt hL00 hT0 (by omega)
      refine W.widen (k := 1) (n := 5) (by omega) (by omega) ?_
      exact W.iret (v := (nI (zt + 20))) hx hb hr (fun t ht hWm => ⟨⟨(nI (zt + 20)), (), rfl, (by rw [if_neg (show ¬ 2980 < zt from by omega)]), ⟨va_up F_284 q5 (F q5), rtf ty0 h0 (15, ρ, [ta, ou, so, ad, na, va, lc, dm, tg, pe, ml, bg, co, sp, nb0, nb1, nb2, pl, se, ke, wi, hs, mo, po, nu, pr, sq, xa, sa, n64, m64, ex, wh, sd, tk, hd, ak, ho, ot, sx, s0, s1, s2, nf, bd, mm, zt + 20]), (by rw [if_neg (show ¬ 2980 < zt from by omega)]), QTm.mk ht hP2 hD2 hO2 hR2, hW2⟩⟩, hS.F ht⟩) hS.2.2 dX15_feed_105
    ·
      have hi_392 : j < 20 := ltN (N := 20) c_260
      refine lv_aload_n hx hb dX15_feed_53 rfl (lv_at hl 2 rfl) ?_
      obtain ⟨zo_393, ze_394, v11_395, v12_396, v14_397, v15_398, v17_399, v18_400, v19_401, v20_402, v21_403, v22_404, v33_405, v52_406, v53_407, v54_408, hF_409, hq_410, hq_411, hq_412, hq_413⟩ := hO.mod hL_h0 hT_h0
      refine pg_get (ci := 15) (v := .ref ta) (C := RX15) (T := TX15) (N := 59) hx hb hts it_15 hown hK hP hL_h0 hF_409 rfl 0 (by decide) (hts _ kt_1075) (fun _ h9 => h9) rfl dX15_feed_54 ?_
      refine lv_aload_n hx hb dX15_feed_57 rfl (lv_at hl 2 rfl) ?_
      refine pg_get (ci := 15) (v := .int (nI zt)) (C := RX15) (T := TX15) (N := 59) hx hb hts it_15 hown hK hP hL_h0 hF_409 rfl 1 (by decide) (hts _ kt_1070) (fun _ h9 => h9) rfl dX15_feed_58 ?_
      refine lv_iload hx hb dX15_feed_61 (lv_at hl 0 rfl) ?_
      refine lv_iadd hx hb dX15_feed_63 ?_
      refine lv_topi (fun x_414 ex_414 => ?_)
      obtain rfl : x_414 = (nI (zt + j)) := ex_414.trans (nI_add zt j)
      refine lv_aload hx hb dX15_feed_64 (lv_at hl 1 rfl) ?_
      refine lv_iload hx hb dX15_feed_66 (lv_at hl 0 rfl) ?_
      refine lv_iconst (v := 4) hx hb dX15_feed_68 (by decide) ?_
      refine lv_idiv hx hb dX15_feed_69 (by decide) ?_
      refine lv_topi (fun x_415 ex_415 => ?_)
      obtain rfl : x_415 = (nI (j / 4)) := ex_415.trans (pk_div (d := 4) (by omega) (by omega) (by omega))
      obtain ⟨f_416, hF_417⟩ := hO.ints hi5 ht5
      refine pg_iald hx hb hK hP hi5 0 hF_417 rfl (vp_in_nI (by omega) (by omega)) dX15_feed_70 ?_
      refine lv_topi (fun x_418 _ => ?_)
      refine lv_bipush (v := 24) hx hb dX15_feed_71 (by decide) ?_
      refine lv_bipush (v := 8) hx hb dX15_feed_73 (by decide) ?_
      refine lv_iload hx hb dX15_feed_75 (lv_at hl 0 rfl) ?_
      refine lv_iconst (v := 4) hx hb dX15_feed_77 (by decide) ?_
      refine lv_irem hx hb dX15_feed_78 (by decide) ?_
      refine lv_topi (fun x_419 ex_419 => ?_)
      obtain rfl : x_419 = (nI (j % 4)) := ex_419.trans (pk_rem (a := j) (d := 4) (by omega) (by omega) (by omega))
      refine lv_imul hx hb dX15_feed_79 ?_
      refine lv_topi (fun x_420 ex_420 => ?_)
      obtain rfl : x_420 = (nI (8 * (j % 4))) := ex_420.trans (pk_mul 8 (j % 4))
      refine lv_isub hx hb dX15_feed_80 ?_
      refine lv_topi (fun x_421 ex_421 => ?_)
      obtain rfl : x_421 = (24 - (nI (8 * (j % 4)))) := ex_421.trans (rfl)
      refine lv_ishr hx hb dX15_feed_81 ?_
      refine lv_topi (fun x_422 _ => ?_)
      refine lv_i2b hx hb dX15_feed_82 rfl ?_
      refine lv_topi (fun x_423 _ => ?_)
      obtain ⟨hq_424, hq_425⟩ := hW.octs hi_130 ht_131
      obtain ⟨f_426, hF_427, hq_428⟩ := hO.octs hi_130 ht_131
      refine pg_bast hx hb hK hP hD hS hi_130 1 hF_427 rfl (vp_in_nI (by omega) (by omega)) dX15_feed_83 (fun H locs hP hD hS => ?_)
      obtain ⟨F_429, he_430, hP, hD, hO, hR⟩ : ∃ G, G = va_up F_257 ta (.inl (cs 17, 3000, .inl (upd f_426 ((nI (zt + j))).toNatClampNeg (vp_nar .byte (x_423))))) ∧ va_P (dC, dI) vwCl (va_pl L G) H ∧ va_D A (va_pl L G) ∧ OKm cs ty gm L G ∧ FR ty [ρ, ρ + 1] F G := ⟨_, rfl, hP, hD, hO.up (shm.octs ht_131 ⟨_, rfl, bfm_upd hq_428 _ _⟩), hR.up ht_131 (by simp)⟩
      have hF_431 : F_429 ta = .inl (cs 17, 3000, .inl (upd f_426 ((nI (zt + j))).toNatClampNeg (vp_nar .byte (x_423)))) := by rw [he_430]; exact up_self
      have hF_432 : F_429 h0 = .inr (15, (.ref ta) :: (.int (nI zt)) :: (.int (nI zo_393)) :: (.int (nI ze_394)) :: (.ref ou) :: (.ref so) :: (.ref ad) :: (.ref na) :: (.ref va) :: (.ref lc) :: (.ref dm) :: (.int v11_395) :: (.int v12_396) :: (.ref tg) :: (.int v14_397) :: (.int v15_398) :: (.ref pe) :: (.int v17_399) :: (.int v18_400) :: (.int v19_401) :: (.int v20_402) :: (.int v21_403) :: (.int v22_404) :: (.ref ml) :: (.ref bg) :: (.ref co) :: (.ref sp) :: (.ref nb0) :: (.ref nb1) :: (.ref nb2) :: (.int (nI nf)) :: (.int (nI bd)) :: (.int (nI mm)) :: (.int v33_405) :: (.ref pl) :: (.ref se) :: (.ref ke) :: (.ref wi) :: (.ref hs) :: (.ref mo) :: (.ref po) :: (.ref nu) :: (.ref pr) :: (.ref sq) :: (.ref xa) :: (.ref sa) :: (.ref n64) :: (.ref m64) :: (.ref ex) :: (.ref wh) :: (.ref sd) :: (.ref tk) :: (.int v52_406) :: (.int v53_407) :: (.int v54_408) :: (.ref hd) :: (.ref ak) :: (.ref ho) :: (.ref ot) :: []) := by rw [he_430, up_ne (ne_ty hT_h0 ht_131 (by simp))]; exact hF_409
      have hF_433 : F_429 q5 = .inl (cs 16, 5, .inl f_416) := by rw [he_430, up_ne (ne_ty ht5 ht_131 (by simp))]; exact hF_417
      obtain ⟨f_434, hF_431, hq_435⟩ : ∃ f : Nat → Int32, F_429 ta = .inl (cs 17, 3000, .inl f) ∧ BFm f := ⟨_, hF_431, bfm_upd hq_428 _ _⟩
      refine lv_iinc (v := (nI (j + 1))) (lv' := [(7, .int (nI (j + 1))), (6, .ref q5), (0, .ref h0)]) hx hb dX15_feed_84 hl (k := 0) rfl (nI_1 _) (by decide) rfl (fun ls hl => ?_)
      refine lv_goto (tgt := 46) hx hb dX15_feed_87 (by decide) ?_
      refine W.widen (k := 1) (n := 5) (by omega) (by omega) ?_
      exact ih_259 (j + 1) F_429 (by first | omega | exact ⟨by omega, by omega⟩ | trivial) (by show 20 - (j + 1) < 20 - j; omega) hO hR _ _ hP hD hS ls (lv_sub hl [0, 1, 2] rfl)
  ·
    have hi_436 : 3000 < (zt + 20) := Nat.not_le.mp (fun q => c_128 ((nI_leI (a := (zt + 20)) (b := 3000) (by omega) (by omega)).mpr q))
    refine lv_bipush (v := (-3)) hx hb dX15_feed_13 (by decide) ?_
    refine W.widen (k := 1) (n := 5) (by omega) (by omega) ?_
    exact W.iret (v := (-3)) hx hb hr (fun t ht hWm => ⟨⟨(-3), (), rfl, (by rw [if_pos (show 2980 < zt from by omega)]), ⟨F, ty0, (by rw [if_pos (show 2980 < zt from by omega)]; exact (rtf_id hT_h0).symm), QTm.mk ht hP hD hO hR, hW⟩⟩, hS.F ht⟩) hS.2.2 dX15_feed_15
