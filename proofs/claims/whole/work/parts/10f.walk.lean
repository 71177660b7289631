def f_X6_makeBows (σ : Mm) (p1 : Int32) (p2 : Int32) : Option (Mm × Int32) :=
  chk (inb p1 3) ((if (σ 2 p1.toNatClampNeg) = 0 then some (σ, 0) else (if p2 = 1 then bn1 (f_X6_is σ p1 0 4) (fun σ30 r30 => (if r30 = 0 then chk (inb p1 3) (bn0 (lq1 (fun (σ33 : Mm) (v33_3 : Int32) => (((if v33_3 < 0 then some (.inr σ33) else bn0 (lq1 (fun (σ47 : Mm) (v47_4 : Int32) => (((if 2 ≤ v47_4 then some (.inr σ47) else chk (inb p1 3) (bn1 ((if v33_3 = ((σ47 2 p1.toNatClampNeg) - 1) then some (σ47, 0) else bn1 (f_X6_goes σ47 p1 (v33_3 + 1) v47_4 0) (fun σ57 r57 => some (σ57, r57))) : Option (Mm × Int32)) (fun σ51 w51_0 => chk (inb p1 3) (bn1 ((if v33_3 = ((σ51 2 p1.toNatClampNeg) - 1) then some (σ51, 0) else bn1 (f_X6_goes σ51 p1 (v33_3 + 1) v47_4 1) (fun σ56 r56 => some (σ56, r56))) : Option (Mm × Int32)) (fun σ53 w53_0 => bn1 ((if w53_0 ≤ w51_0 then some (σ53, w53_0) else some (σ53, w51_0)) : Option (Mm × Int32)) (fun σ54 w54_0 => chk (inb ((2 * v33_3) + v47_4) 24) (nm (ms σ54 16 ((2 * v33_3) + v47_4).toNatClampNeg w54_0) (fun σ55 => some (.inl (σ55, (v47_4 + 1)))))))))))) : Option ((Mm × Int32) ⊕ (Mm)))) fu σ33 0) (fun σ48 => some (.inl (σ48, (v33_3 + (-1))))))) : Option ((Mm × Int32) ⊕ (Mm)))) fu σ30 ((σ30 2 p1.toNatClampNeg) - 1)) (fun σ34 => chk (inb (12 * p1) 36) (nm (ms σ34 17 (12 * p1).toNatClampNeg p2) (fun σ35 => bn0 (lq1 (fun (σ36 : Mm) (v36_3 : Int32) => ((chk (inb p1 3) ((if (σ36 2 p1.toNatClampNeg) ≤ v36_3 then some (.inr σ36) else chk (inb (((12 * p1) + v36_3) - 1) 36) (bn1 (f_X6_goes σ36 p1 v36_3 (σ36 17 (((12 * p1) + v36_3) - 1).toNatClampNeg) 0) (fun σ42 r42 => chk (inb (((2 * v36_3) - 2) + (σ36 17 (((12 * p1) + v36_3) - 1).toNatClampNeg)) 24) (bn1 ((if r42 = (σ42 16 (((2 * v36_3) - 2) + (σ36 17 (((12 * p1) + v36_3) - 1).toNatClampNeg)).toNatClampNeg) then some (σ42, 0) else some (σ42, 1)) : Option (Mm × Int32)) (fun σ44 w44_0 => chk (inb ((12 * p1) + v36_3) 36) (nm (ms σ44 17 ((12 * p1) + v36_3).toNatClampNeg w44_0) (fun σ45 => some (.inl (σ45, (v36_3 + 1)))))))))))) : Option ((Mm × Int32) ⊕ (Mm)))) fu σ35 1) (fun σ37 => chk (inb p2 24) (some (σ37, (σ37 16 p2.toNatClampNeg)))))))) else some (σ30, (-3)))) else chk (inb p1 3) (bn0 (lq1 (fun (σ5 : Mm) (v5_3 : Int32) => (((if v5_3 < 0 then some (.inr σ5) else bn0 (lq1 (fun (σ19 : Mm) (v19_4 : Int32) => (((if 2 ≤ v19_4 then some (.inr σ19) else chk (inb p1 3) (bn1 ((if v5_3 = ((σ19 2 p1.toNatClampNeg) - 1) then some (σ19, 0) else bn1 (f_X6_goes σ19 p1 (v5_3 + 1) v19_4 0) (fun σ29 r29 => some (σ29, r29))) : Option (Mm × Int32)) (fun σ23 w23_0 => chk (inb p1 3) (bn1 ((if v5_3 = ((σ23 2 p1.toNatClampNeg) - 1) then some (σ23, 0) else bn1 (f_X6_goes σ23 p1 (v5_3 + 1) v19_4 1) (fun σ28 r28 => some (σ28, r28))) : Option (Mm × Int32)) (fun σ25 w25_0 => bn1 ((if w25_0 ≤ w23_0 then some (σ25, w25_0) else some (σ25, w23_0)) : Option (Mm × Int32)) (fun σ26 w26_0 => chk (inb ((2 * v5_3) + v19_4) 24) (nm (ms σ26 16 ((2 * v5_3) + v19_4).toNatClampNeg w26_0) (fun σ27 => some (.inl (σ27, (v19_4 + 1)))))))))))) : Option ((Mm × Int32) ⊕ (Mm)))) fu σ5 0) (fun σ20 => some (.inl (σ20, (v5_3 + (-1))))))) : Option ((Mm × Int32) ⊕ (Mm)))) fu σ ((σ 2 p1.toNatClampNeg) - 1)) (fun σ6 => chk (inb (12 * p1) 36) (nm (ms σ6 17 (12 * p1).toNatClampNeg p2) (fun σ7 => bn0 (lq1 (fun (σ8 : Mm) (v8_3 : Int32) => ((chk (inb p1 3) ((if (σ8 2 p1.toNatClampNeg) ≤ v8_3 then some (.inr σ8) else chk (inb (((12 * p1) + v8_3) - 1) 36) (bn1 (f_X6_goes σ8 p1 v8_3 (σ8 17 (((12 * p1) + v8_3) - 1).toNatClampNeg) 0) (fun σ14 r14 => chk (inb (((2 * v8_3) - 2) + (σ8 17 (((12 * p1) + v8_3) - 1).toNatClampNeg)) 24) (bn1 ((if r14 = (σ14 16 (((2 * v8_3) - 2) + (σ8 17 (((12 * p1) + v8_3) - 1).toNatClampNeg)).toNatClampNeg) then some (σ14, 0) else some (σ14, 1)) : Option (Mm × Int32)) (fun σ16 w16_0 => chk (inb ((12 * p1) + v8_3) 36) (nm (ms σ16 17 ((12 * p1) + v8_3).toNatClampNeg w16_0) (fun σ17 => some (.inl (σ17, (v8_3 + 1)))))))))))) : Option ((Mm × Int32) ⊕ (Mm)))) fu σ7 1) (fun σ9 => chk (inb p2 24) (some (σ9, (σ9 16 p2.toNatClampNeg)))))))))))
set_option maxHeartbeats 4000000 in
set_option maxRecDepth 100000 in
theorem w_X6_makeBows {K : Kx} (C : CxM K cX6_makeBows RX6 7 4 (some .int)) (σ : Mm) (p1 : Int32) (p2 : Int32) (hf : Sat (f_X6_makeBows σ p1 p2) (fun o => kRt K (some (.int o.2)) o.1)) : Gj K σ 0 [(0, .ref (kAd K 0)), (1, .int p1), (2, .int p2)] [] := by
  unfold f_X6_makeBows at hf
  have B := C.1
  refine g_aload_n B dX6_makeBows_0 rfl 0 rfl ?_
  refine m_get_notes C wf_RX6_13 dX6_makeBows_1 ?_
  refine g_iload_n B dX6_makeBows_4 rfl 1 rfl ?_
  obtain ⟨h1, hf⟩ := sat_chk hf
  refine m_iald C 1 (by decide) rfl h1 dX6_makeBows_5 ?_
  refine g_if_ne (tgt := 11) B dX6_makeBows_6 (by decide) (fun c2 => ?_) (fun c2 => ?_)
  · have hf := sat_f hf c2
    refine g_iload_n B dX6_makeBows_11 rfl 2 rfl ?_
    refine g_iconst (v := 1) B dX6_makeBows_12 (by decide) ?_
    refine g_icmp_ne (tgt := 29) B dX6_makeBows_13 (by decide) (fun c3 => ?_) (fun c3 => ?_)
    · have hf := sat_f hf c3
      refine g_aload_n B dX6_makeBows_29 rfl 0 rfl ?_
      refine m_get_notes C wf_RX6_13 dX6_makeBows_30 ?_
      refine g_iload_n B dX6_makeBows_33 rfl 1 rfl ?_
      obtain ⟨h4, hf⟩ := sat_chk hf
      refine m_iald C 1 (by decide) rfl h4 dX6_makeBows_34 ?_
      refine g_iconst (v := 1) B dX6_makeBows_35 (by decide) ?_
      refine g_isub B dX6_makeBows_36 ?_
      refine g_istore_n B [(0, .ref (kAd K 0)), (1, .int p1), (2, .int p2), (3, .int (((σ 2 p1.toNatClampNeg) - 1)))] dX6_makeBows_37 rfl (by decide) [1, 2, 3, 0] rfl ?_
      have hf := sat_cu0 (G := fun σ6 => Gj K σ6 146 [(0, .ref (kAd K 0)), (1, .int p1), (2, .int p2)] []) hf (by
        intro σ6 hf
        refine g_aload_n B dX6_makeBows_146 rfl 0 rfl ?_
        refine m_get_ways C wf_RX6_58 dX6_makeBows_147 ?_
        refine g_bipush (v := 12) B dX6_makeBows_150 (by decide) ?_
        refine g_iload_n B dX6_makeBows_152 rfl 1 rfl ?_
        refine g_imul B dX6_makeBows_153 ?_
        refine g_iload_n B dX6_makeBows_154 rfl 2 rfl ?_
        obtain ⟨h7, hf⟩ := sat_chk hf
        obtain ⟨σ7, e7, hf⟩ := sat_nm hf
        refine m_iast C 16 (by decide) rfl h7 dX6_makeBows_155 (g_mem2 e7 ?_)
        refine g_iconst (v := 1) B dX6_makeBows_156 (by decide) ?_
        refine g_istore_n B [(0, .ref (kAd K 0)), (1, .int p1), (2, .int p2), (3, .int 1)] dX6_makeBows_157 rfl (by decide) [1, 2, 3, 0] rfl ?_
        have hf := sat_cu0 (G := fun σ9 => Gj K σ9 230 [(0, .ref (kAd K 0)), (2, .int p2)] []) hf (by
          intro σ9 hf
          refine g_aload_n B dX6_makeBows_230 rfl 0 rfl ?_
          refine m_get_costs C wf_RX6_55 dX6_makeBows_231 ?_
          refine g_iload_n B dX6_makeBows_234 rfl 1 rfl ?_
          obtain ⟨h10, hf⟩ := sat_chk hf
          refine m_iald C 15 (by decide) rfl h10 dX6_makeBows_235 ?_
          have hf := sat_some hf
          exact g_iret B rfl rfl dX6_makeBows_236 hf)
        refine lqr1 (Gh := fun σ8 v8_3 => Gj K σ8 158 [(0, .ref (kAd K 0)), (1, .int p1), (2, .int p2), (3, .int v8_3)] []) ?_ fu σ7 1 hf
        intro σ8 v8_3 hf
        refine g_iload_n B dX6_makeBows_158 rfl 3 rfl ?_
        refine g_aload_n B dX6_makeBows_159 rfl 0 rfl ?_
        refine m_get_notes C wf_RX6_13 dX6_makeBows_160 ?_
        refine g_iload_n B dX6_makeBows_163 rfl 1 rfl ?_
        obtain ⟨h11, hf⟩ := sat_chk hf
        refine m_iald C 1 (by decide) rfl h11 dX6_makeBows_164 ?_
        refine g_icmp_ge (tgt := 230) B dX6_makeBows_165 (by decide) (fun c12 => ?_) (fun c12 => ?_)
        · have hf := sat_t hf c12
          have hf := sum_r (sat_some hf)
          exact g_sub hf [0, 2] rfl
        · have hf := sat_f hf c12
          refine g_aload_n B dX6_makeBows_168 rfl 0 rfl ?_
          refine m_get_ways C wf_RX6_58 dX6_makeBows_169 ?_
          refine g_bipush (v := 12) B dX6_makeBows_172 (by decide) ?_
          refine g_iload_n B dX6_makeBows_174 rfl 1 rfl ?_
          refine g_imul B dX6_makeBows_175 ?_
          refine g_iload_n B dX6_makeBows_176 rfl 3 rfl ?_
          refine g_iadd B dX6_makeBows_177 ?_
          refine g_iconst (v := 1) B dX6_makeBows_178 (by decide) ?_
          refine g_isub B dX6_makeBows_179 ?_
          obtain ⟨h13, hf⟩ := sat_chk hf
          refine m_iald C 16 (by decide) rfl h13 dX6_makeBows_180 ?_
          refine g_istore B [(0, .ref (kAd K 0)), (1, .int p1), (2, .int p2), (3, .int v8_3), (4, .int ((σ8 17 (((12 * p1) + v8_3) - 1).toNatClampNeg)))] dX6_makeBows_181 (by decide) [1, 2, 3, 4, 0] rfl ?_
          refine g_aload_n B dX6_makeBows_183 rfl 0 rfl ?_
          refine m_get_ways C wf_RX6_58 dX6_makeBows_184 ?_
          refine g_bipush (v := 12) B dX6_makeBows_187 (by decide) ?_
          refine g_iload_n B dX6_makeBows_189 rfl 1 rfl ?_
          refine g_imul B dX6_makeBows_190 ?_
          refine g_iload_n B dX6_makeBows_191 rfl 3 rfl ?_
          refine g_iadd B dX6_makeBows_192 ?_
          refine g_aload_n B dX6_makeBows_193 rfl 0 rfl ?_
          refine g_iload_n B dX6_makeBows_194 rfl 1 rfl ?_
          refine g_iload_n B dX6_makeBows_195 rfl 3 rfl ?_
          refine g_iload B dX6_makeBows_196 4 rfl ?_
          refine g_iconst (v := 0) B dX6_makeBows_198 (by decide) ?_
          obtain ⟨σ14, r14, h14, hf⟩ := sat_ca1 hf
          refine g_cVI (rest := [.int (((12 * p1) + v8_3)), .ref (kAd K 17)]) B (ck_X6_goes C h14) mo_X6_goes wm_RX6_129 (by decide) (cM_o C) rfl rfl rfl (Nat.le_of_ble_eq_true rfl) dX6_makeBows_199 ?_
          refine g_aload_n B dX6_makeBows_202 rfl 0 rfl ?_
          refine m_get_costs C wf_RX6_55 dX6_makeBows_203 ?_
          refine g_iconst (v := 2) B dX6_makeBows_206 (by decide) ?_
          refine g_iload_n B dX6_makeBows_207 rfl 3 rfl ?_
          refine g_imul B dX6_makeBows_208 ?_
          refine g_iconst (v := 2) B dX6_makeBows_209 (by decide) ?_
          refine g_isub B dX6_makeBows_210 ?_
          refine g_iload B dX6_makeBows_211 4 rfl ?_
          refine g_iadd B dX6_makeBows_213 ?_
          obtain ⟨h15, hf⟩ := sat_chk hf
          refine m_iald C 15 (by decide) rfl h15 dX6_makeBows_214 ?_
          have hf := sat_cu1 (G := fun σ16 w16_0 => Gj K σ16 223 [(0, .ref (kAd K 0)), (1, .int p1), (2, .int p2), (3, .int v8_3)] [.int w16_0, .int (((12 * p1) + v8_3)), .ref (kAd K 17)]) hf (by
            intro σ16 w16_0 hf
            obtain ⟨h17, hf⟩ := sat_chk hf
            obtain ⟨σ17, e17, hf⟩ := sat_nm hf
            refine m_iast C 16 (by decide) rfl h17 dX6_makeBows_223 (g_mem2 e17 ?_)
            refine g_iinc B (v8_3 + 1) [(0, .ref (kAd K 0)), (1, .int p1), (2, .int p2), (3, .int ((v8_3 + 1)))] dX6_makeBows_224 3 rfl rfl (by decide) [1, 2, 3, 0] rfl ?_
            refine g_goto (tgt := 158) B dX6_makeBows_227 (by decide) ?_
            have hf := sum_l (sat_some hf)
            exact g_sub hf [0, 1, 2, 3] rfl)
          refine g_icmp_ne (tgt := 222) B dX6_makeBows_215 (by decide) (fun c16 => ?_) (fun c16 => ?_)
          · have hf := sat_f hf c16
            refine g_iconst (v := 1) B dX6_makeBows_222 (by decide) ?_
            have hf := sat_some hf
            exact g_sub hf [0, 1, 2, 3] rfl
          · have hf := sat_t hf c16
            refine g_iconst (v := 0) B dX6_makeBows_218 (by decide) ?_
            refine g_goto (tgt := 223) B dX6_makeBows_219 (by decide) ?_
            have hf := sat_some hf
            exact g_sub hf [0, 1, 2, 3] rfl)
      refine lqr1 (Gh := fun σ5 v5_3 => Gj K σ5 38 [(0, .ref (kAd K 0)), (1, .int p1), (2, .int p2), (3, .int v5_3)] []) ?_ fu σ ((σ 2 p1.toNatClampNeg) - 1) hf
      intro σ5 v5_3 hf
      refine g_iload_n B dX6_makeBows_38 rfl 3 rfl ?_
      refine g_if_lt (tgt := 146) B dX6_makeBows_39 (by decide) (fun c18 => ?_) (fun c18 => ?_)
      · have hf := sat_t hf c18
        have hf := sum_r (sat_some hf)
        exact g_sub hf [0, 1, 2] rfl
      · have hf := sat_f hf c18
        refine g_iconst (v := 0) B dX6_makeBows_42 (by decide) ?_
        refine g_istore B [(0, .ref (kAd K 0)), (1, .int p1), (2, .int p2), (3, .int v5_3), (4, .int 0)] dX6_makeBows_43 (by decide) [1, 2, 3, 4, 0] rfl ?_
        have hf := sat_cu0 (G := fun σ20 => Gj K σ20 140 [(0, .ref (kAd K 0)), (1, .int p1), (2, .int p2), (3, .int v5_3)] []) hf (by
          intro σ20 hf
          refine g_iinc B (v5_3 + (-1)) [(0, .ref (kAd K 0)), (1, .int p1), (2, .int p2), (3, .int ((v5_3 + (-1))))] dX6_makeBows_140 3 rfl rfl (by decide) [1, 2, 3, 0] rfl ?_
          refine g_goto (tgt := 38) B dX6_makeBows_143 (by decide) ?_
          have hf := sum_l (sat_some hf)
          exact g_sub hf [0, 1, 2, 3] rfl)
        refine lqr1 (Gh := fun σ19 v19_4 => Gj K σ19 45 [(0, .ref (kAd K 0)), (1, .int p1), (2, .int p2), (3, .int v5_3), (4, .int v19_4)] []) ?_ fu σ5 0 hf
        intro σ19 v19_4 hf
        refine g_iload B dX6_makeBows_45 4 rfl ?_
        refine g_iconst (v := 2) B dX6_makeBows_47 (by decide) ?_
        refine g_icmp_ge (tgt := 140) B dX6_makeBows_48 (by decide) (fun c21 => ?_) (fun c21 => ?_)
        · have hf := sat_t hf c21
          have hf := sum_r (sat_some hf)
          exact g_sub hf [0, 1, 2, 3] rfl
        · have hf := sat_f hf c21
          refine g_iload_n B dX6_makeBows_51 rfl 3 rfl ?_
          refine g_aload_n B dX6_makeBows_52 rfl 0 rfl ?_
          refine m_get_notes C wf_RX6_13 dX6_makeBows_53 ?_
          refine g_iload_n B dX6_makeBows_56 rfl 1 rfl ?_
          obtain ⟨h22, hf⟩ := sat_chk hf
          refine m_iald C 1 (by decide) rfl h22 dX6_makeBows_57 ?_
          refine g_iconst (v := 1) B dX6_makeBows_58 (by decide) ?_
          refine g_isub B dX6_makeBows_59 ?_
          have hf := sat_cu1 (G := fun σ23 w23_0 => Gj K σ23 78 [(0, .ref (kAd K 0)), (1, .int p1), (2, .int p2), (3, .int v5_3), (4, .int v19_4)] [.int w23_0]) hf (by
            intro σ23 w23_0 hf
            refine g_istore B [(0, .ref (kAd K 0)), (1, .int p1), (2, .int p2), (3, .int v5_3), (4, .int v19_4), (5, .int w23_0)] dX6_makeBows_78 (by decide) [1, 2, 3, 4, 5, 0] rfl ?_
            refine g_iload_n B dX6_makeBows_80 rfl 3 rfl ?_
            refine g_aload_n B dX6_makeBows_81 rfl 0 rfl ?_
            refine m_get_notes C wf_RX6_13 dX6_makeBows_82 ?_
            refine g_iload_n B dX6_makeBows_85 rfl 1 rfl ?_
            obtain ⟨h24, hf⟩ := sat_chk hf
            refine m_iald C 1 (by decide) rfl h24 dX6_makeBows_86 ?_
            refine g_iconst (v := 1) B dX6_makeBows_87 (by decide) ?_
            refine g_isub B dX6_makeBows_88 ?_
            have hf := sat_cu1 (G := fun σ25 w25_0 => Gj K σ25 107 [(0, .ref (kAd K 0)), (1, .int p1), (2, .int p2), (3, .int v5_3), (4, .int v19_4), (5, .int w23_0)] [.int w25_0]) hf (by
              intro σ25 w25_0 hf
              refine g_istore B [(0, .ref (kAd K 0)), (1, .int p1), (2, .int p2), (3, .int v5_3), (4, .int v19_4), (5, .int w23_0), (6, .int w25_0)] dX6_makeBows_107 (by decide) [1, 2, 3, 4, 5, 6, 0] rfl ?_
              refine g_aload_n B dX6_makeBows_109 rfl 0 rfl ?_
              refine m_get_costs C wf_RX6_55 dX6_makeBows_110 ?_
              refine g_iconst (v := 2) B dX6_makeBows_113 (by decide) ?_
              refine g_iload_n B dX6_makeBows_114 rfl 3 rfl ?_
              refine g_imul B dX6_makeBows_115 ?_
              refine g_iload B dX6_makeBows_116 4 rfl ?_
              refine g_iadd B dX6_makeBows_118 ?_
              refine g_iload B dX6_makeBows_119 5 rfl ?_
              refine g_iload B dX6_makeBows_121 6 rfl ?_
              have hf := sat_cu1 (G := fun σ26 w26_0 => Gj K σ26 133 [(0, .ref (kAd K 0)), (1, .int p1), (2, .int p2), (3, .int v5_3), (4, .int v19_4)] [.int w26_0, .int (((2 * v5_3) + v19_4)), .ref (kAd K 16)]) hf (by
                intro σ26 w26_0 hf
                obtain ⟨h27, hf⟩ := sat_chk hf
                obtain ⟨σ27, e27, hf⟩ := sat_nm hf
                refine m_iast C 15 (by decide) rfl h27 dX6_makeBows_133 (g_mem2 e27 ?_)
                refine g_iinc B (v19_4 + 1) [(0, .ref (kAd K 0)), (1, .int p1), (2, .int p2), (3, .int v5_3), (4, .int ((v19_4 + 1)))] dX6_makeBows_134 4 rfl rfl (by decide) [1, 2, 3, 4, 0] rfl ?_
                refine g_goto (tgt := 45) B dX6_makeBows_137 (by decide) ?_
                have hf := sum_l (sat_some hf)
                exact g_sub hf [0, 1, 2, 3, 4] rfl)
              refine g_icmp_ge (tgt := 131) B dX6_makeBows_123 (by decide) (fun c26 => ?_) (fun c26 => ?_)
              · have hf := sat_t hf c26
                refine g_iload B dX6_makeBows_131 6 rfl ?_
                have hf := sat_some hf
                exact g_sub hf [0, 1, 2, 3, 4] rfl
              · have hf := sat_f hf c26
                refine g_iload B dX6_makeBows_126 5 rfl ?_
                refine g_goto (tgt := 133) B dX6_makeBows_128 (by decide) ?_
                have hf := sat_some hf
                exact g_sub hf [0, 1, 2, 3, 4] rfl)
            refine g_icmp_ne (tgt := 96) B dX6_makeBows_89 (by decide) (fun c25 => ?_) (fun c25 => ?_)
            · have hf := sat_f hf c25
              refine g_aload_n B dX6_makeBows_96 rfl 0 rfl ?_
              refine g_iload_n B dX6_makeBows_97 rfl 1 rfl ?_
              refine g_iload_n B dX6_makeBows_98 rfl 3 rfl ?_
              refine g_iconst (v := 1) B dX6_makeBows_99 (by decide) ?_
              refine g_iadd B dX6_makeBows_100 ?_
              refine g_iload B dX6_makeBows_101 4 rfl ?_
              refine g_iconst (v := 1) B dX6_makeBows_103 (by decide) ?_
              obtain ⟨σ28, r28, h28, hf⟩ := sat_ca1 hf
              refine g_cVI (rest := []) B (ck_X6_goes C h28) mo_X6_goes wm_RX6_129 (by decide) (cM_o C) rfl rfl rfl (Nat.le_of_ble_eq_true rfl) dX6_makeBows_104 ?_
              have hf := sat_some hf
              exact g_sub hf [0, 1, 2, 3, 4, 5] rfl
            · have hf := sat_t hf c25
              refine g_iconst (v := 0) B dX6_makeBows_92 (by decide) ?_
              refine g_goto (tgt := 107) B dX6_makeBows_93 (by decide) ?_
              have hf := sat_some hf
              exact g_sub hf [0, 1, 2, 3, 4, 5] rfl)
          refine g_icmp_ne (tgt := 67) B dX6_makeBows_60 (by decide) (fun c23 => ?_) (fun c23 => ?_)
          · have hf := sat_f hf c23
            refine g_aload_n B dX6_makeBows_67 rfl 0 rfl ?_
            refine g_iload_n B dX6_makeBows_68 rfl 1 rfl ?_
            refine g_iload_n B dX6_makeBows_69 rfl 3 rfl ?_
            refine g_iconst (v := 1) B dX6_makeBows_70 (by decide) ?_
            refine g_iadd B dX6_makeBows_71 ?_
            refine g_iload B dX6_makeBows_72 4 rfl ?_
            refine g_iconst (v := 0) B dX6_makeBows_74 (by decide) ?_
            obtain ⟨σ29, r29, h29, hf⟩ := sat_ca1 hf
            refine g_cVI (rest := []) B (ck_X6_goes C h29) mo_X6_goes wm_RX6_129 (by decide) (cM_o C) rfl rfl rfl (Nat.le_of_ble_eq_true rfl) dX6_makeBows_75 ?_
            have hf := sat_some hf
            exact g_sub hf [0, 1, 2, 3, 4] rfl
          · have hf := sat_t hf c23
            refine g_iconst (v := 0) B dX6_makeBows_63 (by decide) ?_
            refine g_goto (tgt := 78) B dX6_makeBows_64 (by decide) ?_
            have hf := sat_some hf
            exact g_sub hf [0, 1, 2, 3, 4] rfl
    · have hf := sat_t hf c3
      refine g_aload_n B dX6_makeBows_16 rfl 0 rfl ?_
      refine g_iload_n B dX6_makeBows_17 rfl 1 rfl ?_
      refine g_iconst (v := 0) B dX6_makeBows_18 (by decide) ?_
      refine g_iconst (v := 4) B dX6_makeBows_19 (by decide) ?_
      obtain ⟨σ30, r30, h30, hf⟩ := sat_ca1 hf
      refine g_cVI (rest := []) B (ck_X6_is C h30) mo_X6_is wm_RX6_108 (by decide) (cM_o C) rfl rfl rfl (Nat.le_of_ble_eq_true rfl) dX6_makeBows_20 ?_
      refine g_if_eq (tgt := 29) B dX6_makeBows_23 (by decide) (fun c31 => ?_) (fun c31 => ?_)
      · have hf := sat_t hf c31
        refine g_aload_n B dX6_makeBows_29 rfl 0 rfl ?_
        refine m_get_notes C wf_RX6_13 dX6_makeBows_30 ?_
        refine g_iload_n B dX6_makeBows_33 rfl 1 rfl ?_
        obtain ⟨h32, hf⟩ := sat_chk hf
        refine m_iald C 1 (by decide) rfl h32 dX6_makeBows_34 ?_
        refine g_iconst (v := 1) B dX6_makeBows_35 (by decide) ?_
        refine g_isub B dX6_makeBows_36 ?_
        refine g_istore_n B [(0, .ref (kAd K 0)), (1, .int p1), (2, .int p2), (3, .int (((σ30 2 p1.toNatClampNeg) - 1)))] dX6_makeBows_37 rfl (by decide) [1, 2, 3, 0] rfl ?_
        have hf := sat_cu0 (G := fun σ34 => Gj K σ34 146 [(0, .ref (kAd K 0)), (1, .int p1), (2, .int p2)] []) hf (by
          intro σ34 hf
          refine g_aload_n B dX6_makeBows_146 rfl 0 rfl ?_
          refine m_get_ways C wf_RX6_58 dX6_makeBows_147 ?_
          refine g_bipush (v := 12) B dX6_makeBows_150 (by decide) ?_
          refine g_iload_n B dX6_makeBows_152 rfl 1 rfl ?_
          refine g_imul B dX6_makeBows_153 ?_
          refine g_iload_n B dX6_makeBows_154 rfl 2 rfl ?_
          obtain ⟨h35, hf⟩ := sat_chk hf
          obtain ⟨σ35, e35, hf⟩ := sat_nm hf
          refine m_iast C 16 (by decide) rfl h35 dX6_makeBows_155 (g_mem2 e35 ?_)
          refine g_iconst (v := 1) B dX6_makeBows_156 (by decide) ?_
          refine g_istore_n B [(0, .ref (kAd K 0)), (1, .int p1), (2, .int p2), (3, .int 1)] dX6_makeBows_157 rfl (by decide) [1, 2, 3, 0] rfl ?_
          have hf := sat_cu0 (G := fun σ37 => Gj K σ37 230 [(0, .ref (kAd K 0)), (2, .int p2)] []) hf (by
            intro σ37 hf
            refine g_aload_n B dX6_makeBows_230 rfl 0 rfl ?_
            refine m_get_costs C wf_RX6_55 dX6_makeBows_231 ?_
            refine g_iload_n B dX6_makeBows_234 rfl 1 rfl ?_
            obtain ⟨h38, hf⟩ := sat_chk hf
            refine m_iald C 15 (by decide) rfl h38 dX6_makeBows_235 ?_
            have hf := sat_some hf
            exact g_iret B rfl rfl dX6_makeBows_236 hf)
          refine lqr1 (Gh := fun σ36 v36_3 => Gj K σ36 158 [(0, .ref (kAd K 0)), (1, .int p1), (2, .int p2), (3, .int v36_3)] []) ?_ fu σ35 1 hf
          intro σ36 v36_3 hf
          refine g_iload_n B dX6_makeBows_158 rfl 3 rfl ?_
          refine g_aload_n B dX6_makeBows_159 rfl 0 rfl ?_
          refine m_get_notes C wf_RX6_13 dX6_makeBows_160 ?_
          refine g_iload_n B dX6_makeBows_163 rfl 1 rfl ?_
          obtain ⟨h39, hf⟩ := sat_chk hf
          refine m_iald C 1 (by decide) rfl h39 dX6_makeBows_164 ?_
          refine g_icmp_ge (tgt := 230) B dX6_makeBows_165 (by decide) (fun c40 => ?_) (fun c40 => ?_)
          · have hf := sat_t hf c40
            have hf := sum_r (sat_some hf)
            exact g_sub hf [0, 2] rfl
          · have hf := sat_f hf c40
            refine g_aload_n B dX6_makeBows_168 rfl 0 rfl ?_
            refine m_get_ways C wf_RX6_58 dX6_makeBows_169 ?_
            refine g_bipush (v := 12) B dX6_makeBows_172 (by decide) ?_
            refine g_iload_n B dX6_makeBows_174 rfl 1 rfl ?_
            refine g_imul B dX6_makeBows_175 ?_
            refine g_iload_n B dX6_makeBows_176 rfl 3 rfl ?_
            refine g_iadd B dX6_makeBows_177 ?_
            refine g_iconst (v := 1) B dX6_makeBows_178 (by decide) ?_
            refine g_isub B dX6_makeBows_179 ?_
            obtain ⟨h41, hf⟩ := sat_chk hf
            refine m_iald C 16 (by decide) rfl h41 dX6_makeBows_180 ?_
            refine g_istore B [(0, .ref (kAd K 0)), (1, .int p1), (2, .int p2), (3, .int v36_3), (4, .int ((σ36 17 (((12 * p1) + v36_3) - 1).toNatClampNeg)))] dX6_makeBows_181 (by decide) [1, 2, 3, 4, 0] rfl ?_
            refine g_aload_n B dX6_makeBows_183 rfl 0 rfl ?_
            refine m_get_ways C wf_RX6_58 dX6_makeBows_184 ?_
            refine g_bipush (v := 12) B dX6_makeBows_187 (by decide) ?_
            refine g_iload_n B dX6_makeBows_189 rfl 1 rfl ?_
            refine g_imul B dX6_makeBows_190 ?_
            refine g_iload_n B dX6_makeBows_191 rfl 3 rfl ?_
            refine g_iadd B dX6_makeBows_192 ?_
            refine g_aload_n B dX6_makeBows_193 rfl 0 rfl ?_
            refine g_iload_n B dX6_makeBows_194 rfl 1 rfl ?_
            refine g_iload_n B dX6_makeBows_195 rfl 3 rfl ?_
            refine g_iload B dX6_makeBows_196 4 rfl ?_
            refine g_iconst (v := 0) B dX6_makeBows_198 (by decide) ?_
            obtain ⟨σ42, r42, h42, hf⟩ := sat_ca1 hf
            refine g_cVI (rest := [.int (((12 * p1) + v36_3)), .ref (kAd K 17)]) B (ck_X6_goes C h42) mo_X6_goes wm_RX6_129 (by decide) (cM_o C) rfl rfl rfl (Nat.le_of_ble_eq_true rfl) dX6_makeBows_199 ?_
            refine g_aload_n B dX6_makeBows_202 rfl 0 rfl ?_
            refine m_get_costs C wf_RX6_55 dX6_makeBows_203 ?_
            refine g_iconst (v := 2) B dX6_makeBows_206 (by decide) ?_
            refine g_iload_n B dX6_makeBows_207 rfl 3 rfl ?_
            refine g_imul B dX6_makeBows_208 ?_
            refine g_iconst (v := 2) B dX6_makeBows_209 (by decide) ?_
            refine g_isub B dX6_makeBows_210 ?_
            refine g_iload B dX6_makeBows_211 4 rfl ?_
            refine g_iadd B dX6_makeBows_213 ?_
            obtain ⟨h43, hf⟩ := sat_chk hf
            refine m_iald C 15 (by decide) rfl h43 dX6_makeBows_214 ?_
            have hf := sat_cu1 (G := fun σ44 w44_0 => Gj K σ44 223 [(0, .ref (kAd K 0)), (1, .int p1), (2, .int p2), (3, .int v36_3)] [.int w44_0, .int (((12 * p1) + v36_3)), .ref (kAd K 17)]) hf (by
              intro σ44 w44_0 hf
              obtain ⟨h45, hf⟩ := sat_chk hf
              obtain ⟨σ45, e45, hf⟩ := sat_nm hf
              refine m_iast C 16 (by decide) rfl h45 dX6_makeBows_223 (g_mem2 e45 ?_)
              refine g_iinc B (v36_3 + 1) [(0, .ref (kAd K 0)), (1, .int p1), (2, .int p2), (3, .int ((v36_3 + 1)))] dX6_makeBows_224 3 rfl rfl (by decide) [1, 2, 3, 0] rfl ?_
              refine g_goto (tgt := 158) B dX6_makeBows_227 (by decide) ?_
              have hf := sum_l (sat_some hf)
              exact g_sub hf [0, 1, 2, 3] rfl)
            refine g_icmp_ne (tgt := 222) B dX6_makeBows_215 (by decide) (fun c44 => ?_) (fun c44 => ?_)
            · have hf := sat_f hf c44
              refine g_iconst (v := 1) B dX6_makeBows_222 (by decide) ?_
              have hf := sat_some hf
              exact g_sub hf [0, 1, 2, 3] rfl
            · have hf := sat_t hf c44
              refine g_iconst (v := 0) B dX6_makeBows_218 (by decide) ?_
              refine g_goto (tgt := 223) B dX6_makeBows_219 (by decide) ?_
              have hf := sat_some hf
              exact g_sub hf [0, 1, 2, 3] rfl)
        refine lqr1 (Gh := fun σ33 v33_3 => Gj K σ33 38 [(0, .ref (kAd K 0)), (1, .int p1), (2, .int p2), (3, .int v33_3)] []) ?_ fu σ30 ((σ30 2 p1.toNatClampNeg) - 1) hf
        intro σ33 v33_3 hf
        refine g_iload_n B dX6_makeBows_38 rfl 3 rfl ?_
        refine g_if_lt (tgt := 146) B dX6_makeBows_39 (by decide) (fun c46 => ?_) (fun c46 => ?_)
        · have hf := sat_t hf c46
          have hf := sum_r (sat_some hf)
          exact g_sub hf [0, 1, 2] rfl
        · have hf := sat_f hf c46
          refine g_iconst (v := 0) B dX6_makeBows_42 (by decide) ?_
          refine g_istore B [(0, .ref (kAd K 0)), (1, .int p1), (2, .int p2), (3, .int v33_3), (4, .int 0)] dX6_makeBows_43 (by decide) [1, 2, 3, 4, 0] rfl ?_
          have hf := sat_cu0 (G := fun σ48 => Gj K σ48 140 [(0, .ref (kAd K 0)), (1, .int p1), (2, .int p2), (3, .int v33_3)] []) hf (by
            intro σ48 hf
            refine g_iinc B (v33_3 + (-1)) [(0, .ref (kAd K 0)), (1, .int p1), (2, .int p2), (3, .int ((v33_3 + (-1))))] dX6_makeBows_140 3 rfl rfl (by decide) [1, 2, 3, 0] rfl ?_
            refine g_goto (tgt := 38) B dX6_makeBows_143 (by decide) ?_
            have hf := sum_l (sat_some hf)
            exact g_sub hf [0, 1, 2, 3] rfl)
          refine lqr1 (Gh := fun σ47 v47_4 => Gj K σ47 45 [(0, .ref (kAd K 0)), (1, .int p1), (2, .int p2), (3, .int v33_3), (4, .int v47_4)] []) ?_ fu σ33 0 hf
          intro σ47 v47_4 hf
          refine g_iload B dX6_makeBows_45 4 rfl ?_
          refine g_iconst (v := 2) B dX6_makeBows_47 (by decide) ?_
          refine g_icmp_ge (tgt := 140) B dX6_makeBows_48 (by decide) (fun c49 => ?_) (fun c49 => ?_)
          · have hf := sat_t hf c49
            have hf := sum_r (sat_some hf)
            exact g_sub hf [0, 1, 2, 3] rfl
          · have hf := sat_f hf c49
            refine g_iload_n B dX6_makeBows_51 rfl 3 rfl ?_
            refine g_aload_n B dX6_makeBows_52 rfl 0 rfl ?_
            refine m_get_notes C wf_RX6_13 dX6_makeBows_53 ?_
            refine g_iload_n B dX6_makeBows_56 rfl 1 rfl ?_
            obtain ⟨h50, hf⟩ := sat_chk hf
            refine m_iald C 1 (by decide) rfl h50 dX6_makeBows_57 ?_
            refine g_iconst (v := 1) B dX6_makeBows_58 (by decide) ?_
            refine g_isub B dX6_makeBows_59 ?_
            have hf := sat_cu1 (G := fun σ51 w51_0 => Gj K σ51 78 [(0, .ref (kAd K 0)), (1, .int p1), (2, .int p2), (3, .int v33_3), (4, .int v47_4)] [.int w51_0]) hf (by
              intro σ51 w51_0 hf
              refine g_istore B [(0, .ref (kAd K 0)), (1, .int p1), (2, .int p2), (3, .int v33_3), (4, .int v47_4), (5, .int w51_0)] dX6_makeBows_78 (by decide) [1, 2, 3, 4, 5, 0] rfl ?_
              refine g_iload_n B dX6_makeBows_80 rfl 3 rfl ?_
              refine g_aload_n B dX6_makeBows_81 rfl 0 rfl ?_
              refine m_get_notes C wf_RX6_13 dX6_makeBows_82 ?_
              refine g_iload_n B dX6_makeBows_85 rfl 1 rfl ?_
              obtain ⟨h52, hf⟩ := sat_chk hf
              refine m_iald C 1 (by decide) rfl h52 dX6_makeBows_86 ?_
              refine g_iconst (v := 1) B dX6_makeBows_87 (by decide) ?_
              refine g_isub B dX6_makeBows_88 ?_
              have hf := sat_cu1 (G := fun σ53 w53_0 => Gj K σ53 107 [(0, .ref (kAd K 0)), (1, .int p1), (2, .int p2), (3, .int v33_3), (4, .int v47_4), (5, .int w51_0)] [.int w53_0]) hf (by
                intro σ53 w53_0 hf
                refine g_istore B [(0, .ref (kAd K 0)), (1, .int p1), (2, .int p2), (3, .int v33_3), (4, .int v47_4), (5, .int w51_0), (6, .int w53_0)] dX6_makeBows_107 (by decide) [1, 2, 3, 4, 5, 6, 0] rfl ?_
                refine g_aload_n B dX6_makeBows_109 rfl 0 rfl ?_
                refine m_get_costs C wf_RX6_55 dX6_makeBows_110 ?_
                refine g_iconst (v := 2) B dX6_makeBows_113 (by decide) ?_
                refine g_iload_n B dX6_makeBows_114 rfl 3 rfl ?_
                refine g_imul B dX6_makeBows_115 ?_
                refine g_iload B dX6_makeBows_116 4 rfl ?_
                refine g_iadd B dX6_makeBows_118 ?_
                refine g_iload B dX6_makeBows_119 5 rfl ?_
                refine g_iload B dX6_makeBows_121 6 rfl ?_
                have hf := sat_cu1 (G := fun σ54 w54_0 => Gj K σ54 133 [(0, .ref (kAd K 0)), (1, .int p1), (2, .int p2), (3, .int v33_3), (4, .int v47_4)] [.int w54_0, .int (((2 * v33_3) + v47_4)), .ref (kAd K 16)]) hf (by
                  intro σ54 w54_0 hf
                  obtain ⟨h55, hf⟩ := sat_chk hf
                  obtain ⟨σ55, e55, hf⟩ := sat_nm hf
                  refine m_iast C 15 (by decide) rfl h55 dX6_makeBows_133 (g_mem2 e55 ?_)
                  refine g_iinc B (v47_4 + 1) [(0, .ref (kAd K 0)), (1, .int p1), (2, .int p2), (3, .int v33_3), (4, .int ((v47_4 + 1)))] dX6_makeBows_134 4 rfl rfl (by decide) [1, 2, 3, 4, 0] rfl ?_
                  refine g_goto (tgt := 45) B dX6_makeBows_137 (by decide) ?_
                  have hf := sum_l (sat_some hf)
                  exact g_sub hf [0, 1, 2, 3, 4] rfl)
                refine g_icmp_ge (tgt := 131) B dX6_makeBows_123 (by decide) (fun c54 => ?_) (fun c54 => ?_)
                · have hf := sat_t hf c54
                  refine g_iload B dX6_makeBows_131 6 rfl ?_
                  have hf := sat_some hf
                  exact g_sub hf [0, 1, 2, 3, 4] rfl
                · have hf := sat_f hf c54
                  refine g_iload B dX6_makeBows_126 5 rfl ?_
                  refine g_goto (tgt := 133) B dX6_makeBows_128 (by decide) ?_
                  have hf := sat_some hf
                  exact g_sub hf [0, 1, 2, 3, 4] rfl)
              refine g_icmp_ne (tgt := 96) B dX6_makeBows_89 (by decide) (fun c53 => ?_) (fun c53 => ?_)
              · have hf := sat_f hf c53
                refine g_aload_n B dX6_makeBows_96 rfl 0 rfl ?_
                refine g_iload_n B dX6_makeBows_97 rfl 1 rfl ?_
                refine g_iload_n B dX6_makeBows_98 rfl 3 rfl ?_
                refine g_iconst (v := 1) B dX6_makeBows_99 (by decide) ?_
                refine g_iadd B dX6_makeBows_100 ?_
                refine g_iload B dX6_makeBows_101 4 rfl ?_
                refine g_iconst (v := 1) B dX6_makeBows_103 (by decide) ?_
                obtain ⟨σ56, r56, h56, hf⟩ := sat_ca1 hf
                refine g_cVI (rest := []) B (ck_X6_goes C h56) mo_X6_goes wm_RX6_129 (by decide) (cM_o C) rfl rfl rfl (Nat.le_of_ble_eq_true rfl) dX6_makeBows_104 ?_
                have hf := sat_some hf
                exact g_sub hf [0, 1, 2, 3, 4, 5] rfl
              · have hf := sat_t hf c53
                refine g_iconst (v := 0) B dX6_makeBows_92 (by decide) ?_
                refine g_goto (tgt := 107) B dX6_makeBows_93 (by decide) ?_
                have hf := sat_some hf
                exact g_sub hf [0, 1, 2, 3, 4, 5] rfl)
            refine g_icmp_ne (tgt := 67) B dX6_makeBows_60 (by decide) (fun c51 => ?_) (fun c51 => ?_)
            · have hf := sat_f hf c51
              refine g_aload_n B dX6_makeBows_67 rfl 0 rfl ?_
              refine g_iload_n B dX6_makeBows_68 rfl 1 rfl ?_
              refine g_iload_n B dX6_makeBows_69 rfl 3 rfl ?_
              refine g_iconst (v := 1) B dX6_makeBows_70 (by decide) ?_
              refine g_iadd B dX6_makeBows_71 ?_
              refine g_iload B dX6_makeBows_72 4 rfl ?_
              refine g_iconst (v := 0) B dX6_makeBows_74 (by decide) ?_
              obtain ⟨σ57, r57, h57, hf⟩ := sat_ca1 hf
              refine g_cVI (rest := []) B (ck_X6_goes C h57) mo_X6_goes wm_RX6_129 (by decide) (cM_o C) rfl rfl rfl (Nat.le_of_ble_eq_true rfl) dX6_makeBows_75 ?_
              have hf := sat_some hf
              exact g_sub hf [0, 1, 2, 3, 4] rfl
            · have hf := sat_t hf c51
              refine g_iconst (v := 0) B dX6_makeBows_63 (by decide) ?_
              refine g_goto (tgt := 78) B dX6_makeBows_64 (by decide) ?_
              have hf := sat_some hf
              exact g_sub hf [0, 1, 2, 3, 4] rfl
      · have hf := sat_f hf c31
        refine g_bipush (v := (-3)) B dX6_makeBows_26 (by decide) ?_
        have hf := sat_some hf
        exact g_iret B rfl rfl dX6_makeBows_28 hf
  · have hf := sat_t hf c2
    refine g_iconst (v := 0) B dX6_makeBows_9 (by decide) ?_
    have hf := sat_some hf
    exact g_iret B rfl rfl dX6_makeBows_10 hf
theorem c_X6_makeBows (l : Launch) (D : va_G) (Ad : Nat → Nat) (cI : ClassId) {σ : Mm} {p1 : Int32} {p2 : Int32} {τ : Mm} {r : Int32} (h : f_X6_makeBows σ p1 p2 = some (τ, r)) : CtI l D (tysM cI) (wdM Ad cI) StM yX6_makeBows cX6_makeBows 7 .int 4 σ [.ref (Ad 0), .int p1, .int p2] (τ, r) := by
  refine metI (Ad := Ad) (cI := cI) (cP := cI) (cII := cI) (by decide) (Nat.le_of_ble_eq_true rfl) (wdG_ok _ _ _) stOK_M rfl (fun K C G hR => ?_)
  have e : kAd K = Ad := G.2.2.2.2.2.1
  have C2 := cM_of C G
  have h9 := w_X6_makeBows C2 σ p1 p2 ⟨_, h, by rw [hR]; exact ⟨rfl, rfl⟩⟩
  rw [e] at h9
  exact h9
theorem ck_X6_makeBows {K : Kx} {cc : ByteArray} {own : String} {nL d : Nat} {rty : Option FieldType} (C : CxM K cc own nL d rty) {σ : Mm} {p1 : Int32} {p2 : Int32} {τ : Mm} {r : Int32} (h : f_X6_makeBows σ p1 p2 = some (τ, r)) : CtI (kl K) (kD K) (ktys K) (kwf K) (kSt K) yX6_makeBows cX6_makeBows 7 .int 4 σ [.ref (kAd K 0), .int p1, .int p2] (τ, r) := cM_eq C (P := fun l D tys wf St => CtI l D tys wf St yX6_makeBows cX6_makeBows 7 .int 4 σ [.ref (kAd K 0), .int p1, .int p2] (τ, r)) (c_X6_makeBows _ _ _ _ h)
