section SP
variable {E : Ev} {h : PH} {Q : Rt → PH → Prop}
theorem fmod_n {d n : Nat} (hd : d < 2 ^ 31) (h0 : 0 < n) (hn : n < 2 ^ 31) : fmod (nI d) (nI n) = nI (d % n) := by
  have h1 : nI d - nI d / nI n * nI n = nI (d % n) := pk_rem hd h0 hn
  have h2 : 0 ≤ (nI d ^^^ nI n) := by
    rw [Int32.le_iff_toInt_le]
    have e1 : (nI d).toBitVec = BitVec.ofNat 32 d := rfl
    have e2 : (nI n).toBitVec = BitVec.ofNat 32 n := rfl
    have : (nI d ^^^ nI n).toInt = ((nI d).toBitVec ^^^ (nI n).toBitVec).toInt := rfl
    rw [this, e1, e2]
    have hm : (BitVec.ofNat 32 d ^^^ BitVec.ofNat 32 n).toNat < 2 ^ 31 := by
      rw [BitVec.toNat_xor]
      simp only [BitVec.toNat_ofNat]
      apply Nat.xor_lt_two_pow
      · exact Nat.lt_of_le_of_lt (Nat.mod_le _ _) hd
      · exact Nat.lt_of_le_of_lt (Nat.mod_le _ _) hn
    rw [BitVec.toInt_eq_toNat_of_lt (by omega)]
    show (0 : Int) ≤ _
    omega
  rw [fmod, if_pos h2, h1]
abbrev m0 (A : Sta) (t : Nat) : Int32 := (sT A t).2.1.getD 0 0
/-- whether a tenant sends its first message -/
def canS (A : Sta) (t : Nat) : Prop := 0 < (sT A t).2.1.length ∧ ¬ susp A t ∧ m0 A t ≤ fT A t 2 + fT A t 3 ∧ m0 A t + sG A 9 ≤ sG A 1
noncomputable def sendT (A : Sta) (t : Nat) : Sta := @ite _ (canS A t) (Classical.propDecidable _) (wG (sendA A t) 9 (sG A 9 + m0 A t)) A
theorem sendT_y {A : Sta} {t : Nat} (h : canS A t) : sendT A t = wG (sendA A t) 9 (sG A 9 + m0 A t) := by unfold sendT; exact @if_pos _ (Classical.propDecidable _) h _ _ _
theorem sendT_n {A : Sta} {t : Nat} (h : ¬ canS A t) : sendT A t = A := by unfold sendT; exact @if_neg _ (Classical.propDecidable _) h _ _ _
theorem sendT_1 (A : Sta) (t : Nat) : (sendT A t).1 = A.1 := by
  by_cases h : canS A t
  · rw [sendT_y h]; rfl
  · rw [sendT_n h]
/-- a round of sending, its first k tenants -/
noncomputable def rnd (A : Sta) : Nat → Sta
  | 0 => A
  | k + 1 => sendT (rnd A k) ((sTi A + k) % sN A)
theorem rnd_1 (A : Sta) : ∀ k, (rnd A k).1 = A.1
  | 0 => rfl
  | k + 1 => (sendT_1 _ _).trans (rnd_1 A k)
/-- rounds, at most k, as long as something is sent -/
noncomputable def srun : Nat → Sta → Sta
  | 0, A => A
  | k + 1, A => @ite _ (sG A 9 < sG (rnd A (sN A)) 9) (Classical.propDecidable _) (srun k (rnd A (sN A))) (rnd A (sN A))
theorem srun_y {A : Sta} (h : sG A 9 < sG (rnd A (sN A)) 9) (k : Nat) : srun (k + 1) A = srun k (rnd A (sN A)) := by rw [srun]; exact @if_pos _ (Classical.propDecidable _) h _ _ _
theorem srun_n {A : Sta} (h : ¬ sG A 9 < sG (rnd A (sN A)) 9) (k : Nat) : srun (k + 1) A = rnd A (sN A) := by rw [srun]; exact @if_neg _ (Classical.propDecidable _) h _ _ _
theorem srun_1 : ∀ (k : Nat) (A : Sta), (srun k A).1 = A.1
  | 0, A => rfl
  | k + 1, A => by
    by_cases h : sG A 9 < sG (rnd A (sN A)) 9
    · rw [srun_y h, srun_1 k, rnd_1]
    · rw [srun_n h, rnd_1]
set_option maxHeartbeats 4000000 in
set_option maxRecDepth 100000 in
theorem sp_X4_canSend {q : Nat} {l : Lt} {A : Sta} {t : Nat} (hR : RepC h q l A) (ht : t < sN A) (k : Q (.inl (some (.int (b01 (canS A t))))) h) : WPx E mX4_canSend 0 [some (.ref q), some (.ref (lT l t)), none] [] (0, 0) h Q := by
  have hR2 := hR
  obtain ⟨hL, hN, hT, hO⟩ := hR
  obtain ⟨⟨kq, tq⟩, ⟨rT, kT, tT⟩, ⟨rO, kO, tO⟩, hLT, hLO, hinj⟩ := hL
  obtain ⟨⟨n2, n6⟩, ⟨n3, n12⟩, n4, n5, n6', n7, n8, n9, n10, n11⟩ := hN
  obtain ⟨a1, ⟨a2, a3⟩, ⟨a4, a5, a6⟩, a7, a8, a9⟩ := hLT t (by omega)
  obtain ⟨t1, t2, t3, t4, t5⟩ := hT t ht
  have e2 := hR2.tF ht (k := 2) (by decide)
  have e3 := hR2.tF ht (k := 3) (by decide)
  refine wp_aload_n (M := mX4_canSend) (pc := 0) dX4_canSend_0 rfl ?_
  refine wp_getI (M := mX4_canSend) (pc := 1) fa_X4_117 rfl dX4_canSend_1 (by first | exact kq | exact a2) ?_
  refine wp_if_eq (M := mX4_canSend) (pc := 4) (tgt := 15) dX4_canSend_4 rfl (fun t4 => ?_) (fun f4 => ?_)
  · rw [t2] at t4
    refine wp_iconst (M := mX4_canSend) (pc := 15) (v := 0) dX4_canSend_15 ci_0 ?_
    refine wp_zreturn (M := mX4_canSend) (pc := 16) rfl (by decide) dX4_canSend_16 ?_
    first
    | (rw [b01_f (fun c => absurd c.1 (by have := (i_eq (b := 0) (by omega) (by decide)).mp t4; omega))] at k
       exact k)
    | (rw [b01_f (fun c => c.2.1 (ite_n f12))] at k
       exact k)
    | fail "leaf"
  · rw [t2] at f4
    have hl0 : 0 < (sT A t).2.1.length := by
      rcases Nat.eq_zero_or_pos (sT A t).2.1.length with q9 | q9
      · exact absurd (by rw [q9]; rfl) f4
      · exact q9
    have em : (if nI 0 < gi h (lT l t) 7 then gi h (lM l t) 0 else -9) = m0 A t := by
      rw [t2, if_pos ((i_lt (by decide) (by omega)).mpr hl0)]; exact t4 0 hl0
    refine wp_aload_n (M := mX4_canSend) (pc := 7) dX4_canSend_7 rfl ?_
    refine wp_aload_n (M := mX4_canSend) (pc := 8) dX4_canSend_8 rfl ?_
    refine so_V1 (M := mX4_canSend) (pc := 9) cs_X4_canSend_123 rfl rfl (LE rfl) (LE rfl) dX4_canSend_9 (by first | exact kq | exact a2) ?_
    refine sp_X4_isSuspended hR2 ht ?_
    refine kI ?_
    refine wp_if_eq (M := mX4_canSend) (pc := 12) (tgt := 17) dX4_canSend_12 rfl (fun t12 => ?_) (fun f12 => ?_)
    · refine wp_aload_n (M := mX4_canSend) (pc := 17) dX4_canSend_17 rfl ?_
      refine wp_iconst (M := mX4_canSend) (pc := 18) (v := 0) dX4_canSend_18 ci_0 ?_
      refine so_V1 (M := mX4_canSend) (pc := 19) cs_X4_canSend_200 rfl rfl (LE rfl) (LE rfl) dX4_canSend_19 (by first | exact kq | exact a2) ?_
      refine sp_X5_sizeAt (j := 0) a2 a4 a5 (by decide) ?_
      refine kI ?_
      refine so_istore_n (M := mX4_canSend) (pc := 22) (lo' := [_, _, _]) dX4_canSend_22 (LE rfl) (LE rfl) (Or.inr rfl) rfl ?_
      refine wp_iload_n (M := mX4_canSend) (pc := 23) dX4_canSend_23 rfl ?_
      refine wp_aload_n (M := mX4_canSend) (pc := 24) dX4_canSend_24 rfl ?_
      refine so_V0 (M := mX4_canSend) (pc := 25) cs_X4_canSend_130 rfl rfl (LE rfl) (LE rfl) dX4_canSend_25 (by first | exact kq | exact a2) ?_
      refine sp_X5_credits a2 ?_
      refine kI ?_
      refine wp_icmp_gt (M := mX4_canSend) (pc := 28) (tgt := 48) dX4_canSend_28 rfl (fun t28 => ?_) (fun f28 => ?_)
      · rw [em, e2, e3] at t28
        refine wp_iconst (M := mX4_canSend) (pc := 48) (v := 0) dX4_canSend_48 ci_0 ?_
        refine wp_zreturn (M := mX4_canSend) (pc := 49) rfl (by decide) dX4_canSend_49 ?_
        first
        | (rw [b01_f (fun c => absurd t28 (Int32.not_lt.mpr c.2.2.1))] at k
           exact k)
        | (rw [b01_f (fun c => absurd t41 (Int32.not_lt.mpr c.2.2.2))] at k
           exact k)
        | (rw [b01_t ⟨hl0, ite_z t12, Int32.not_lt.mp f28, Int32.not_lt.mp f41⟩] at k
           exact k)
        | fail "leaf"
      · rw [em, e2, e3] at f28
        refine wp_iload_n (M := mX4_canSend) (pc := 31) dX4_canSend_31 rfl ?_
        refine wp_aload_n (M := mX4_canSend) (pc := 32) dX4_canSend_32 rfl ?_
        refine wp_getI (M := mX4_canSend) (pc := 33) fa_X4_53 rfl dX4_canSend_33 (by first | exact kq | exact a2) ?_
        refine wp_iadd (M := mX4_canSend) (pc := 36) dX4_canSend_36 ?_
        refine wp_aload_n (M := mX4_canSend) (pc := 37) dX4_canSend_37 rfl ?_
        refine wp_getI (M := mX4_canSend) (pc := 38) fa_X4_25 rfl dX4_canSend_38 (by first | exact kq | exact a2) ?_
        refine wp_icmp_gt (M := mX4_canSend) (pc := 41) (tgt := 48) dX4_canSend_41 rfl (fun t41 => ?_) (fun f41 => ?_)
        · rw [em, n11, n4] at t41
          refine wp_iconst (M := mX4_canSend) (pc := 48) (v := 0) dX4_canSend_48 ci_0 ?_
          refine wp_zreturn (M := mX4_canSend) (pc := 49) rfl (by decide) dX4_canSend_49 ?_
          first
          | (rw [b01_f (fun c => absurd t28 (Int32.not_lt.mpr c.2.2.1))] at k
             exact k)
          | (rw [b01_f (fun c => absurd t41 (Int32.not_lt.mpr c.2.2.2))] at k
             exact k)
          | (rw [b01_t ⟨hl0, ite_z t12, Int32.not_lt.mp f28, Int32.not_lt.mp f41⟩] at k
             exact k)
          | fail "leaf"
        · rw [em, n11, n4] at f41
          refine wp_iconst (M := mX4_canSend) (pc := 44) (v := 1) dX4_canSend_44 ci_1 ?_
          refine wp_goto (M := mX4_canSend) (pc := 45) (tgt := 49) dX4_canSend_45 rfl ?_
          refine wp_zreturn (M := mX4_canSend) (pc := 49) rfl (by decide) dX4_canSend_49 ?_
          first
          | (rw [b01_f (fun c => absurd t28 (Int32.not_lt.mpr c.2.2.1))] at k
             exact k)
          | (rw [b01_f (fun c => absurd t41 (Int32.not_lt.mpr c.2.2.2))] at k
             exact k)
          | (rw [b01_t ⟨hl0, ite_z t12, Int32.not_lt.mp f28, Int32.not_lt.mp f41⟩] at k
             exact k)
          | fail "leaf"
    · refine wp_iconst (M := mX4_canSend) (pc := 15) (v := 0) dX4_canSend_15 ci_0 ?_
      refine wp_zreturn (M := mX4_canSend) (pc := 16) rfl (by decide) dX4_canSend_16 ?_
      first
      | (rw [b01_f (fun c => absurd c.1 (by have := (i_eq (b := 0) (by omega) (by decide)).mp t4; omega))] at k
         exact k)
      | (rw [b01_f (fun c => c.2.1 (ite_n f12))] at k
         exact k)
      | fail "leaf"
set_option maxHeartbeats 4000000 in
set_option maxRecDepth 100000 in
theorem lp_X4_sendRound {q : Nat} {l : Lt} {A : Sta} {h0 : PH} (hn0 : 0 < sN A) (hn6 : sN A ≤ 6) (hti : sTi A < 2 ^ 30) (k : ∀ h', RepC h' q l (rnd A (sN A)) → Fr (fun x => x = q) h0 h' → Q (.inl (some (.int (b01 (sG A 9 < sG (rnd A (sN A)) 9))))) h') : ∀ (m : Nat) (i : Nat) (h : PH) (x3 : Option Value), sN A - i < m → (i ≤ sN A) → (RepC h q l (rnd A i)) → (Fr (fun x => x = q) h0 h) → WPx E mX4_sendRound 7 [some (.ref q), some (.int (sG A 9)), some (.int (nI i)), x3] [] (0, 0) h Q := by
  intro m
  induction m with
  | zero => intro i h x3 hm; exact absurd hm (Nat.not_lt_zero _)
  | succ m ih =>
    intro i h x3 hm hi hR hF
    have hR2 := hR
    have g1 := rnd_1 A i
    have gn : sN (rnd A i) = sN A := congrArg (·.1) g1
    have gt : sTi (rnd A i) = sTi A := congrArg (·.2.1) g1
    obtain ⟨hL, hN, hT, hO⟩ := hR
    obtain ⟨⟨kq, tq⟩, ⟨rT, kT, tT⟩, ⟨rO, kO, tO⟩, hLT, hLO, hinj⟩ := hL
    obtain ⟨⟨n2, n6⟩, ⟨n3, n12⟩, n4, n5, n6', n7, n8, n9, n10, n11⟩ := hN
    rw [gn] at n2
    rw [gt] at n8
    have hmod : (sTi A + i) % sN A < sN A := Nat.mod_lt _ hn0
    have efm : fmod (gi h q 8 + nI i) (gi h q 2) = nI ((sTi A + i) % sN A) := by rw [n8, n2, nI_add]; exact fmod_n (by omega) hn0 (by omega)
    obtain ⟨a1, ⟨a2, a3⟩, ⟨a4, a5, a6⟩, a7, a8, a9⟩ := hLT ((sTi A + i) % sN A) (by omega)
    refine wp_iload_n (M := mX4_sendRound) (pc := 7) dX4_sendRound_7 rfl ?_
    refine wp_aload_n (M := mX4_sendRound) (pc := 8) dX4_sendRound_8 rfl ?_
    refine wp_getI (M := mX4_sendRound) (pc := 9) fa_X4_38 rfl dX4_sendRound_9 (by first | exact kq | exact kT | exact a2) ?_
    refine wp_icmp_ge (M := mX4_sendRound) (pc := 12) (tgt := 61) dX4_sendRound_12 rfl (fun t12 => ?_) (fun f12 => ?_)
    · rw [n2] at t12
      have hi2 := n_ge hi (by omega) t12
      subst hi2
      refine wp_aload_n (M := mX4_sendRound) (pc := 61) dX4_sendRound_61 rfl ?_
      refine wp_getI (M := mX4_sendRound) (pc := 62) fa_X4_53 rfl dX4_sendRound_62 (by first | exact kq | exact kT | exact a2) ?_
      refine wp_iload_n (M := mX4_sendRound) (pc := 65) dX4_sendRound_65 rfl ?_
      refine wp_icmp_le (M := mX4_sendRound) (pc := 66) (tgt := 73) dX4_sendRound_66 rfl (fun t66 => ?_) (fun f66 => ?_)
      · rw [n11] at t66
        refine wp_iconst (M := mX4_sendRound) (pc := 73) (v := 0) dX4_sendRound_73 ci_0 ?_
        refine wp_zreturn (M := mX4_sendRound) (pc := 74) rfl (by decide) dX4_sendRound_74 ?_
        first
        | (have k2 := k h hR2 hF
           rw [b01_f (Int32.not_lt.mpr t66)] at k2
           exact k2)
        | (have k2 := k h hR2 hF
           rw [b01_t (Int32.not_le.mp f66)] at k2
           exact k2)
        | fail "leaf"
      · rw [n11] at f66
        refine wp_iconst (M := mX4_sendRound) (pc := 69) (v := 1) dX4_sendRound_69 ci_1 ?_
        refine wp_goto (M := mX4_sendRound) (pc := 70) (tgt := 74) dX4_sendRound_70 rfl ?_
        refine wp_zreturn (M := mX4_sendRound) (pc := 74) rfl (by decide) dX4_sendRound_74 ?_
        first
        | (have k2 := k h hR2 hF
           rw [b01_f (Int32.not_lt.mpr t66)] at k2
           exact k2)
        | (have k2 := k h hR2 hF
           rw [b01_t (Int32.not_le.mp f66)] at k2
           exact k2)
        | fail "leaf"
    · rw [n2] at f12
      have hlt := n_lt hi (by omega) f12
      refine wp_aload_n (M := mX4_sendRound) (pc := 15) dX4_sendRound_15 rfl ?_
      refine wp_getR (M := mX4_sendRound) (pc := 16) fa_X4_11 rfl dX4_sendRound_16 (by first | exact kq | exact kT | exact a2) (by first | exact rT | exact a1) ?_
      refine wp_aload_n (M := mX4_sendRound) (pc := 19) dX4_sendRound_19 rfl ?_
      refine wp_getI (M := mX4_sendRound) (pc := 20) fa_X4_44 rfl dX4_sendRound_20 (by first | exact kq | exact kT | exact a2) ?_
      refine wp_iload_n (M := mX4_sendRound) (pc := 23) dX4_sendRound_23 rfl ?_
      refine wp_iadd (M := mX4_sendRound) (pc := 24) dX4_sendRound_24 ?_
      refine wp_aload_n (M := mX4_sendRound) (pc := 25) dX4_sendRound_25 rfl ?_
      refine wp_getI (M := mX4_sendRound) (pc := 26) fa_X4_38 rfl dX4_sendRound_26 (by first | exact kq | exact kT | exact a2) ?_
      refine so_S2 (M := mX4_sendRound) (pc := 29) cs_X4_sendRound_191 rfl rfl (LE rfl) (LE rfl) dX4_sendRound_29 ?_
      refine sp_J9_floorMod_7cf53 (b := gi h q 2) (by rw [n2]; exact nI_ne0 hn0 (by omega)) ?_
      refine kI ?_
      refine wr_aaload (M := mX4_sendRound) (pc := 32) dX4_sendRound_32 (by first | exact kq | exact kT | exact a2) (by decide) efm (by omega) (by decide) (by first | exact rT | exact a1) ?_
      refine so_astore_n (M := mX4_sendRound) (pc := 33) (lo' := [_, _, _, _]) dX4_sendRound_33 (LE rfl) (LE rfl) (Or.inr rfl) rfl ?_
      refine wp_aload_n (M := mX4_sendRound) (pc := 34) dX4_sendRound_34 rfl ?_
      refine wp_aload_n (M := mX4_sendRound) (pc := 35) dX4_sendRound_35 rfl ?_
      refine so_V1 (M := mX4_sendRound) (pc := 36) cs_X4_sendRound_194 rfl rfl (LE rfl) (LE rfl) dX4_sendRound_36 (by first | exact kq | exact kT | exact a2) ?_
      refine sp_X4_canSend hR2 (by rw [gn]; exact hmod) ?_
      refine kI ?_
      refine wp_if_eq (M := mX4_sendRound) (pc := 39) (tgt := 55) dX4_sendRound_39 rfl (fun t39 => ?_) (fun f39 => ?_)
      · have hs := b01_z t39
        refine so_iinc (M := mX4_sendRound) (pc := 55) (lo' := [_, _, _, _]) dX4_sendRound_55 rfl ci_1 (LE rfl) rfl ?_
        refine wp_goto (M := mX4_sendRound) (pc := 58) (tgt := 7) dX4_sendRound_58 rfl ?_
        first
        | (rw [show nI i + 1 = nI (i + 1) from nI_1 i]
           exact ih (i + 1) _ _ (by omega) (by omega) (by rw [rnd, sendT_n hs]; exact hR2) hF)
        | (rw [show nI i + 1 = nI (i + 1) from nI_1 i]
           have H1 := hR2.sSend (by rw [gn]; exact hmod) hs.1
           rw [n11, hm0]
           rw [hm0] at H1
           exact ih (i + 1) _ _ (by omega) (by omega) (by rw [rnd, sendT_y hs]; exact H1.sBytes _) (hF.tr (((Fr.sw (hR2.ownM (by omega))).tr (Fr.sw (hR2.ownT (by omega)))).tr (Fr.si hR2.ownS))))
        | fail "leaf"
      · have hs := b01_n f39
        have hm0 := (hT _ (by rw [gn]; exact hmod)).2.2.2.1 0 hs.1
        refine wp_aload_n (M := mX4_sendRound) (pc := 42) dX4_sendRound_42 rfl ?_
        refine wp_dup (M := mX4_sendRound) (pc := 43) dX4_sendRound_43 rfl ?_
        refine wp_getI (M := mX4_sendRound) (pc := 44) fa_X4_53 rfl dX4_sendRound_44 (by first | exact kq | exact kT | exact a2) ?_
        refine wp_aload_n (M := mX4_sendRound) (pc := 47) dX4_sendRound_47 rfl ?_
        refine so_V0 (M := mX4_sendRound) (pc := 48) cs_X4_sendRound_197 rfl rfl (LE rfl) (LE rfl) dX4_sendRound_48 (by first | exact kq | exact kT | exact a2) ?_
        refine sp_X5_sendFirst a2 a4 a5 (hR2.neTM (by omega)) ?_
        refine kI ?_
        refine wp_iadd (M := mX4_sendRound) (pc := 51) dX4_sendRound_51 ?_
        refine wp_putI (M := mX4_sendRound) (pc := 52) fa_X4_53 (Or.inl rfl) dX4_sendRound_52 (by first | exact kq | exact kT | exact a2) ?_
        refine so_iinc (M := mX4_sendRound) (pc := 55) (lo' := [_, _, _, _]) dX4_sendRound_55 rfl ci_1 (LE rfl) rfl ?_
        refine wp_goto (M := mX4_sendRound) (pc := 58) (tgt := 7) dX4_sendRound_58 rfl ?_
        first
        | (rw [show nI i + 1 = nI (i + 1) from nI_1 i]
           exact ih (i + 1) _ _ (by omega) (by omega) (by rw [rnd, sendT_n hs]; exact hR2) hF)
        | (rw [show nI i + 1 = nI (i + 1) from nI_1 i]
           have H1 := hR2.sSend (by rw [gn]; exact hmod) hs.1
           rw [n11, hm0]
           rw [hm0] at H1
           exact ih (i + 1) _ _ (by omega) (by omega) (by rw [rnd, sendT_y hs]; exact H1.sBytes _) (hF.tr (((Fr.sw (hR2.ownM (by omega))).tr (Fr.sw (hR2.ownT (by omega)))).tr (Fr.si hR2.ownS))))
        | fail "leaf"
set_option maxHeartbeats 4000000 in
set_option maxRecDepth 100000 in
theorem sp_X4_sendRound {q : Nat} {l : Lt} {A : Sta} (hR : RepC h q l A) (hn0 : 0 < sN A) (hti : sTi A < 2 ^ 30) (k : ∀ h', RepC h' q l (rnd A (sN A)) → Fr (fun x => x = q) h h' → Q (.inl (some (.int (b01 (sG A 9 < sG (rnd A (sN A)) 9))))) h') : WPx E mX4_sendRound 0 [some (.ref q), none, none, none] [] (0, 0) h Q := by
  refine wp_aload_n (M := mX4_sendRound) (pc := 0) dX4_sendRound_0 rfl ?_
  refine wp_getI (M := mX4_sendRound) (pc := 1) fa_X4_53 rfl dX4_sendRound_1 hR.1.1.1 ?_
  refine so_istore_n (M := mX4_sendRound) (pc := 4) (lo' := [_, _, _, _]) dX4_sendRound_4 (LE rfl) (LE rfl) (Or.inr rfl) rfl ?_
  refine wp_iconst (M := mX4_sendRound) (pc := 5) (v := 0) dX4_sendRound_5 ci_0 ?_
  refine so_istore_n (M := mX4_sendRound) (pc := 6) (lo' := [_, _, _, _]) dX4_sendRound_6 (LE rfl) (LE rfl) (Or.inr rfl) rfl ?_
  rw [hR.2.1.2.2.2.2.2.2.2.2.2]
  exact lp_X4_sendRound (h0 := h) hn0 hR.2.1.1.2 hti k (sN A + 1) 0 h none (by omega) (by omega) hR Fr.rf
set_option maxHeartbeats 4000000 in
set_option maxRecDepth 100000 in
theorem lp_X4_sendMessages {q : Nat} {l : Lt} {h0 : PH} {n T : Nat} (hn0 : 0 < n) (hti : T < 2 ^ 30) : ∀ (m : Nat) (i : Nat) (h : PH) (A : Sta) (P : Prop), 49 - i < m → (i ≤ 49) → (RepC h q l A) → (Fr (fun x => x = q) h0 h) → (sN A = n) → (sTi A = T) → (∀ h' B, RepC h' q l B → Fr (fun x => x = q) h0 h' → (P → B = srun (49 - i) A) → (¬ P → B = A) → Q (.inl none) h') → WPx E mX4_sendMessages 9 [some (.ref q), some (.int (b01 P)), some (.int (nI i))] [] (0, 0) h Q := by
  intro m
  induction m with
  | zero => intro i h A P hm; exact absurd hm (Nat.not_lt_zero _)
  | succ m ih =>
    intro i h A P hm hi hR hF en et k
    refine wp_iload_n (M := mX4_sendMessages) (pc := 9) dX4_sendMessages_9 rfl ?_
    refine wp_if_eq (M := mX4_sendMessages) (pc := 10) (tgt := 30) dX4_sendMessages_10 rfl (fun t10 => ?_) (fun f10 => ?_)
    · have hP := b01_z t10
      refine wp_return (M := mX4_sendMessages) (pc := 30) rfl dX4_sendMessages_30 ?_
      exact k h A hR hF (fun q9 => absurd q9 hP) (fun _ => rfl)
    · have hP := b01_n f10
      refine wp_iload_n (M := mX4_sendMessages) (pc := 13) dX4_sendMessages_13 rfl ?_
      refine wp_bipush (M := mX4_sendMessages) (pc := 14) (v := 48) dX4_sendMessages_14 cb_48 ?_
      refine wp_icmp_gt (M := mX4_sendMessages) (pc := 16) (tgt := 30) dX4_sendMessages_16 rfl (fun t16 => ?_) (fun f16 => ?_)
      · have : i = 49 := by
          rcases Nat.lt_or_ge i 49 with q9 | q9
          · exact absurd t16 (Int32.not_lt.mpr ((i_le (b := 48) (by omega) (by decide)).mpr (by omega)))
          · omega
        subst this
        refine wp_return (M := mX4_sendMessages) (pc := 30) rfl dX4_sendMessages_30 ?_
        exact k h A hR hF (fun _ => rfl) (fun _ => rfl)
      · have hlt : i < 49 := by
          rcases Nat.lt_or_ge i 49 with q9 | q9
          · exact q9
          · exact absurd ((i_lt (a := 48) (by decide) (by omega)).mpr (by omega)) f16
        refine wp_aload_n (M := mX4_sendMessages) (pc := 19) dX4_sendMessages_19 rfl ?_
        refine so_V0 (M := mX4_sendMessages) (pc := 20) cs_X4_sendMessages_188 rfl rfl (LE rfl) (LE rfl) dX4_sendMessages_20 hR.1.1.1 ?_
        refine sp_X4_sendRound hR (by omega) (by omega) (fun h1 a c => ?_)
        refine kI ?_
        refine so_istore_n (M := mX4_sendMessages) (pc := 23) (lo' := [_, _, _]) dX4_sendMessages_23 (LE rfl) (LE rfl) (Or.inr rfl) rfl ?_
        refine so_iinc (M := mX4_sendMessages) (pc := 24) (lo' := [_, _, _]) dX4_sendMessages_24 rfl ci_1 (LE rfl) rfl ?_
        refine wp_goto (M := mX4_sendMessages) (pc := 27) (tgt := 9) dX4_sendMessages_27 rfl ?_
        rw [show nI i + 1 = nI (i + 1) from nI_1 i]
        have g1 := rnd_1 A (sN A)
        have e49 : 49 - i = (49 - (i + 1)) + 1 := by omega
        refine ih (i + 1) h1 _ _ (by omega) (by omega) a (hF.tr c) ((congrArg (·.1) g1).trans en) ((congrArg (·.2.1) g1).trans et) (fun h' B r1 f1 y n => k h' B r1 f1 (fun _ => ?_) (fun q9 => absurd hP q9))
        rw [e49]
        by_cases hx : sG A 9 < sG (rnd A (sN A)) 9
        · rw [srun_y hx]; exact y hx
        · rw [srun_n hx]; exact n hx
set_option maxHeartbeats 4000000 in
set_option maxRecDepth 100000 in
theorem sp_X4_sendMessages {q : Nat} {l : Lt} {A : Sta} (hR : RepC h q l A) (hn0 : 0 < sN A) (hti : sTi A < 2 ^ 30) (k : ∀ h', RepC h' q l (srun 49 (wG A 9 0)) → Fr (fun x => x = q) h h' → Q (.inl none) h') : WPx E mX4_sendMessages 0 [some (.ref q), none, none] [] (0, 0) h Q := by
  refine wp_aload_n (M := mX4_sendMessages) (pc := 0) dX4_sendMessages_0 rfl ?_
  refine wp_iconst (M := mX4_sendMessages) (pc := 1) (v := 0) dX4_sendMessages_1 ci_0 ?_
  refine wp_putI (M := mX4_sendMessages) (pc := 2) fa_X4_53 (Or.inl rfl) dX4_sendMessages_2 hR.1.1.1 ?_
  refine wp_iconst (M := mX4_sendMessages) (pc := 5) (v := 1) dX4_sendMessages_5 ci_1 ?_
  refine so_istore_n (M := mX4_sendMessages) (pc := 6) (lo' := [_, _, _]) dX4_sendMessages_6 (LE rfl) (LE rfl) (Or.inr rfl) rfl ?_
  refine wp_iconst (M := mX4_sendMessages) (pc := 7) (v := 0) dX4_sendMessages_7 ci_0 ?_
  refine so_istore_n (M := mX4_sendMessages) (pc := 8) (lo' := [_, _, _]) dX4_sendMessages_8 (LE rfl) (LE rfl) (Or.inr rfl) rfl ?_
  rw [show (1 : Int32) = b01 True from (b01_t trivial).symm]
  exact lp_X4_sendMessages (h0 := h) (n := sN A) (T := sTi A) hn0 hti 50 0 _ _ True (by omega) (by omega) (hR.sBytes 0) (Fr.si hR.ownS) rfl rfl (fun h' B r1 f1 y n => k h' (by rw [← y trivial]; exact r1) f1)
end SP
