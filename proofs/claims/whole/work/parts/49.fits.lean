set_option maxHeartbeats 600000 in
set_option maxRecDepth 100000 in
theorem cc_countFits (l : Launch) (G : Gt) (Z : Zt) (so n : Int32) : Ct l G YX11_countFits (0, 0, 0) Z [.int so, .int n] (ΦI (fun r Z1 => Z1 = Z ∧ rb r (if so = 6 then ¬ n < 0 ∧ n ≤ 200 else if so = 8 then ¬ n < 1 ∧ n ≤ 200 else True))) := by
  refine ct_of [some (.int so), some (.int n)] (by decide +kernel) (Nat.le_of_ble_eq_true rfl) rfl (fun M => ?_)
  refine q_iload_n dX11_countFits_0 rfl ?_
  refine q_bipush (v := 6) dX11_countFits_1 (by decide) ?_
  refine q_icmp_ne 23 dX11_countFits_3 (by decide) (fun c3 => ?_) (fun c3 => ?_)
  · refine q_iload_n dX11_countFits_23 rfl ?_
    refine q_bipush (v := 8) dX11_countFits_24 (by decide) ?_
    refine q_icmp_ne 41 dX11_countFits_26 (by decide) (fun c26 => ?_) (fun c26 => ?_)
    · refine q_iconst (v := 1) dX11_countFits_41 (by decide) ?_
      refine q_goto 46 dX11_countFits_42 (by decide) ?_
      exact q_zreturn dX11_countFits_46 rfl rfl (by decide) (by decide) ⟨rfl, rb_1 (by rw [if_neg c3, if_neg c26]; trivial)⟩
    · refine q_iload_n dX11_countFits_29 rfl ?_
      refine q_iconst (v := 1) dX11_countFits_30 (by decide) ?_
      refine q_icmp_lt 45 dX11_countFits_31 (by decide) (fun c31 => ?_) (fun c31 => ?_)
      · refine q_iconst (v := 0) dX11_countFits_45 (by decide) ?_
        exact q_zreturn dX11_countFits_46 rfl rfl (by decide) (by decide) ⟨rfl, rb_0 (fun z => by rw [if_neg c3, if_pos c26] at z; exact z.1 c31)⟩
      · refine q_iload_n dX11_countFits_34 rfl ?_
        refine q_sipush (v := 200) dX11_countFits_35 (by decide) ?_
        refine q_icmp_gt 45 dX11_countFits_38 (by decide) (fun c38 => ?_) (fun c38 => ?_)
        · refine q_iconst (v := 0) dX11_countFits_45 (by decide) ?_
          exact q_zreturn dX11_countFits_46 rfl rfl (by decide) (by decide) ⟨rfl, rb_0 (fun z => by rw [if_neg c3, if_pos c26] at z; exact absurd z.2 (Int32.not_le.mpr c38))⟩
        · refine q_iconst (v := 1) dX11_countFits_41 (by decide) ?_
          refine q_goto 46 dX11_countFits_42 (by decide) ?_
          exact q_zreturn dX11_countFits_46 rfl rfl (by decide) (by decide) ⟨rfl, rb_1 (by rw [if_neg c3, if_pos c26]; exact ⟨c31, Int32.not_lt.mp c38⟩)⟩
  · refine q_iload_n dX11_countFits_6 rfl ?_
    refine q_if_lt 21 dX11_countFits_7 (by decide) (fun c7 => ?_) (fun c7 => ?_)
    · refine q_iconst (v := 0) dX11_countFits_21 (by decide) ?_
      exact q_zreturn dX11_countFits_22 rfl rfl (by decide) (by decide) ⟨rfl, rb_0 (fun z => by rw [if_pos c3] at z; exact z.1 c7)⟩
    · refine q_iload_n dX11_countFits_10 rfl ?_
      refine q_sipush (v := 200) dX11_countFits_11 (by decide) ?_
      refine q_icmp_gt 21 dX11_countFits_14 (by decide) (fun c14 => ?_) (fun c14 => ?_)
      · refine q_iconst (v := 0) dX11_countFits_21 (by decide) ?_
        exact q_zreturn dX11_countFits_22 rfl rfl (by decide) (by decide) ⟨rfl, rb_0 (fun z => by rw [if_pos c3] at z; exact absurd z.2 (Int32.not_le.mpr c14))⟩
      · refine q_iconst (v := 1) dX11_countFits_17 (by decide) ?_
        refine q_goto 22 dX11_countFits_18 (by decide) ?_
        exact q_zreturn dX11_countFits_22 rfl rfl (by decide) (by decide) ⟨rfl, rb_1 (by rw [if_pos c3]; exact ⟨c7, Int32.not_lt.mp c14⟩)⟩
