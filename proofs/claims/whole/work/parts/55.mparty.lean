/-! the reference's party -/
section
variable {α : Sort _}
def partyC (tx : Nat → Int32) (tl : Nat) (bad : Int32 → Nat → α) (good : Nat → Nat → Nat → Mm → α) : Nat → Nat → Nat → Nat → Nat → Mm → α
  | 0, _, K, C, N, F => good K C N F
  | f + 1, p, K, C, N, F => if sk tx tl p < tl then clauseC tx tl p K C N F bad (fun p K C N F => partyC tx tl bad good f p K C N F) else good K C N F
end
theorem sk_sk {tx : Nat → Int32} {tl : Nat} : ∀ f p, p + f = tl → sk tx tl (sk tx tl p) = sk tx tl p
  | 0, p, h => by
    have h : p = tl := h
    rw [h, sk_end, sk_end]
  | f + 1, p, h => by
    have e := sk_step (tx := tx) (tl := tl) (p := p) (by omega)
    by_cases q : tx p = 32
    · rw [if_pos q] at e
      rw [e]
      exact sk_sk f (p + 1) (by omega)
    · rw [if_neg q] at e
      rw [e, e]
theorem clauseC_sk {α : Sort _} {tx : Nat → Int32} {tl p K C N : Nat} {F : Mm} {b : Int32 → Nat → α} {g : Nat → Nat → Nat → Nat → Mm → α} (hp : p ≤ tl) : clauseC tx tl (sk tx tl p) K C N F b g = clauseC tx tl p K C N F b g := by
  unfold clauseC
  rw [sk_sk (tl - p) p (by omega)]
theorem clauseC_mono {tx : Nat → Int32} {tl p K C N : Nat} {F : Mm} {b b' : Int32 → Nat → Prop} {g g' : Nat → Nat → Nat → Nat → Mm → Prop} (hb : ∀ e y, b e y → b' e y) (hg : ∀ q K C N F, g q K C N F → g' q K C N F) (h : clauseC tx tl p K C N F b g) : clauseC tx tl p K C N F b' g' := by
  unfold clauseC at h ⊢
  split at h
  · rename_i x; rw [if_pos x]
    split at h
    · rename_i y; rw [if_pos y]; exact hb _ _ h
    · rename_i y; rw [if_neg y]
      exact kindC_mono hb (fun _ _ h => signC_mono hb (fun _ h => hg _ _ _ _ _ h) h) h
  · rename_i x; rw [if_neg x]
    split at h
    · rename_i x; rw [if_pos x]
      split at h
      · rename_i y; rw [if_pos y]; exact hb _ _ h
      · rename_i y; rw [if_neg y]
        exact childC_mono hb (fun _ _ h => signC_mono hb (fun _ h => hg _ _ _ _ _ h) h) h
    · rename_i x; rw [if_neg x]
      split at h
      · rename_i x; rw [if_pos x]
        exact lookC_mono hb (fun _ _ h => signC_mono hb (fun _ h => hg _ _ _ _ _ h) h) h
      · rename_i x; rw [if_neg x]
        split at h
        · rename_i x; rw [if_pos x]
          split at h
          · rename_i y; rw [if_pos y]; exact hb _ _ h
          · rename_i y; rw [if_neg y]
            exact thingC_mono hb (fun _ _ h => signC_mono hb (fun _ h => hg _ _ _ _ _ h) h) h
        · rename_i x; rw [if_neg x]; exact hb _ _ h
def PE (M : Mm) : Mm := up (up (up (up (up M 58 30 0) 58 37 0) 58 26 0) 84 0 0) 84 1 0
theorem r_party {A B : Nat} {M : Mm} {Q : Po} {tl : Nat} (ht : M 58 12 = nI tl) (htl : tl ≤ 240) (hl : ∀ i, i < tl → ¬ M 66 i < 0) (hq : partyC (M 66) tl (fun e y => 0 < e → ∀ M', Fr M M' → M' 58 13 = nI y → Q (some (.int (-10 - e))) (shw A B) (up M' 58 12 0)) (fun K C N F => OF K C N F → ∀ M0 M2 p, Fr M M0 → RS M0 tl p K C N F → PI (up M0 58 12 0) M2 K C N K C C 0 7 → Q (some (.int (nI C))) (shw A B) (PE M2)) (tl + 1) 0 0 0 0 M) : WP 160 0 [.ref 58, mk] [] (shw A B) (0, 0) M Q := by
  have key : ∀ f p K C N F M', tl - p < f → RS M' tl p K C N F → OF K C N F → Fr M M' → partyC (M 66) tl (fun e y => 0 < e → ∀ M', Fr M M' → M' 58 13 = nI y → Q (some (.int (-10 - e))) (shw A B) (up M' 58 12 0)) (fun K C N F => OF K C N F → ∀ M0 M2 p, Fr M M0 → RS M0 tl p K C N F → PI (up M0 58 12 0) M2 K C N K C C 0 7 → Q (some (.int (nI C))) (shw A B) (PE M2)) f p K C N F → WP 160 27 [.ref 58, .int 0] [] (shw A B) (0, 0) M' Q := by
    intro f
    induction f with
    | zero => intro p K C N F M' hf; omega
    | succ f ih =>
      intro p K C N F M' hf hR hO hF hp
      have hs := sk_le (tx := M 66) hR.1.2.2.2
      unfold partyC at hp
      have hRs : RS (up M' 58 14 (nI (sk (M 66) tl p))) tl (sk (M 66) tl p) K C N F := hR.fn (Fn.up (by omega)) (TX_at hR.1 hs.2)
      have hFs : Fr M (up M' 58 14 (nI (sk (M 66) tl p))) := hF.tr (Fr.up (Or.inr (by omega)))
      rw [w_m_party_27]
      by_cases q : sk (M 66) tl p < tl
      · rw [if_pos q] at hp
        have g : (lt (M 66) tl (sk (M 66) tl p) < 0) = False := by
          unfold lt; rw [if_pos q]; exact eq_false (hl _ q)
        simp only [w_m_party_0, w_m_party_1, w_m_party_2, w_m_party_5, w_m_party_6, w_m_party_7, w_m_party_10, w_m_party_11, w_m_party_12, w_m_party_15, w_m_party_16, w_m_party_17, w_m_party_20, w_m_party_21, w_m_party_22, w_m_party_25, w_m_party_26, w_m_party_28, w_m_party_31, w_m_party_32, w_m_party_35, w_m_party_38, w_m_party_39, w_m_party_42, w_m_party_43, w_m_party_47, w_m_party_48, w_m_party_51, w_m_party_52, w_m_party_55, w_m_party_57, w_m_party_58, w_m_party_59, w_m_party_60, w_m_party_61, w_m_party_64, w_m_party_65, w_m_party_66, w_m_party_69, w_m_party_70, w_m_party_71, w_m_party_74, w_m_party_75, w_m_party_76, w_m_party_79, w_m_party_80, w_m_party_83, w_m_party_84, w_m_party_85, w_m_party_86, w_m_party_87, w_m_party_90, w_m_party_91, w_m_party_92, w_m_party_93, w_m_party_94, w_m_party_97, xm_13, xm_14, xm_17, xm_20, xm_24, cl_58, xm_12, xm_30, xm_37, xm_26, xm_41, al_84, xm_3, e_m_here hR.1, hF.text, g, cl_58, i10, Bool.false_eq_true, eq_self, true_or, or_true, if_true, if_false, gv_int, gv_ref, av_some, al_some, un_int, un_ref, un_mk, ok4_0, ok4_1, ok4_2, ok4_3, ok4_4, Kn_some, Kn_none, true_and, and_true]
        refine r_takeClause hRs hO.1.1 hO.1.2.1 hO.1.2.2 ?_
        rw [hFs.text, clauseC_sk hR.1.2.2.2]
        refine clauseC_mono ?_ ?_ (clauseC_str hR.1.2.2.2 hO hp)
        · intro e y hb he M1 hF1 hy
          have he0 : (e = 0) = False := eq_false (fun q => by rw [q] at he; exact absurd he (by decide))
          simp only [w_m_party_0, w_m_party_1, w_m_party_2, w_m_party_5, w_m_party_6, w_m_party_7, w_m_party_10, w_m_party_11, w_m_party_12, w_m_party_15, w_m_party_16, w_m_party_17, w_m_party_20, w_m_party_21, w_m_party_22, w_m_party_25, w_m_party_26, w_m_party_28, w_m_party_31, w_m_party_32, w_m_party_35, w_m_party_38, w_m_party_39, w_m_party_42, w_m_party_43, w_m_party_46, w_m_party_47, w_m_party_48, w_m_party_51, w_m_party_52, w_m_party_55, w_m_party_57, w_m_party_58, w_m_party_59, w_m_party_60, w_m_party_61, w_m_party_64, w_m_party_65, w_m_party_66, w_m_party_69, w_m_party_70, w_m_party_71, w_m_party_74, w_m_party_75, w_m_party_76, w_m_party_79, w_m_party_80, w_m_party_83, w_m_party_84, w_m_party_85, w_m_party_86, w_m_party_87, w_m_party_90, w_m_party_91, w_m_party_92, w_m_party_93, w_m_party_94, w_m_party_97, xm_13, xm_14, xm_17, xm_20, xm_24, cl_58, xm_12, xm_30, xm_37, xm_26, xm_41, al_84, xm_3, i10, Bool.false_eq_true, eq_self, true_or, or_true, if_true, if_false, gv_int, gv_ref, av_some, al_some, un_int, un_ref, un_mk, ok4_0, ok4_1, ok4_2, ok4_3, ok4_4, Kn_some, Kn_none, true_and, and_true]
          rw [w_m_party_27]
          simp only [w_m_party_0, w_m_party_1, w_m_party_2, w_m_party_5, w_m_party_6, w_m_party_7, w_m_party_10, w_m_party_11, w_m_party_12, w_m_party_15, w_m_party_16, w_m_party_17, w_m_party_20, w_m_party_21, w_m_party_22, w_m_party_25, w_m_party_26, w_m_party_28, w_m_party_31, w_m_party_32, w_m_party_35, w_m_party_38, w_m_party_39, w_m_party_42, w_m_party_43, w_m_party_46, w_m_party_47, w_m_party_48, w_m_party_51, w_m_party_52, w_m_party_55, w_m_party_57, w_m_party_58, w_m_party_59, w_m_party_60, w_m_party_61, w_m_party_64, w_m_party_65, w_m_party_66, w_m_party_69, w_m_party_70, w_m_party_71, w_m_party_74, w_m_party_75, w_m_party_76, w_m_party_79, w_m_party_80, w_m_party_83, w_m_party_84, w_m_party_85, w_m_party_86, w_m_party_87, w_m_party_90, w_m_party_91, w_m_party_92, w_m_party_93, w_m_party_94, w_m_party_97, xm_13, xm_14, xm_17, xm_20, xm_24, cl_58, xm_12, xm_30, xm_37, xm_26, xm_41, al_84, xm_3, he0, eq_true he, i10, Bool.false_eq_true, eq_self, true_or, or_true, if_true, if_false, gv_int, gv_ref, av_some, al_some, un_int, un_ref, un_mk, ok4_0, ok4_1, ok4_2, ok4_3, ok4_4, Kn_some, Kn_none, true_and, and_true]
          exact hb he M1 (hFs.tr hF1) hy
        · intro r K1 C1 N1 F1 hg M1 hF1 hR1
          simp only [w_m_party_0, w_m_party_1, w_m_party_2, w_m_party_5, w_m_party_6, w_m_party_7, w_m_party_10, w_m_party_11, w_m_party_12, w_m_party_15, w_m_party_16, w_m_party_17, w_m_party_20, w_m_party_21, w_m_party_22, w_m_party_25, w_m_party_26, w_m_party_28, w_m_party_31, w_m_party_32, w_m_party_35, w_m_party_38, w_m_party_39, w_m_party_42, w_m_party_43, w_m_party_46, w_m_party_47, w_m_party_48, w_m_party_51, w_m_party_52, w_m_party_55, w_m_party_57, w_m_party_58, w_m_party_59, w_m_party_60, w_m_party_61, w_m_party_64, w_m_party_65, w_m_party_66, w_m_party_69, w_m_party_70, w_m_party_71, w_m_party_74, w_m_party_75, w_m_party_76, w_m_party_79, w_m_party_80, w_m_party_83, w_m_party_84, w_m_party_85, w_m_party_86, w_m_party_87, w_m_party_90, w_m_party_91, w_m_party_92, w_m_party_93, w_m_party_94, w_m_party_97, xm_13, xm_14, xm_17, xm_20, xm_24, cl_58, xm_12, xm_30, xm_37, xm_26, xm_41, al_84, xm_3, i10, Bool.false_eq_true, eq_self, true_or, or_true, if_true, if_false, gv_int, gv_ref, av_some, al_some, un_int, un_ref, un_mk, ok4_0, ok4_1, ok4_2, ok4_3, ok4_4, Kn_some, Kn_none, true_and, and_true]
          exact ih r K1 C1 N1 F1 M1 (by omega) hR1 hg.1.2.2 (hFs.tr hF1) hg.2
      · rw [if_neg q] at hp
        have g : (lt (M 66) tl (sk (M 66) tl p) < 0) = True := by
          unfold lt; rw [if_neg q]; decide
        simp only [w_m_party_0, w_m_party_1, w_m_party_2, w_m_party_5, w_m_party_6, w_m_party_7, w_m_party_10, w_m_party_11, w_m_party_12, w_m_party_15, w_m_party_16, w_m_party_17, w_m_party_20, w_m_party_21, w_m_party_22, w_m_party_25, w_m_party_26, w_m_party_28, w_m_party_31, w_m_party_32, w_m_party_35, w_m_party_38, w_m_party_39, w_m_party_42, w_m_party_43, w_m_party_46, w_m_party_47, w_m_party_48, w_m_party_51, w_m_party_52, w_m_party_55, w_m_party_57, w_m_party_58, w_m_party_59, w_m_party_60, w_m_party_61, w_m_party_64, w_m_party_65, w_m_party_66, w_m_party_69, w_m_party_70, w_m_party_71, w_m_party_74, w_m_party_75, w_m_party_76, w_m_party_79, w_m_party_80, w_m_party_83, w_m_party_84, w_m_party_85, w_m_party_86, w_m_party_87, w_m_party_90, w_m_party_91, w_m_party_92, w_m_party_93, w_m_party_94, w_m_party_97, xm_13, xm_14, xm_17, xm_20, xm_24, cl_58, xm_12, xm_30, xm_37, xm_26, xm_41, al_84, xm_3, e_m_here hR.1, hF.text, g, show ((0 : Int32) < 0) = False by decide, cl_58, i10, Bool.false_eq_true, eq_self, true_or, or_true, if_true, if_false, gv_int, gv_ref, av_some, al_some, un_int, un_ref, un_mk, ok4_0, ok4_1, ok4_2, ok4_3, ok4_4, Kn_some, Kn_none, true_and, and_true]
        generalize hM0 : up M' 58 14 (nI (sk (M 66) tl p)) = M0 at hRs hFs ⊢
        refine r_takeRead hRs.2.1 hRs.2.2.1 hRs.2.2.2.1 hO.1.1 hO.1.2.1 hO.1.2.2 (fun M2 hP => ?_)
        have h84 : ∀ x : Nat, x < 2 → vp_in (nI x) 2 := fun x hx => vp_in_nI hx (by decide)
        have i0 : vp_in (0 : Int32) 2 := h84 0 (by decide)
        have i1 : vp_in (1 : Int32) 2 := h84 1 (by decide)
        simp only [w_m_party_0, w_m_party_1, w_m_party_2, w_m_party_5, w_m_party_6, w_m_party_7, w_m_party_10, w_m_party_11, w_m_party_12, w_m_party_15, w_m_party_16, w_m_party_17, w_m_party_20, w_m_party_21, w_m_party_22, w_m_party_25, w_m_party_26, w_m_party_28, w_m_party_31, w_m_party_32, w_m_party_35, w_m_party_38, w_m_party_39, w_m_party_42, w_m_party_43, w_m_party_46, w_m_party_47, w_m_party_48, w_m_party_51, w_m_party_52, w_m_party_55, w_m_party_57, w_m_party_58, w_m_party_59, w_m_party_60, w_m_party_61, w_m_party_64, w_m_party_65, w_m_party_66, w_m_party_69, w_m_party_70, w_m_party_71, w_m_party_74, w_m_party_75, w_m_party_76, w_m_party_79, w_m_party_80, w_m_party_83, w_m_party_84, w_m_party_85, w_m_party_86, w_m_party_87, w_m_party_90, w_m_party_91, w_m_party_92, w_m_party_93, w_m_party_94, w_m_party_97, xm_13, xm_14, xm_17, xm_20, xm_24, cl_58, xm_12, xm_30, xm_37, xm_26, xm_41, al_84, xm_3, i0, i1, show ∀ X : Mm, up (up (up (up (up X 58 30 0) 58 37 0) 58 26 0) 84 0 0) 84 1 0 58 3 = X 58 3 from fun _ => rfl, hP.1.2.1, show ((0 : Int32).toNatClampNeg) = 0 by decide, show ((1 : Int32).toNatClampNeg) = 1 by decide, i10, Bool.false_eq_true, eq_self, true_or, or_true, if_true, if_false, gv_int, gv_ref, av_some, al_some, un_int, un_ref, un_mk, ok4_0, ok4_1, ok4_2, ok4_3, ok4_4, Kn_some, Kn_none, true_and, and_true]
        exact hp hO M0 M2 _ hFs hRs hP
  have hR0 : RS (up (up (up (up (up M 58 13 (-1)) 58 14 0) 58 17 0) 58 20 0) 58 24 0) tl 0 0 0 0 M := ⟨⟨ht, ⟨rfl, rfl⟩, htl, Nat.zero_le _⟩, rfl, rfl, rfl, fun c c1 c2 => by simp only [up_c]; rw [if_neg (by omega), if_neg (by omega), if_neg (by omega), if_neg (by omega), if_neg (by omega)]⟩
  have hF0 : Fr M (up (up (up (up (up M 58 13 (-1)) 58 14 0) 58 17 0) 58 20 0) 58 24 0) := ((((Fr.up (Or.inr (by omega))).tr (Fr.up (Or.inr (by omega)))).tr (Fr.up (Or.inr (by omega)))).tr (Fr.up (Or.inr (by omega)))).tr (Fr.up (Or.inr (by omega)))
  simp only [w_m_party_0, w_m_party_1, w_m_party_2, w_m_party_5, w_m_party_6, w_m_party_7, w_m_party_10, w_m_party_11, w_m_party_12, w_m_party_15, w_m_party_16, w_m_party_17, w_m_party_20, w_m_party_21, w_m_party_22, w_m_party_25, w_m_party_26, w_m_party_28, w_m_party_31, w_m_party_32, w_m_party_35, w_m_party_38, w_m_party_39, w_m_party_42, w_m_party_43, w_m_party_46, w_m_party_47, w_m_party_48, w_m_party_51, w_m_party_52, w_m_party_55, w_m_party_57, w_m_party_58, w_m_party_59, w_m_party_60, w_m_party_61, w_m_party_64, w_m_party_65, w_m_party_66, w_m_party_69, w_m_party_70, w_m_party_71, w_m_party_74, w_m_party_75, w_m_party_76, w_m_party_79, w_m_party_80, w_m_party_83, w_m_party_84, w_m_party_85, w_m_party_86, w_m_party_87, w_m_party_90, w_m_party_91, w_m_party_92, w_m_party_93, w_m_party_94, w_m_party_97, xm_13, xm_14, xm_17, xm_20, xm_24, cl_58, xm_12, xm_30, xm_37, xm_26, xm_41, al_84, xm_3, i10, Bool.false_eq_true, eq_self, true_or, or_true, if_true, if_false, gv_int, gv_ref, av_some, al_some, un_int, un_ref, un_mk, ok4_0, ok4_1, ok4_2, ok4_3, ok4_4, Kn_some, Kn_none, true_and, and_true]
  exact key (tl + 1) 0 0 0 0 M _ (by omega) hR0 ⟨⟨by omega, by omega, by omega⟩, fun i hi => absurd hi (Nat.not_lt_zero _), fun i k hi => absurd hi (Nat.not_lt_zero _), fun i hi => absurd hi (Nat.not_lt_zero _)⟩ hF0 hq
