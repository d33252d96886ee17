theorem r4_all {l : Launch} {K : cK} {L : wL} {R : wR} {dy : cH} {tp : Nat → Nat} {t : Nat} {lw : Bool} : ∀ n, KR l K L R dy tp t lw m4_readTest 0 7 13 3 n ∧ KR l K L R dy tp t lw m4_readBoth 1 6 12 3 n ∧ KR l K L R dy tp t lw m4_readComparison 3 4 10 3 n ∧ KR l K L R dy tp t lw m4_readSum 4 3 9 2 n ∧ KR l K L R dy tp t lw m4_readTerm 5 2 8 1 n ∧ KR l K L R dy tp t lw m4_readPart 6 1 7 0 n ∧ NL l K L R dy tp t lw n ∧ LPterm l K L R dy tp t lw n ∧ LPsum l K L R dy tp t lw n ∧ LPboth l K L R dy tp t lw n ∧ LPtest l K L R dy tp t lw n
  | 0 => by
    refine ⟨?_, ?_, ?_, ?_, ?_, ?_, ?_, ?_, ?_, ?_, ?_⟩
    all_goals first | (intro br pa f v I b d hn; exact absurd hn (by omega)) | (intro br pa f f0 v I0 I b d cn_ tb hn; exact absurd hn (by omega)) | (intro br pa f f0 v I0 I b d cn_ hn; exact absurd hn (by omega))
  | n + 1 => by
    obtain ⟨kt, kb, kc, ks, km, kp, nl, l10, l9, l8, l7⟩ := r4_all (l := l) (K := K) (L := L) (R := R) (dy := dy) (tp := tp) (t := t) (lw := lw) n
    have kn := r4_plain nl
    exact ⟨r4_test kb l7, r4_both kn l8, r4_cmp ks, r4_sum km l9, r4_term kp l10, r4_part ks, r4_NL kc kt nl, r4_Lterm kp l10, r4_Lsum km l9, r4_Lboth kn l8, r4_Ltest kb l7⟩
