theorem gLe_0 {l : List (Option Value)} : gLe [] l := trivial
theorem gLe_c {v : Value} {o : Option Value} {t t' : List (Option Value)} (h : o = some v) (ht : gLe t t') : gLe (some v :: t) (o :: t') := ⟨h, ht⟩
theorem gLe_n {o : Option Value} {t t' : List (Option Value)} (ht : gLe t t') : gLe (none :: t) (o :: t') := ht
theorem g_up (e : Nat) (P : Nat → Prop) (h : ∀ i, i ≤ e → (i < e → P (i + 1)) → P i) : ∀ i, i ≤ e → P i := by
  have key : ∀ d i, i + d = e → P i := by
    intro d
    induction d with
    | zero => intro i hi; exact h i (by omega) (fun q => absurd q (by omega))
    | succ d ih => intro i hi; exact h i (by omega) (fun _ => ih (i + 1) (by omega))
  intro i hi
  exact key (e - i) i (by omega)
theorem g_dn (P : Nat → Prop) (h0 : P 0) (h : ∀ i, P i → P (i + 1)) : ∀ i, P i := fun i => Nat.rec h0 (fun i ih => h i ih) i
theorem gTr_lt {t : Nat} (h : gTr t) : t < 239 := Nat.lt_of_succ_lt h.2.2.1
theorem gFs_tr0 {b : Nat} {F : Nat → Nat → Int32} {S : Int64} {t : Nat} (h : gTr t) : (gFs b F S t)[0]? = some (.ref (b + (t + 1))) := by rw [gFs_tr h]; rfl
def gCm (k : Nat) : Prop := k = 131 ∨ k = 138
theorem gCm_k {k : Nat} (h : gCm k) : gKd k = (6, 2) := by rcases h with rfl | rfl <;> rfl
theorem gCm_lt {k : Nat} (h : gCm k) : k < 239 := by rcases h with rfl | rfl <;> decide
theorem gFs_cm0 {b : Nat} {F : Nat → Nat → Int32} {S : Int64} {k : Nat} (h : gCm k) : (gFs b F S k)[0]? = some (.ref (b + (k + 1))) := by rcases h with rfl | rfl <;> rfl
theorem gFs_cm1 {b : Nat} {F : Nat → Nat → Int32} {S : Int64} {k : Nat} (h : gCm k) : (gFs b F S k)[1]? = some (.ref (b + (k + 3))) := by rcases h with rfl | rfl <;> rfl
theorem gFs_cm2 {b : Nat} {F : Nat → Nat → Int32} {S : Int64} {k : Nat} (h : gCm k) : (gFs b F S k)[2]? = some (.ref (b + (k + 5))) := by rcases h with rfl | rfl <;> rfl
theorem gFs_cm3 {b : Nat} {F : Nat → Nat → Int32} {S : Int64} {k : Nat} (h : gCm k) : (gFs b F S k)[3]? = some (.ref (b + (k + 6))) := by rcases h with rfl | rfl <;> rfl
theorem bI_nar (b : Bool) : narrow .boolean (.int (bI b)) = .int (bI b) := by cases b <;> rfl
section QENDS
variable {G : gG} {X : gX} {own : String} {cc : ByteArray} {nL : Nat} {R : Room} {k n pc : Nat} {lv : List (Option Value)} {M M' : gMem} {μ : gM} {rm : Room}
theorem q_iret (C : gC G X own cc nL R) {v v' : Int32} (CM : gCM G X μ rm false (Rt G (some (.int v')) M')) (hret : μ.2.2.2.1 = some .int) (hk : k ≤ rm.cells) (hn : n ≤ rm.slots) (d : decode cc pc = .ok (.ireturn, 1)) (hv : v = v') (hM : M = M') : Q G X k n pc lv [.int v] M :=
  j_iret C CM hret hk hn d ⟨by rw [hv], rfl, by rw [hM]⟩
theorem q_zret (C : gC G X own cc nL R) {v : Int32} {b : Bool} (CM : gCM G X μ rm false (Rt G (some (.int (bI b))) M')) (hret : μ.2.2.2.1 = some .boolean) (hk : k ≤ rm.cells) (hn : n ≤ rm.slots) (d : decode cc pc = .ok (.ireturn, 1)) (hv : v = bI b) (hM : M = M') : Q G X k n pc lv [.int v] M :=
  j_zret C CM hret (by rw [hv]; exact bI_nar b) hk hn d ⟨by rw [hv], rfl, by rw [hM]⟩
theorem q_lret (C : gC G X own cc nL R) {v v' : Int64} (CM : gCM G X μ rm false (Rt G (some (.long v')) M')) (hret : μ.2.2.2.1 = some .long) (hk : k ≤ rm.cells) (hn : n ≤ rm.slots) (d : decode cc pc = .ok (.lreturn, 1)) (hv : v = v') (hM : M = M') : Q G X k n pc lv [.long v] M :=
  j_lret C CM hret hk hn d ⟨by rw [hv], rfl, by rw [hM]⟩
theorem q_fret (C : gC G X own cc nL R) {v v' : UInt32} (CM : gCM G X μ rm false (Rt G (some (.float v')) M')) (hret : μ.2.2.2.1 = some .float) (hk : k ≤ rm.cells) (hn : n ≤ rm.slots) (d : decode cc pc = .ok (.freturn, 1)) (hv : v = v') (hM : M = M') : Q G X k n pc lv [.float v] M :=
  j_fret C CM hret hk hn d ⟨by rw [hv], rfl, by rw [hM]⟩
theorem q_dret (C : gC G X own cc nL R) {v v' : UInt64} (CM : gCM G X μ rm false (Rt G (some (.double v')) M')) (hret : μ.2.2.2.1 = some .double) (hk : k ≤ rm.cells) (hn : n ≤ rm.slots) (d : decode cc pc = .ok (.dreturn, 1)) (hv : v = v') (hM : M = M') : Q G X k n pc lv [.double v] M :=
  j_dret C CM hret hk hn d ⟨by rw [hv], rfl, by rw [hM]⟩
theorem q_aret (C : gC G X own cc nL R) {v v' : Nat} {nm : String} (CM : gCM G X μ rm false (Rt G (some (.ref v')) M')) (hret : μ.2.2.2.1 = some (.object nm)) (hk : k ≤ rm.cells) (hn : n ≤ rm.slots) (d : decode cc pc = .ok (.areturn, 1)) (hv : v = v') (hM : M = M') : Q G X k n pc lv [.ref v] M :=
  j_aret C CM hret hk hn d ⟨by rw [hv], rfl, by rw [hM]⟩
theorem q_vret (C : gC G X own cc nL R) (CM : gCM G X μ rm false (Rt G none M')) (hret : μ.2.2.2.1 = none) (hk : k ≤ rm.cells) (hn : n ≤ rm.slots) (d : decode cc pc = .ok (.return_, 1)) (hM : M = M') : Q G X k n pc lv [] M :=
  j_vret C CM hret hk hn d ⟨rfl, rfl, by rw [hM]⟩
end QENDS
theorem vX6_changedPaths : gV mX6_changedPaths 0 7 TX6 7 := ⟨rfl, kX6_changedPaths, iX6_changedPaths, sX6_changedPaths, rfl⟩
theorem vX6_headOf : gV mX6_headOf 1 7 TX6 7 := ⟨rfl, kX6_headOf, iX6_headOf, sX6_headOf, rfl⟩
theorem vX6_isBranchNumber : gSt mX6_isBranchNumber 1 := ⟨rfl, kX6_isBranchNumber, tX6_isBranchNumber⟩
theorem vX1_treeOf : gV mX1_treeOf 1 3 TX1 8 := ⟨rfl, kX1_treeOf, iX1_treeOf, sX1_treeOf, rfl⟩
theorem vX1_has : gV mX1_has 1 3 TX1 8 := ⟨rfl, kX1_has, iX1_has, sX1_has, rfl⟩
theorem vX4_differences : gV mX4_differences 1 5 TX4 1 := ⟨rfl, kX4_differences, iX4_differences, sX4_differences, rfl⟩
theorem vX4_at : gV mX4_at 1 5 TX4 1 := ⟨rfl, kX4_at, iX4_at, sX4_at, rfl⟩
theorem vX6_currentBranch : gV mX6_currentBranch 0 7 TX6 7 := ⟨rfl, kX6_currentBranch, iX6_currentBranch, sX6_currentBranch, rfl⟩
theorem vX6_commits : gV mX6_commits 0 7 TX6 7 := ⟨rfl, kX6_commits, iX6_commits, sX6_commits, rfl⟩
theorem vX1_size : gV mX1_size 0 3 TX1 8 := ⟨rfl, kX1_size, iX1_size, sX1_size, rfl⟩
theorem vX6_packed : gV mX6_packed 0 7 TX6 7 := ⟨rfl, kX6_packed, iX6_packed, sX6_packed, rfl⟩
theorem vX3_size : gV mX3_size 0 4 TX3 6 := ⟨rfl, kX3_size, iX3_size, sX3_size, rfl⟩
theorem vX6_packSize : gV mX6_packSize 0 7 TX6 7 := ⟨rfl, kX6_packSize, iX6_packSize, sX6_packSize, rfl⟩
theorem vX3_sumOfSizes : gV mX3_sumOfSizes 0 4 TX3 6 := ⟨rfl, kX3_sumOfSizes, iX3_sumOfSizes, sX3_sumOfSizes, rfl⟩
theorem vX6_meanFiles : gV mX6_meanFiles 0 7 TX6 7 := ⟨rfl, kX6_meanFiles, iX6_meanFiles, sX6_meanFiles, rfl⟩
theorem vX1_sumOfFiles : gV mX1_sumOfFiles 0 3 TX1 8 := ⟨rfl, kX1_sumOfFiles, iX1_sumOfFiles, sX1_sumOfFiles, rfl⟩
theorem vX4_countFiles : gV mX4_countFiles 0 5 TX4 1 := ⟨rfl, kX4_countFiles, iX4_countFiles, sX4_countFiles, rfl⟩
theorem vX6_write : gV mX6_write 2 7 TX6 7 := ⟨rfl, kX6_write, iX6_write, sX6_write, rfl⟩
theorem vX6_requirePath : gSt mX6_requirePath 1 := ⟨rfl, kX6_requirePath, tX6_requirePath⟩
theorem vX4_put : gV mX4_put 2 5 TX4 1 := ⟨rfl, kX4_put, iX4_put, sX4_put, rfl⟩
theorem vX6_erase : gV mX6_erase 1 7 TX6 7 := ⟨rfl, kX6_erase, iX6_erase, sX6_erase, rfl⟩
theorem vX6_requireFile : gSt mX6_requireFile 2 := ⟨rfl, kX6_requireFile, tX6_requireFile⟩
theorem vX6_move : gV mX6_move 2 7 TX6 7 := ⟨rfl, kX6_move, iX6_move, sX6_move, rfl⟩
theorem vX6_content : gV mX6_content 1 7 TX6 7 := ⟨rfl, kX6_content, iX6_content, sX6_content, rfl⟩
theorem vX6_commit : gV mX6_commit 0 7 TX6 7 := ⟨rfl, kX6_commit, iX6_commit, sX6_commit, rfl⟩
theorem vX1_record : gV mX1_record 3 3 TX1 8 := ⟨rfl, kX1_record, iX1_record, sX1_record, rfl⟩
theorem vX1_findSame : gV mX1_findSame 3 3 TX1 8 := ⟨rfl, kX1_findSame, iX1_findSame, sX1_findSame, rfl⟩
theorem vX1_firstParent : gV mX1_firstParent 1 3 TX1 8 := ⟨rfl, kX1_firstParent, iX1_firstParent, sX1_firstParent, rfl⟩
theorem vX1_secondParent : gV mX1_secondParent 1 3 TX1 8 := ⟨rfl, kX1_secondParent, iX1_secondParent, sX1_secondParent, rfl⟩
theorem vX4_copy : gV mX4_copy 1 5 TX4 1 := ⟨rfl, kX4_copy, iX4_copy, sX4_copy, rfl⟩
theorem vX1_generationAt : gV mX1_generationAt 1 3 TX1 8 := ⟨rfl, kX1_generationAt, iX1_generationAt, sX1_generationAt, rfl⟩
theorem vJ9_max_7cf53 : gSt mJ9_max_7cf53 2 := ⟨rfl, kJ9_max_7cf53, tJ9_max_7cf53⟩
theorem vX1_ancestorsAt : gV mX1_ancestorsAt 1 3 TX1 8 := ⟨rfl, kX1_ancestorsAt, iX1_ancestorsAt, sX1_ancestorsAt, rfl⟩
theorem vX6_takeAsHead : gV mX6_takeAsHead 1 7 TX6 7 := ⟨rfl, kX6_takeAsHead, iX6_takeAsHead, sX6_takeAsHead, rfl⟩
theorem vX3_catchUpWith : gV mX3_catchUpWith 1 4 TX3 6 := ⟨rfl, kX3_catchUpWith, iX3_catchUpWith, sX3_catchUpWith, rfl⟩
theorem vX3_add : gV mX3_add 1 4 TX3 6 := ⟨rfl, kX3_add, iX3_add, sX3_add, rfl⟩
theorem vX3_find : gV mX3_find 1 4 TX3 6 := ⟨rfl, kX3_find, iX3_find, sX3_find, rfl⟩
theorem vX2_likeness : gSt mX2_likeness 2 := ⟨rfl, kX2_likeness, tX2_likeness⟩
theorem vX6_branch : gV mX6_branch 1 7 TX6 7 := ⟨rfl, kX6_branch, iX6_branch, sX6_branch, rfl⟩
theorem vX6_checkOut : gV mX6_checkOut 1 7 TX6 7 := ⟨rfl, kX6_checkOut, iX6_checkOut, sX6_checkOut, rfl⟩
theorem vX6_requireHead : gV mX6_requireHead 1 7 TX6 7 := ⟨rfl, kX6_requireHead, iX6_requireHead, sX6_requireHead, rfl⟩
theorem vX6_requireNoChanges : gV mX6_requireNoChanges 0 7 TX6 7 := ⟨rfl, kX6_requireNoChanges, iX6_requireNoChanges, sX6_requireNoChanges, rfl⟩
theorem vX6_reset : gV mX6_reset 1 7 TX6 7 := ⟨rfl, kX6_reset, iX6_reset, sX6_reset, rfl⟩
theorem vX6_requireCommit : gV mX6_requireCommit 1 7 TX6 7 := ⟨rfl, kX6_requireCommit, iX6_requireCommit, sX6_requireCommit, rfl⟩
theorem vX6_merge : gV mX6_merge 1 7 TX6 7 := ⟨rfl, kX6_merge, iX6_merge, sX6_merge, rfl⟩
theorem vX1_contains : gV mX1_contains 2 3 TX1 8 := ⟨rfl, kX1_contains, iX1_contains, sX1_contains, rfl⟩
theorem vX1_isIn : gV mX1_isIn 2 3 TX1 8 := ⟨rfl, kX1_isIn, iX1_isIn, sX1_isIn, rfl⟩
theorem vX6_recordMerge : gV mX6_recordMerge 2 7 TX6 7 := ⟨rfl, kX6_recordMerge, iX6_recordMerge, sX6_recordMerge, rfl⟩
theorem vX1_bestBase : gV mX1_bestBase 2 3 TX1 8 := ⟨rfl, kX1_bestBase, iX1_bestBase, sX1_bestBase, rfl⟩
theorem vX5_run : gV mX5_run 4 6 TX5 5 := ⟨rfl, kX5_run, iX5_run, sX5_run, rfl⟩
theorem vX0_run : gV mX0_run 2 2 TX0 4 := ⟨rfl, kX0_run, iX0_run, sX0_run, rfl⟩
theorem vX0_takeMoves : gV mX0_takeMoves 1 2 TX0 4 := ⟨rfl, kX0_takeMoves, iX0_takeMoves, sX0_takeMoves, rfl⟩
theorem vX0_isFreeToLeave : gV mX0_isFreeToLeave 1 2 TX0 4 := ⟨rfl, kX0_isFreeToLeave, iX0_isFreeToLeave, sX0_isFreeToLeave, rfl⟩
theorem vX0_target : gV mX0_target 1 2 TX0 4 := ⟨rfl, kX0_target, iX0_target, sX0_target, rfl⟩
theorem vX0_isFreeToCome : gV mX0_isFreeToCome 1 2 TX0 4 := ⟨rfl, kX0_isFreeToCome, iX0_isFreeToCome, sX0_isFreeToCome, rfl⟩
theorem vX0_source : gV mX0_source 1 2 TX0 4 := ⟨rfl, kX0_source, iX0_source, sX0_source, rfl⟩
theorem vX0_contentBefore : gV mX0_contentBefore 1 2 TX0 4 := ⟨rfl, kX0_contentBefore, iX0_contentBefore, sX0_contentBefore, rfl⟩
theorem vX5_follow : gV mX5_follow 1 6 TX5 5 := ⟨rfl, kX5_follow, iX5_follow, sX5_follow, rfl⟩
theorem vX0_placeOf : gV mX0_placeOf 1 2 TX0 4 := ⟨rfl, kX0_placeOf, iX0_placeOf, sX0_placeOf, rfl⟩
theorem vX0_isNowhereOrUnchanged : gV mX0_isNowhereOrUnchanged 1 2 TX0 4 := ⟨rfl, kX0_isNowhereOrUnchanged, iX0_isNowhereOrUnchanged, sX0_isNowhereOrUnchanged, rfl⟩
theorem vX2_changed : gSt mX2_changed 3 := ⟨rfl, kX2_changed, tX2_changed⟩
theorem vX0_contentAfter : gV mX0_contentAfter 1 2 TX0 4 := ⟨rfl, kX0_contentAfter, iX0_contentAfter, sX0_contentAfter, rfl⟩
theorem vX2_mergeContents : gSt mX2_mergeContents 3 := ⟨rfl, kX2_mergeContents, tX2_mergeContents⟩
theorem vX5_arrive : gV mX5_arrive 2 6 TX5 5 := ⟨rfl, kX5_arrive, iX5_arrive, sX5_arrive, rfl⟩
theorem vX5_bringNewFiles : gV mX5_bringNewFiles 1 6 TX5 5 := ⟨rfl, kX5_bringNewFiles, iX5_bringNewFiles, sX5_bringNewFiles, rfl⟩
theorem vX0_newContentAt : gV mX0_newContentAt 1 2 TX0 4 := ⟨rfl, kX0_newContentAt, iX0_newContentAt, sX0_newContentAt, rfl⟩
theorem vX5_countCrowdedPaths : gV mX5_countCrowdedPaths 0 6 TX5 5 := ⟨rfl, kX5_countCrowdedPaths, iX5_countCrowdedPaths, sX5_countCrowdedPaths, rfl⟩
theorem vX5_merged : gV mX5_merged 0 6 TX5 5 := ⟨rfl, kX5_merged, iX5_merged, sX5_merged, rfl⟩
theorem vX6_putOnto : gV mX6_putOnto 1 7 TX6 7 := ⟨rfl, kX6_putOnto, iX6_putOnto, sX6_putOnto, rfl⟩
theorem vX6_listCommitsNotIn : gV mX6_listCommitsNotIn 2 7 TX6 7 := ⟨rfl, kX6_listCommitsNotIn, iX6_listCommitsNotIn, sX6_listCommitsNotIn, rfl⟩
theorem vX6_applyListed : gV mX6_applyListed 2 7 TX6 7 := ⟨rfl, kX6_applyListed, iX6_applyListed, sX6_applyListed, rfl⟩
theorem vJ9_min_7cf53 : gSt mJ9_min_7cf53 2 := ⟨rfl, kJ9_min_7cf53, tJ9_min_7cf53⟩
theorem vX1_dropBackTo : gV mX1_dropBackTo 1 3 TX1 8 := ⟨rfl, kX1_dropBackTo, iX1_dropBackTo, sX1_dropBackTo, rfl⟩
theorem vX6_head : gV mX6_head 1 7 TX6 7 := ⟨rfl, kX6_head, iX6_head, sX6_head, rfl⟩
theorem vX6_contentIn : gV mX6_contentIn 2 7 TX6 7 := ⟨rfl, kX6_contentIn, iX6_contentIn, sX6_contentIn, rfl⟩
theorem vX6_parentOf : gV mX6_parentOf 2 7 TX6 7 := ⟨rfl, kX6_parentOf, iX6_parentOf, sX6_parentOf, rfl⟩
theorem vX6_generation : gV mX6_generation 1 7 TX6 7 := ⟨rfl, kX6_generation, iX6_generation, sX6_generation, rfl⟩
theorem vX6_isAncestor : gV mX6_isAncestor 2 7 TX6 7 := ⟨rfl, kX6_isAncestor, iX6_isAncestor, sX6_isAncestor, rfl⟩
theorem vX6_isAncestorByWalking : gV mX6_isAncestorByWalking 2 7 TX6 7 := ⟨rfl, kX6_isAncestorByWalking, iX6_isAncestorByWalking, sX6_isAncestorByWalking, rfl⟩
theorem vX1_walkMeets : gV mX1_walkMeets 2 3 TX1 8 := ⟨rfl, kX1_walkMeets, iX1_walkMeets, sX1_walkMeets, rfl⟩
theorem vX1_clearMarks : gV mX1_clearMarks 0 3 TX1 8 := ⟨rfl, kX1_clearMarks, iX1_clearMarks, sX1_clearMarks, rfl⟩
theorem vX1_mark : gV mX1_mark 2 3 TX1 8 := ⟨rfl, kX1_mark, iX1_mark, sX1_mark, rfl⟩
theorem vX1_markParents : gV mX1_markParents 1 3 TX1 8 := ⟨rfl, kX1_markParents, iX1_markParents, sX1_markParents, rfl⟩
theorem vX1_marksAt : gV mX1_marksAt 1 3 TX1 8 := ⟨rfl, kX1_marksAt, iX1_marksAt, sX1_marksAt, rfl⟩
theorem vX6_base : gV mX6_base 2 7 TX6 7 := ⟨rfl, kX6_base, iX6_base, sX6_base, rfl⟩
theorem vX6_baseByWalking : gV mX6_baseByWalking 2 7 TX6 7 := ⟨rfl, kX6_baseByWalking, iX6_baseByWalking, sX6_baseByWalking, rfl⟩
theorem vX1_walkToBestBase : gV mX1_walkToBestBase 2 3 TX1 8 := ⟨rfl, kX1_walkToBestBase, iX1_walkToBestBase, sX1_walkToBestBase, rfl⟩
theorem vX6_bases : gV mX6_bases 2 7 TX6 7 := ⟨rfl, kX6_bases, iX6_bases, sX6_bases, rfl⟩
theorem vX1_countBases : gV mX1_countBases 2 3 TX1 8 := ⟨rfl, kX1_countBases, iX1_countBases, sX1_countBases, rfl⟩
theorem vJ13_bitCount_95d88 : gSt mJ13_bitCount_95d88 1 := ⟨rfl, kJ13_bitCount_95d88, tJ13_bitCount_95d88⟩
theorem vX6_movedTo : gV mX6_movedTo 3 7 TX6 7 := ⟨rfl, kX6_movedTo, iX6_movedTo, sX6_movedTo, rfl⟩
theorem vX5_moveBetween : gV mX5_moveBetween 3 6 TX5 5 := ⟨rfl, kX5_moveBetween, iX5_moveBetween, sX5_moveBetween, rfl⟩
theorem vX6_conflicts : gV mX6_conflicts 2 7 TX6 7 := ⟨rfl, kX6_conflicts, iX6_conflicts, sX6_conflicts, rfl⟩
theorem vX6_lastChange : gV mX6_lastChange 1 7 TX6 7 := ⟨rfl, kX6_lastChange, iX6_lastChange, sX6_lastChange, rfl⟩
theorem vX1_lastChangeAt : gV mX1_lastChangeAt 2 3 TX1 8 := ⟨rfl, kX1_lastChangeAt, iX1_lastChangeAt, sX1_lastChangeAt, rfl⟩
theorem vX6_depthOf : gV mX6_depthOf 1 7 TX6 7 := ⟨rfl, kX6_depthOf, iX6_depthOf, sX6_depthOf, rfl⟩
theorem vX3_depthAt : gV mX3_depthAt 1 4 TX3 6 := ⟨rfl, kX3_depthAt, iX3_depthAt, sX3_depthAt, rfl⟩
theorem vX3_hasPlace : gV mX3_hasPlace 1 4 TX3 6 := ⟨rfl, kX3_hasPlace, iX3_hasPlace, sX3_hasPlace, rfl⟩
theorem vX6_packedFrom : gV mX6_packedFrom 1 7 TX6 7 := ⟨rfl, kX6_packedFrom, iX6_packedFrom, sX6_packedFrom, rfl⟩
theorem vX3_sourceAt : gV mX3_sourceAt 1 4 TX3 6 := ⟨rfl, kX3_sourceAt, iX3_sourceAt, sX3_sourceAt, rfl⟩
theorem vX6_packShare : gV mX6_packShare 0 7 TX6 7 := ⟨rfl, kX6_packShare, iX6_packShare, sX6_packShare, rfl⟩
theorem vX7_thrown : gV mX7_thrown 0 8 TX7 25 := ⟨rfl, kX7_thrown, iX7_thrown, sX7_thrown, rfl⟩
theorem vX7_write : gV mX7_write 2 8 TX7 25 := ⟨rfl, kX7_write, iX7_write, sX7_write, rfl⟩
theorem vX7_isPath : gSt mX7_isPath 1 := ⟨rfl, kX7_isPath, tX7_isPath⟩
theorem vX7_in : gSt mX7_in 3 := ⟨rfl, kX7_in, tX7_in⟩
theorem vX7_erase : gV mX7_erase 1 8 TX7 25 := ⟨rfl, kX7_erase, iX7_erase, sX7_erase, rfl⟩
theorem vX7_lacks : gV mX7_lacks 1 8 TX7 25 := ⟨rfl, kX7_lacks, iX7_lacks, sX7_lacks, rfl⟩
theorem vX7_move : gV mX7_move 2 8 TX7 25 := ⟨rfl, kX7_move, iX7_move, sX7_move, rfl⟩
theorem vX7_raises : gV mX7_raises 1 8 TX7 25 := ⟨rfl, kX7_raises, iX7_raises, sX7_raises, rfl⟩
theorem vX7_content : gV mX7_content 1 8 TX7 25 := ⟨rfl, kX7_content, iX7_content, sX7_content, rfl⟩
theorem vX7_changedPaths : gV mX7_changedPaths 0 8 TX7 25 := ⟨rfl, kX7_changedPaths, iX7_changedPaths, sX7_changedPaths, rfl⟩
theorem vX7_changed : gV mX7_changed 0 8 TX7 25 := ⟨rfl, kX7_changed, iX7_changed, sX7_changed, rfl⟩
theorem vX7_commit : gV mX7_commit 0 8 TX7 25 := ⟨rfl, kX7_commit, iX7_commit, sX7_commit, rfl⟩
theorem vX7_made : gV mX7_made 3 8 TX7 25 := ⟨rfl, kX7_made, iX7_made, sX7_made, rfl⟩
theorem vX7_isSame : gSt mX7_isSame 2 := ⟨rfl, kX7_isSame, tX7_isSame⟩
theorem vX7_branch : gV mX7_branch 1 8 TX7 25 := ⟨rfl, kX7_branch, iX7_branch, sX7_branch, rfl⟩
theorem vX7_checkOut : gV mX7_checkOut 1 8 TX7 25 := ⟨rfl, kX7_checkOut, iX7_checkOut, sX7_checkOut, rfl⟩
theorem vX7_isNone : gV mX7_isNone 1 8 TX7 25 := ⟨rfl, kX7_isNone, iX7_isNone, sX7_isNone, rfl⟩
theorem vX7_becomes : gV mX7_becomes 1 8 TX7 25 := ⟨rfl, kX7_becomes, iX7_becomes, sX7_becomes, rfl⟩
theorem vX7_reset : gV mX7_reset 1 8 TX7 25 := ⟨rfl, kX7_reset, iX7_reset, sX7_reset, rfl⟩
theorem vX7_isCommit : gV mX7_isCommit 1 8 TX7 25 := ⟨rfl, kX7_isCommit, iX7_isCommit, sX7_isCommit, rfl⟩
theorem vX7_merge : gV mX7_merge 1 8 TX7 25 := ⟨rfl, kX7_merge, iX7_merge, sX7_merge, rfl⟩
theorem vX7_isAbove : gV mX7_isAbove 2 8 TX7 25 := ⟨rfl, kX7_isAbove, iX7_isAbove, sX7_isAbove, rfl⟩
theorem vX7_findsAbove : gV mX7_findsAbove 2 8 TX7 25 := ⟨rfl, kX7_findsAbove, iX7_findsAbove, sX7_findsAbove, rfl⟩
theorem vX7_bestBase : gV mX7_bestBase 2 8 TX7 25 := ⟨rfl, kX7_bestBase, iX7_bestBase, sX7_bestBase, rfl⟩
theorem vX7_findsBases : gV mX7_findsBases 2 8 TX7 25 := ⟨rfl, kX7_findsBases, iX7_findsBases, sX7_findsBases, rfl⟩
theorem vX7_merges : gV mX7_merges 3 8 TX7 25 := ⟨rfl, kX7_merges, iX7_merges, sX7_merges, rfl⟩
theorem vX7_findsMoves : gV mX7_findsMoves 3 8 TX7 25 := ⟨rfl, kX7_findsMoves, iX7_findsMoves, sX7_findsMoves, rfl⟩
theorem vX7_isTarget : gSt mX7_isTarget 2 := ⟨rfl, kX7_isTarget, tX7_isTarget⟩
theorem vX7_likeness : gSt mX7_likeness 2 := ⟨rfl, kX7_likeness, tX7_likeness⟩
theorem vX7_line : gSt mX7_line 2 := ⟨rfl, kX7_line, tX7_line⟩
theorem vX7_follows : gV mX7_follows 4 8 TX7 25 := ⟨rfl, kX7_follows, iX7_follows, sX7_follows, rfl⟩
theorem vX7_placeOf : gSt mX7_placeOf 3 := ⟨rfl, kX7_placeOf, tX7_placeOf⟩
theorem vX7_joined : gSt mX7_joined 3 := ⟨rfl, kX7_joined, tX7_joined⟩
theorem vX7_comes : gV mX7_comes 2 8 TX7 25 := ⟨rfl, kX7_comes, iX7_comes, sX7_comes, rfl⟩
theorem vX7_isNew : gSt mX7_isNew 4 := ⟨rfl, kX7_isNew, tX7_isNew⟩
theorem vX7_putOnto : gV mX7_putOnto 1 8 TX7 25 := ⟨rfl, kX7_putOnto, iX7_putOnto, sX7_putOnto, rfl⟩
theorem vX7_applied : gV mX7_applied 2 8 TX7 25 := ⟨rfl, kX7_applied, iX7_applied, sX7_applied, rfl⟩
theorem vX7_currentBranch : gV mX7_currentBranch 0 8 TX7 25 := ⟨rfl, kX7_currentBranch, iX7_currentBranch, sX7_currentBranch, rfl⟩
theorem vX7_head : gV mX7_head 1 8 TX7 25 := ⟨rfl, kX7_head, iX7_head, sX7_head, rfl⟩
theorem vX7_commits : gV mX7_commits 0 8 TX7 25 := ⟨rfl, kX7_commits, iX7_commits, sX7_commits, rfl⟩
theorem vX7_contentIn : gV mX7_contentIn 2 8 TX7 25 := ⟨rfl, kX7_contentIn, iX7_contentIn, sX7_contentIn, rfl⟩
theorem vX7_parentOf : gV mX7_parentOf 2 8 TX7 25 := ⟨rfl, kX7_parentOf, iX7_parentOf, sX7_parentOf, rfl⟩
theorem vX7_generation : gV mX7_generation 1 8 TX7 25 := ⟨rfl, kX7_generation, iX7_generation, sX7_generation, rfl⟩
theorem vX7_findsGenerations : gV mX7_findsGenerations 0 8 TX7 25 := ⟨rfl, kX7_findsGenerations, iX7_findsGenerations, sX7_findsGenerations, rfl⟩
theorem vX7_isAncestor : gV mX7_isAncestor 2 8 TX7 25 := ⟨rfl, kX7_isAncestor, iX7_isAncestor, sX7_isAncestor, rfl⟩
theorem vX7_areCommits : gV mX7_areCommits 2 8 TX7 25 := ⟨rfl, kX7_areCommits, iX7_areCommits, sX7_areCommits, rfl⟩
theorem vX7_isAncestorByWalking : gV mX7_isAncestorByWalking 2 8 TX7 25 := ⟨rfl, kX7_isAncestorByWalking, iX7_isAncestorByWalking, sX7_isAncestorByWalking, rfl⟩
theorem vX7_base : gV mX7_base 2 8 TX7 25 := ⟨rfl, kX7_base, iX7_base, sX7_base, rfl⟩
theorem vX7_baseByWalking : gV mX7_baseByWalking 2 8 TX7 25 := ⟨rfl, kX7_baseByWalking, iX7_baseByWalking, sX7_baseByWalking, rfl⟩
theorem vX7_bases : gV mX7_bases 2 8 TX7 25 := ⟨rfl, kX7_bases, iX7_bases, sX7_bases, rfl⟩
theorem vX7_movedTo : gV mX7_movedTo 3 8 TX7 25 := ⟨rfl, kX7_movedTo, iX7_movedTo, sX7_movedTo, rfl⟩
theorem vX7_conflicts : gV mX7_conflicts 2 8 TX7 25 := ⟨rfl, kX7_conflicts, iX7_conflicts, sX7_conflicts, rfl⟩
theorem vX7_lastChange : gV mX7_lastChange 1 8 TX7 25 := ⟨rfl, kX7_lastChange, iX7_lastChange, sX7_lastChange, rfl⟩
theorem vX7_packed : gV mX7_packed 0 8 TX7 25 := ⟨rfl, kX7_packed, iX7_packed, sX7_packed, rfl⟩
theorem vX7_packsAll : gV mX7_packsAll 0 8 TX7 25 := ⟨rfl, kX7_packsAll, iX7_packsAll, sX7_packsAll, rfl⟩
theorem vX7_packedAt : gV mX7_packedAt 1 8 TX7 25 := ⟨rfl, kX7_packedAt, iX7_packedAt, sX7_packedAt, rfl⟩
theorem vX7_packs : gV mX7_packs 1 8 TX7 25 := ⟨rfl, kX7_packs, iX7_packs, sX7_packs, rfl⟩
theorem vX7_depthOf : gV mX7_depthOf 1 8 TX7 25 := ⟨rfl, kX7_depthOf, iX7_depthOf, sX7_depthOf, rfl⟩
theorem vX7_packedFrom : gV mX7_packedFrom 1 8 TX7 25 := ⟨rfl, kX7_packedFrom, iX7_packedFrom, sX7_packedFrom, rfl⟩
theorem vX7_packSize : gV mX7_packSize 0 8 TX7 25 := ⟨rfl, kX7_packSize, iX7_packSize, sX7_packSize, rfl⟩
theorem vX7_sum : gV mX7_sum 0 8 TX7 25 := ⟨rfl, kX7_sum, iX7_sum, sX7_sum, rfl⟩
theorem vX7_packShare : gV mX7_packShare 0 8 TX7 25 := ⟨rfl, kX7_packShare, iX7_packShare, sX7_packShare, rfl⟩
theorem vX7_meanFiles : gV mX7_meanFiles 0 8 TX7 25 := ⟨rfl, kX7_meanFiles, iX7_meanFiles, sX7_meanFiles, rfl⟩
