/-! RULES, by hand: the state behind (as the decisions read it) -/
noncomputable section
def zq_ruE (kM kC kT kO kL kF kU : Nat) : List (Nat × Nat) := [(kC, 0), (kT, 0), (kO, 0), (kL, 0), (kF, 0), (kU, 0), (kM, 9), (kM, 26)]
def zq_ruY (KT : List zk_K) (E2 : List (Nat × Nat)) (x : zk_S) : zk_S := zk_pu (zk_af (zk_st (zk_pu (zk_st (zk_ex KT E2 x true) []) [] zk_I [] []) []) [(0, 1002, x.1)] [] []) [] (0, 0, 19) [] []
end
