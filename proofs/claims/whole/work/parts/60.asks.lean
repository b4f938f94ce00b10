/-! ===== asks, as operations of both ===== -/
theorem o_between (d : Nat) (s : sS) (a b : Int32) : opC (d + 2) mX9_between [.ref 0, .int a, .int b] s (.int (aBetween s a b)) s := opC.pure fun S G hc => c_X9_between d S G s hc a b
theorem r_between (d : Nat) (s : sS) (a b : Int32) : opM (d + 2) mX10_between [.ref 54, .int a, .int b] s (.int (aBetween s a b)) s := opM.pure fun S G hc => m_between d S G s hc a b
theorem o_about (d : Nat) (s : sS) (x w : Int32) : opC (d + 2) mX9_about [.ref 0, .int x, .int w] s (.int (aAbout s x w)) s := opC.pure fun S G hc => c_X9_about d S G s hc x w
theorem r_about (d : Nat) (s : sS) (x w : Int32) : opM (d + 2) mX10_about [.ref 54, .int x, .int w] s (.int (aAbout s x w)) s := opM.pure fun S G hc => m_about d S G s hc x w
theorem o_as (d : Nat) (s : sS) (x k : Int32) : opC (d + 1) mX9_as [.ref 0, .int x, .int k] s (.int (aAs s x k)) s := opC.pure fun S G hc => c_X9_as d S G s hc x k
theorem r_as (d : Nat) (s : sS) (x k : Int32) : opM (d + 2) mX10_as [.ref 54, .int x, .int k] s (.int (aAs s x k)) s := opM.pure fun S G hc => m_as d S G s hc x k
theorem o_self (d : Nat) (s : sS) (x q w : Int32) : opC (d + 1) mX9_self [.ref 0, .int x, .int q, .int w] s (.int (aSelf s x q w)) s := opC.pure fun S G hc => c_X9_self d S G s hc x q w
theorem r_self (d : Nat) (s : sS) (x q w : Int32) : opM (d + 2) mX10_self [.ref 54, .int x, .int q, .int w] s (.int (aSelf s x q w)) s := opM.pure fun S G hc => m_self d S G s hc x q w
theorem o_there (d : Nat) (s : sS) (x m r : Int32) : opC (d + 2) mX9_there [.ref 0, .int x, .int m, .int r] s (.int (aThere s x m r)) s := opC.pure fun S G hc => c_X9_there d S G s hc x m r
theorem r_there (d : Nat) (s : sS) (x m r : Int32) : opM (d + 2) mX10_there [.ref 54, .int x, .int m, .int r] s (.int (aThere s x m r)) s := opM.pure fun S G hc => m_there d S G s hc x m r
theorem o_met (d : Nat) (s : sS) (x : Int32) : opC (d + 4) mX9_met [.ref 0, .int x] s (.int (aMet s x)) s := opC.pure fun S G hc => c_X9_met d S G s hc x
theorem r_met (d : Nat) (s : sS) (x : Int32) : opM (d + 2) mX10_met [.ref 54, .int x] s (.int (aMet s x)) s := opM.pure fun S G hc => m_met d S G s hc x
theorem o_most (d : Nat) (s : sS) (x w : Int32) : opC (d + 3) mX9_most [.ref 0, .int x, .int w] s (.int (aMost s x w)) s := opC.pure fun S G hc => c_X9_most d S G s hc x w
theorem r_most (d : Nat) (s : sS) (x w : Int32) : opM (d + 2) mX10_most [.ref 54, .int x, .int w] s (.int (aMost s x w)) s := opM.pure fun S G hc => m_most d S G s hc x w
theorem o_meet (d : Nat) (s : sS) (x y : Int32) : opC (d + 3) mX9_meet [.ref 0, .int x, .int y] s (.int (aMeet s x y)) s := opC.pure fun S G hc => c_X9_meet d S G s hc x y
theorem r_meet (d : Nat) (s : sS) (x y : Int32) : opM (d + 3) mX10_meet [.ref 54, .int x, .int y] s (.int (aMeet s x y)) s := opM.pure fun S G hc => m_meet d S G s hc x y
theorem o_locked (d : Nat) (s : sS)  : opC (d + 2) mX9_locked [.ref 0] s (.int (aLocked s)) s := opC.pure fun S G hc => c_X9_locked d S G s hc
theorem r_locked (d : Nat) (s : sS)  : opM (d + 2) mX10_locked [.ref 54] s (.int (aLocked s)) s := opM.pure fun S G hc => m_locked d S G s hc
theorem o_done (d : Nat) (s : sS) (x : Int32) : opC (d + 3) mX9_done [.ref 0, .int x] s (.int (aDone s x)) s := opC.pure fun S G hc => c_X9_done d S G s hc x
theorem r_done (d : Nat) (s : sS) (x : Int32) : opM (d + 3) mX10_done [.ref 54, .int x] s (.int (aDone s x)) s := opM.pure fun S G hc => m_done d S G s hc x
theorem o_whose (d : Nat) (s : sS)  : opC (d + 3) mX9_whose [.ref 0] s (.int (whoseN s)) s := opC.pure fun S G hc => c_X9_whose d S G s hc
theorem r_whose (d : Nat) (s : sS)  : opM (d + 3) mX10_whose [.ref 54] s (.int (whoseN s)) s := opM.pure fun S G hc => m_whose d S G s hc
theorem o_pair (d : Nat) (s : sS) (x y : Int32) : opC (d + 3) mX9_pair [.ref 0, .int x, .int y] s (.int (aPair s x y)) s := opC.pure fun S G hc => c_X9_pair d S G s hc x y
theorem r_pair (d : Nat) (s : sS) (x y : Int32) : opM (d + 3) mX10_pair [.ref 54, .int x, .int y] s (.int (aPair s x y)) s := opM.pure fun S G hc => m_pair d S G s hc x y
theorem o_count (d : Nat) (s : sS) (w : Int32) : opC (d + 1) mX9_count [.ref 0, .int w] s (.int (aCount s w)) s := opC.pure fun S G hc => c_X9_count d S G s hc w
theorem r_count (d : Nat) (s : sS) (w : Int32) : opM (d + 1) mX10_count [.ref 54, .int w] s (.int (aCount s w)) s := opM.pure fun S G hc => m_count d S G s hc w
theorem o_digest (d : Nat) (s : sS) : opC (d + 6) mX9_digest [.ref 0] s (.long (aDigest s)) s := opC.pure fun S G hc => c_X9_digest d S G s hc
