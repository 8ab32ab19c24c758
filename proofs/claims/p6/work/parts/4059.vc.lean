/-- laysPrices behind laysTables -/
noncomputable def zX10_laysPricesL (q : dS)  : Option (dS) := zX10_laysPrices_6  dF q 1
