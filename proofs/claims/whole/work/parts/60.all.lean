theorem lawAll : lawK := fun E hs => lawAll0 E hs
