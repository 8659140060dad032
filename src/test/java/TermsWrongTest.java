/**
 * Section Terms, sentence by sentence: what is WRONG, in which order it is looked at, and at which TOKEN it is
 * told of. Each method says which words decide its answers; the mark ^ stands before the TOKEN.
 */
public final class TermsWrongTest {
    // 15 LEAVES each
    private static final String LEAVES = "type a=int*int*int;type b=a*a*a*a*a;";
    // 13 COMPONENTS: 3 in A and 3 in B, these two, and five more
    private static final String COMPONENTS = "mod A={val x=1;val y=2;val z=3;};mod A={mod A=A;mod B=A;val x=1;val y=2;val z=3;type a=int;type b=int;};";
    // 196 SECRETS: 4, 16, and 16 with each S that follows
    private static final String SECRETS = "sig S={type a;type b;type c;type d;};sig S={mod A:S;mod B:S;mod C:S;mod D:S;};" + "sig T=S;".repeat(11);

    public static void main(String[] args) {
        fromTheLeft();
        partsFirst();
        namesThatAreNotKnown();
        noComponent();
        notOfAStructure();
        namesOfSpecs();
        seals();
        applications();
        wordIf();
        signsOfExprs();
        fstAndSnd();
        givenParts();
        leavesOfTypes();
        leavesOfExprsAndParts();
        asWritten();
        componentsOfPlains();
        componentsOfSigns();
        componentsInModulesAndFunctors();
        leavesInOffers();
        secretsOfSpecs();
        secretsOfSigns();
        secretsOfApplications();
        Bench.end();
    }

    /** "WRONG is what is not as wanted, looked at from the left" */
    private static void fromTheLeft() {
        Bench b = new Bench();
        b.wrong("val x=^y;val z=w;");
        b.wrong("val x=^y+w;");
        b.wrong("val x=(1^+true)+(true+1);");
        b.wrong("sig S={val x:^t;val x:u;};");
        b.wrong("mod A=^F(B);");
        b.wrong("val f=\\x:^t.y;");
        b.wrong("val x=(^fst 1,snd 1);");
        b.wrong("val x=1 ^2 y;");
    }

    /** "parts before that of which they are parts" */
    private static void partsFirst() {
        Bench b = new Bench();
        b.wrong("val x=if 1 then 2 else ^y;");
        b.wrong("val x=true+^y;");
        b.wrong("val x=fst snd ^y;");
        b.wrong("val x=fst ^snd 1;");
        b.wrong("val x=1 ^y;");
        b.wrong("mod A={}:>{val x:^t;};");
        b.wrong("mod A={};mod B=A(^C);");
        b.wrong("sig S={val x:int;val x:^t;};");
        b.wrong("type t=" + "int*".repeat(30) + "int->^u;");
    }

    /** "a NAME that is not known (in its sort)" */
    private static void namesThatAreNotKnown() {
        Bench b = new Bench();
        b.wrong("val x=^y;");
        b.wrong("type t=int*^u;");
        b.wrong("mod A=^B;");
        b.wrong("mod A=^B.C;");
        b.wrong("val x=^A.y;");
        b.wrong("sig S=^T;");
        b.wrong("val t=1;type u=^t;");
        b.wrong("type x=int;val y=^x;");
        b.wrong("sig S={};mod A=^S;");
        b.wrong("mod S={};mod A={}:>^S;");
    }

    /** "or no COMPONENT .. (the NAME behind the .)" */
    private static void noComponent() {
        Bench b = new Bench();
        String a = "mod A={val x=1;type t=int;mod B={};};";
        b.wrong(a + "val y=A.^y;");
        b.wrong(a + "val y=A.^t;");
        b.wrong(a + "type u=A.^x;");
        b.wrong(a + "mod C=A.^C;");
        b.wrong(a + "val y=A.B.^x;");
        b.wrong(a + "val y=A.^C.x;");
    }

    /** "or not of a STRUCTURE (the NAME behind the .)" */
    private static void notOfAStructure() {
        Bench b = new Bench();
        String f = "mod F=fun(X:{val x:int;}){val x=1;type t=int;mod A={};};";
        b.wrong(f + "val y=F.^x;");
        b.wrong(f + "type u=F.^t;");
        b.wrong(f + "mod C=F.^A;");
        b.wrong(f + "val y=F.^A.x;");
    }

    /** "of a SPEC its NAME" */
    private static void namesOfSpecs() {
        Bench b = new Bench();
        b.wrong("sig S={val x:int;val ^x:int;};");
        b.wrong("sig S={type t;type ^t;};");
        b.wrong("sig S={mod A:{};mod ^A:{};};");
    }

    /** "the :>" */
    private static void seals() {
        Bench b = new Bench();
        b.wrong("mod A={}^:>{val x:int;};");
        b.wrong("mod A={val x=1;}:>{}^:>{val x:int;};");
        b.wrong("mod A=fun(X:{})X^:>{val x:int;};");
        b.wrong("mod A={mod B={}^:>{type t;};};");
    }

    /** "the ( of F ( A ) (if F is no FUNCTOR, too)" */
    private static void applications() {
        Bench b = new Bench();
        b.wrong("mod F=fun(X:{val x:int;})X;mod A={};mod B=F^(A);");
        b.wrong("mod A={};mod B=A^(A);");
        b.wrong("mod M={mod F=fun(X:{val x:int;})X;};mod B=M.F ^( M );");
    }

    /** "if" */
    private static void wordIf() {
        Bench b = new Bench();
        b.wrong("val x=1+(^if 1 then 1 else 1);");
        b.wrong("val x=if true then 1 else ^if true then 1 else true;");
    }

    /** "+ - < ==" */
    private static void signsOfExprs() {
        Bench b = new Bench();
        for (String sign : new String[] {"+", "-", "<", "=="}) {
            b.wrong("val x=(1,2) ^" + sign + " 3;");
            b.wrong("val x=1+2+3 ^" + sign + " true;");
        }
        b.wrong("val x=1 ^+ true < 2;");
        b.wrong("val x=1 < 2 ^- true;");
    }

    /** "fst snd" */
    private static void fstAndSnd() {
        Bench b = new Bench();
        b.wrong("val x=fst((1,2),3)+ ^fst 1;");
        b.wrong("val x=^snd fst(1,(2,3));");
        b.wrong("val x=1+ ^snd(1);");
    }

    /** "of a call the first TOKEN of the PART that is given" */
    private static void givenParts() {
        Bench b = new Bench();
        String f = "val f=\\x:int.\\y:bool.x;mod A={val x=1;};";
        b.wrong(f + "val z=f ^true;");
        b.wrong(f + "val z=f 1 ^2;");
        b.wrong(f + "val z=f 1 ^(1+2);");
        b.wrong(f + "val z=f 1 ^fst(1,2);");
        b.wrong(f + "val z=f 1 ^A.x;");
        b.wrong(f + "val z=f 1 true ^3;");
        b.wrong(f + "val z=1 ^f;");
    }

    /** "a TYPE (of a TYPE ..) with more than 30 LEAVES (INT, BOOL, SECRETS in it), at its first TOKEN" */
    private static void leavesOfTypes() {
        Bench b = new Bench();
        b.good(LEAVES + "type c=b*b;type d=b->b;", 4).look(1, "c", 30).look(1, "d", 30);
        b.wrong(LEAVES + "type c=^b*b*int;");
        b.wrong(LEAVES + "type c=^b->b*bool;");
        b.wrong(LEAVES + "sig S={type t;val x:^b*b*t;};");
        b.wrong(LEAVES + "type c=int*(^b*b*int);");
        b.wrong(LEAVES + "type c=int->^b*b*int;");
        b.wrong(LEAVES + "val f=\\x: ^(b)*b*int.x;");
    }

    /** "(.. an EXPR or a PART ..)" */
    private static void leavesOfExprsAndParts() {
        Bench b = new Bench();
        String f = LEAVES + "val f=\\x:b.";
        b.good(f + "x;", 3).look(0, "f", 30);
        b.wrong(LEAVES + "val f=^\\x:b.(x,1);");
        b.wrong(LEAVES + "val f=\\y:int.^\\x:b.(x,1);");
        b.wrong(f + "fst(1,fst^(x,(x,1)));");
        b.wrong(f + "1+fst fst^((1,x),x);");
        b.wrong(f + "(fst(1,2))^((1,x),x);");
    }

    /** "as written, with what NAMES mean" */
    private static void asWritten() {
        Bench b = new Bench();
        // one NAME is one TOKEN, but has as many LEAVES as it means
        b.good(LEAVES + "type c=b;", 3).look(1, "c", 15);
        b.wrong(LEAVES + "type c=b*b;type d=^c*int;");
        // a PRODUCT is no TYPE by itself: what stands behind -> is looked at first
        b.wrong(LEAVES + "type c=b*b*b->^d;");
    }

    /** "an OFFER (of a PLAIN ..) with more than 60 COMPONENTS in it .. at its first TOKEN" */
    private static void componentsOfPlains() {
        Bench b = new Bench();
        // four of A are 4 + 52
        b.good(COMPONENTS + "mod B={mod A=A;mod B=A;mod C=A;mod D=A;val v=1;val w=1;val x=1;val y=1;};", 3).look(2, "B", 8);
        b.wrong(COMPONENTS + "mod B=^{mod A=A;mod B=A;mod C=A;mod D=A;val v=1;val w=1;val x=1;val y=1;val z=1;};");
        // those that later ones hide are not in it
        b.good(COMPONENTS + "mod B={mod A=A;mod B=A;mod C=A;mod D=A;val y=1;val y=1;val y=1;val y=1;val y=1;};", 3);
    }

    /** "(.. or a SIGN as written)" */
    private static void componentsOfSigns() {
        Bench b = new Bench();
        String s = "sig S={type t;val x:t;val y:t;val z:t;};sig S={mod A:S;mod B:S;mod C:S;};";
        // S has 15; four of them and their NAMES are 64, three 48
        b.good(s + "sig T={mod A:S;mod B:S;mod C:S;};", 3);
        b.wrong(s + "sig T=^{mod A:S;mod B:S;mod C:S;mod D:S;};");
        b.wrong(s + "mod F=fun(X:^{mod A:S;mod B:S;mod C:S;mod D:S;})X;");
        b.wrong(s + "mod A={}:> ^{mod A:S;mod B:S;mod C:S;mod D:S;};");
    }

    /** "(in MODULES and FUNCTORS, too)" */
    private static void componentsInModulesAndFunctors() {
        Bench b = new Bench();
        String s = "sig S={type t;val x:t;val y:t;val z:t;};sig S={mod A:S;mod B:S;mod C:S;};";
        // arguments and results count: 15 with each of them
        b.good(s + "sig T=fun(X:S)fun(Y:S)fun(Z:S)S;", 3);
        b.wrong(s + "sig T=^fun(X:S)fun(Y:S)fun(Z:S)fun(W:S)S;");
        b.wrong(s + "sig T=fun(X:S)fun(Y:S)fun(Z:S)S;sig U=^{mod F:T;};");
        b.good(s + "mod F=fun(X:S)fun(Y:S)fun(Z:S)Z;", 3);
        b.wrong(s + "mod F= ^fun(X:S)fun(Y:S)fun(Z:S){mod Z=Z;};");
    }

    /** "or one whose TYPE has more than 30 LEAVES, at its first TOKEN" */
    private static void leavesInOffers() {
        Bench b = new Bench();
        String f = LEAVES + "mod F=fun(X:{type t;}){mod M={val f=\\x:X.t*X.t.1;};};mod A={type t=b;};mod B={type t=a*a*a*a;};";
        b.good(f + "mod C=F(B);", 6).look(0, "C.M.f", 25);
        b.wrong(f + "mod C= ^F(A);");
        b.wrong(f + "mod C={val x=1;mod D=^F(A):>{};};");
    }

    /** "and a SECRET when there are 200: the t of its SPEC" */
    private static void secretsOfSpecs() {
        Bench b = new Bench();
        b.good(SECRETS + "sig T={type a;type b;type c;type d;};", 14).count(2, 200);
        b.wrong(SECRETS + "sig T={type a;type b;type c;type d;type ^e;};");
    }

    /** "the X of a SIGN" */
    private static void secretsOfSigns() {
        Bench b = new Bench();
        b.good(SECRETS, 13).count(2, 196);
        b.wrong(SECRETS + "sig T= ^S;");
        b.wrong(SECRETS + "mod F=fun(X:^S)X;");
    }

    /** "the ( of F ( A )" */
    private static void secretsOfApplications() {
        Bench b = new Bench();
        String f = "sig S={type a;type b;type c;type d;};sig S={mod A:S;mod B:S;mod C:S;};mod F=fun(X:S)X:>S:>S:>S;mod G=fun(A:S){";
        b.good(f + "mod A=F(A);".repeat(10) + "};", 4).count(2, 196);
        b.wrong(f + "mod A=F(A);".repeat(10) + "mod A=F ^(A);};");
    }
}
