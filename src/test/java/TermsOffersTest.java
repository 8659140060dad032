/**
 * Section Terms, sentence by sentence: TYPES, OFFERS, what is known, SIGNS, MATCHING, MODULES and EXPRS. Each
 * method says which words decide its answers; the mark ^ stands before the TOKEN that is WRONG.
 */
public final class TermsOffersTest {
    public static void main(String[] args) {
        fiveKindsOfTypes();
        secretsNumberedAsMade();
        structures();
        functors();
        knownFromThereOn();
        tillTheEndOfTheRow();
        alsoInRowsInIt();
        theLatestIsMeant();
        signaturesAreNoComponents();
        theOthersAre();
        componentOfTheStructure();
        hiddenTypes();
        specsAreWhatTheySay();
        hiddenInTheWhole();
        specsAreKnown();
        specsTwice();
        whatItMeantWhereItWasBound();
        newSecretsInOrder();
        functorsOfSigns();
        noneHiddenItself();
        eachComponentBySortAndName();
        hiddenOnesStandForTypes();
        alsoInModules();
        typesAreTheSame();
        modulesMatch();
        argumentsOfFunctors();
        resultsOfFunctors();
        rowsAndPaths();
        mustMatch();
        nobodyElseKnows();
        parametersAreTheHiddenOnes();
        madeAreThoseFree();
        functorsBind();
        applications();
        newSecretsForThoseMade();
        numeralsAndTruths();
        functions();
        callsWantAnArrow();
        ifWantsABool();
        sumsAndComparisonsWantInts();
        fstAndSndWantAPair();
        Bench.end();
    }

    /** "TYPES are INT, BOOL, ARROWS from one to one, PAIRS, and SECRETS" */
    private static void fiveKindsOfTypes() {
        Bench b = new Bench().good("type a=int;type b=bool;type c=int->bool;type d=int*bool;mod A={type t=int;}:>{type t;};", 5);
        b.type("a", 1, "int").type("b", 1, "bool").type("c", 2, "(int->bool)").type("d", 2, "(int*bool)").type("A.t", 1, "#0");
    }

    /** "numbered 0, 1, .. as they are made" */
    private static void secretsNumberedAsMade() {
        Bench b = new Bench().good("mod A={type t=int;type u=int;}:>{type t;type u;};mod B={type t=int;}:>{type t;};", 2).count(2, 3);
        b.type("A.t", 1, "#0").type("A.u", 1, "#1").type("B.t", 1, "#2");
    }

    /** "STRUCTURES: a row of COMPONENTS, a VALUE with its TYPE, a TYPE that is one, or a MODULE with its OFFER, each with its NAME" */
    private static void structures() {
        Bench b = new Bench().good("mod A={val x=true;type x=int*int;mod X={val y=1;};mod Y=fun(X:{})X;};", 1).look(2, "A", 4);
        b.value("A.x", 1, "bool").type("A.x", 2, "(int*int)").look(2, "A.X", 1).look(2, "A.Y", -1);
        // "no two of one sort with the same"
        b.good("mod A={val x=1;val x=true;type x=int;};", 1).look(2, "A", 2).value("A.x", 1, "bool");
    }

    /** "FUNCTORS: SECRETS that are PARAMETERS, the OFFER of the argument, SECRETS that are MADE, the OFFER of the result" */
    private static void functors() {
        String f = "mod F=fun(X:{type t;val x:t;}){type u=int;val y=X.x;}:>{type u;val y:X.t;};";
        Bench b = new Bench().good(f + "mod A={type t=bool;val x=true;};mod B=F(A);", 3).look(2, "F", -1).look(2, "B", 2);
        b.value("B.y", 1, "bool").type("B.u", 1, "#2").count(2, 3);
        b.wrong(f + "mod A={type t=bool;};mod B=F^(A);");
    }

    /** "In a row of BINDINGS each one is known from there on" */
    private static void knownFromThereOn() {
        Bench b = new Bench().good("val x=1;val y=x;type t=int;type u=t;mod A={};mod B=A;sig S={};mod C=A:>S;", 8);
        b.wrong("val y=^x;val x=1;");
        b.wrong("type u=^t;type t=int;");
        b.wrong("mod B=^A;mod A={};");
        b.wrong("mod C={}:>^S;sig S={};");
        b.wrong("val x=^x;");
    }

    /** "till the end of that row" */
    private static void tillTheEndOfTheRow() {
        Bench b = new Bench();
        b.wrong("mod A={val x=1;};val y=^x;");
        b.wrong("mod A={type t=int;};type u=^t;");
        b.wrong("mod A={mod B={};};mod C=^B;");
        b.wrong("mod A={sig S={};};mod C={}:>^S;");
        b.good("val x=true;mod A={val x=1;};val y=if x then 1 else 2;", 3);
    }

    /** "also in rows in it" */
    private static void alsoInRowsInIt() {
        new Bench().good("val x=1;type t=int;mod B={};sig S={};mod A={mod A={val y=x+1;type u=t;mod C=B:>S;};};", 5).look(2, "A.A", 3);
    }

    /** "of several of one sort with the same NAME the latest one is meant" */
    private static void theLatestIsMeant() {
        Bench b = new Bench().good("val x=true;val x=1;val y=x+1;type t=bool;type t=int;val f=\\x:t.x+1;mod A={};mod A={val z=1;};val z=A.z;", 9);
        b.run(9, 1, 8).result("y", 2).result("z", 1);
        b.good("sig S={val x:int;};sig S={};mod A={}:>S;", 3);
        // another sort is another matter
        b.good("val t=1;type t=bool;val y=t+1;mod S={};sig S={val x:int;};mod B=S;", 6);
    }

    /** "SIGNATURES are no COMPONENTS" */
    private static void signaturesAreNoComponents() {
        Bench b = new Bench().good("mod A={sig S={};val x=1;};", 1).look(2, "A", 1);
        b.wrong("mod A={sig S={};};mod B=A.^S;");
    }

    /** "the STRUCTURE of { BINDINGS } has the others, in order (of several of one sort with one NAME the latest alone, at its place)" */
    private static void theOthersAre() {
        Bench b = new Bench().good("mod A={val x=1;type t=int;mod B={};val x=true;type t=bool;mod B={val y=1;};val z=2;};", 1).look(2, "A", 4);
        b.value("A.x", 1, "bool").type("A.t", 1, "bool").look(2, "A.B", 1).value("A.z", 1, "int");
    }

    /** "X . y is the COMPONENT of the STRUCTURE X." */
    private static void componentOfTheStructure() {
        Bench b = new Bench().good("val x=1;type t=int;mod A={val x=2;type t=bool;mod B={val x=3;};};val y=A.x+A.B.x;type u=A.t;mod C=A.B;", 6);
        b.run(9, 1, 7).result("y", 5).type("u", 1, "bool").result("C.x", 3);
        b.wrong("val x=1;mod A={};val y=A.^x;");
    }

    /** "type t ; makes a SECRET, which is HIDDEN, and is a TYPE t that is it" */
    private static void hiddenTypes() {
        Bench b = new Bench().good("sig S={type t;val x:t;};mod A={type t=bool;val x=true;};mod B={type t=int;val x=true;};", 3).count(2, 1);
        b.matches("A", 'S', true).matches("B", 'S', false);
        b.good("mod A={type t=bool;val x=true;}:>{type t;val x:t;};", 1).type("A.t", 1, "#0").value("A.x", 1, "#0");
    }

    /** "type t = TYPE, val and mod are what they say" */
    private static void specsAreWhatTheySay() {
        String s = "sig S={type t=int;val x:t*bool;mod A:{val y:int;};};";
        Bench b = new Bench().good(s + "mod M={type t=int;val x=(1,true);mod A={val y=1;val z=2;};}:>S;", 2).count(2, 0).look(2, "M", 3);
        b.type("M.t", 1, "int").value("M.x", 2, "(int*bool)").look(2, "M.A", 1);
        b.wrong(s + "mod M={type t=bool;val x=(1,true);mod A={val y=1;};}^:>S;");
        b.wrong(s + "mod M={type t=int;val x=1;mod A={val y=1;};}^:>S;");
        b.wrong(s + "mod M={type t=int;val x=(1,true);mod A={};}^:>S;");
    }

    /** "(SECRETS HIDDEN in a mod are HIDDEN in the whole)" */
    private static void hiddenInTheWhole() {
        Bench b = new Bench().good("sig S={mod A:{type t;};val x:A.t;};mod M={mod A={type t=int;};val x=1;};mod N=M:>S;mod O=M:>S;", 4).matches("M", 'S', true);
        // the whole is renewed, and with it what is HIDDEN in a mod
        b.type("N.A.t", 1, "#1").value("N.x", 1, "#1").type("O.A.t", 1, "#2").value("O.x", 1, "#2");
    }

    /** "SPECS are known from there on like BINDINGS" */
    private static void specsAreKnown() {
        Bench b = new Bench().good("sig S={type t;mod A:{type u;};val x:t*A.u;mod B:{val y:t;};};", 1);
        b.wrong("sig S={val x:^t;type t;};");
        b.wrong("sig S={val x:^A.u;mod A:{type u;};};");
        b.wrong("sig S={type t;};type u=^t;");
        b.good("type t=int;sig S={type t;val x:t;};mod A={type t=bool;val x=true;}:>S;val f=\\x:t.x+1;", 4);
    }

    /** "two of one sort with one NAME are WRONG" */
    private static void specsTwice() {
        Bench b = new Bench().good("sig S={val x:int;type x;mod X:{val x:int;};};", 1);
        b.wrong("sig S={val x:int;val ^x:bool;};");
        b.wrong("sig S={type t;type ^t=int;};");
        b.wrong("sig S={mod X:{};mod ^X:{};};");
    }

    /** "X is what it meant where it was bound" */
    private static void whatItMeantWhereItWasBound() {
        Bench b = new Bench().good("type t=int;sig S={val x:t;};type t=bool;mod A={val x=1;}:>S;", 4).value("A.x", 1, "int");
        b.wrong("type t=int;sig S={val x:t;};type t=bool;mod A={val x=true;}^:>S;");
        b.good("sig T={};sig S={mod A:T;};sig T={val x:int;};mod B={mod A={};}:>S;", 4);
    }

    /** "with new SECRETS for the HIDDEN ones, in order" */
    private static void newSecretsInOrder() {
        Bench b = new Bench().good("sig S={type t;mod A:{type u;};type v;};mod M={type t=int;mod A={type u=int;};type v=int;};mod A=M:>S;mod B=M:>S;", 4).count(2, 9);
        b.type("A.t", 1, "#3").type("A.A.u", 1, "#4").type("A.v", 1, "#5").type("B.t", 1, "#6").type("B.A.u", 1, "#7").type("B.v", 1, "#8");
    }

    /** "fun ( X : SIGN ) SIGN is a FUNCTOR: the HIDDEN ones of the first are PARAMETERS, X is known in the second, whose HIDDEN ones are MADE" */
    private static void functorsOfSigns() {
        String g = "mod G=fun(X:{type t;}){type u=int;val x=\\y:X.t.y;};";
        Bench b = new Bench().good(g + "mod H=G:>fun(X:{type t;}){type u;val x:X.t->X.t;};mod A={type t=bool;};mod B=H(A);mod C=H(A);", 5);
        b.value("B.x", 2, "(bool->bool)").type("B.u", 1, "#3").type("C.u", 1, "#4");
        b.wrong(g + "mod H=G^:>fun(X:{type t;}){val x:int->int;};");
        b.wrong("sig S=fun(X:{}){type u=X.^t;};");
    }

    /** "it has none HIDDEN itself" */
    private static void noneHiddenItself() {
        Bench b = new Bench().good("sig S=fun(X:{type t;}){type u;};sig T=S;sig U={mod F:S;};sig V=U;", 4).count(2, 2);
        b.good("sig S={type t;};sig T=S;", 2).count(2, 2);
        // nor is what it speaks of
        b.good("mod A={type t=int;}:>{type t;};sig S=fun(X:{}){val x:A.t;};sig T=S;", 3).count(2, 1);
    }

    /** "a STRUCTURE a STRUCTURE, if each COMPONENT of that is in it, by sort and NAME" */
    private static void eachComponentBySortAndName() {
        Bench b = new Bench().good("sig S={val x:int;type t=int;mod A:{};};mod A={mod A={};type t=int;val y=1;val x=2;};mod B={type t=int;mod A={};};"
                + "mod C={val x=1;mod A={};};mod D={val x=1;type t=int;};mod F=fun(X:{})X;", 6);
        b.matches("A", 'S', true).matches("B", 'S', false).matches("C", 'S', false).matches("D", 'S', false).matches("F", 'S', false);
        b.good("sig S={val x:int;};sig T={type x=int;};mod A={val x=1;};mod B={type x=int;};", 4);
        b.matches("A", 'S', true).matches("A", 'T', false).matches("B", 'S', false).matches("B", 'T', true);
    }

    /** "a HIDDEN SECRET stands for the TYPE that is in the place of the first TYPE that is it" */
    private static void hiddenOnesStandForTypes() {
        Bench b = new Bench().good("sig S={type t;type u=t;val x:t;};mod A={type t=int;type u=int;val x=1;};mod B={type t=bool;type u=int;val x=1;};"
                + "mod C={type t=bool*int;type u=t;val x=(true,1);};mod D={type t=int;type u=int;val x=true;};", 5);
        b.matches("A", 'S', true).matches("B", 'S', false).matches("C", 'S', true).matches("D", 'S', false);
    }

    /** "(in order, those in MODULES that are STRUCTURES, too)" */
    private static void alsoInModules() {
        Bench b = new Bench().good("sig S={mod A:{mod B:{type t;};};val x:A.B.t;};mod M={mod A={mod B={type t=bool;};};val x=true;};"
                + "mod N={mod A={mod B={type t=bool;};};val x=1;};mod O={mod A=fun(X:{})X;val x=1;};", 4);
        b.matches("M", 'S', true).matches("N", 'S', false).matches("O", 'S', false);
    }

    /** "with these in place of the HIDDEN ones TYPES of VALUES and TYPES are the same" */
    private static void typesAreTheSame() {
        Bench b = new Bench().good("sig S={type t;type u=t*t;val f:t->u;};mod A={type t=int;type u=int*int;val f=\\x:int.(x,x);};"
                + "mod B={type t=int;type u=int*bool;val f=\\x:int.(x,x);};mod C={type t=int;type u=int*int;val f=\\x:int.x;};", 4);
        b.matches("A", 'S', true).matches("B", 'S', false).matches("C", 'S', false);
    }

    /** "MODULES MATCH" */
    private static void modulesMatch() {
        Bench b = new Bench().good("sig S={type t;mod A:{val x:t;};};mod M={type t=int;mod A={val x=1;val y=2;};};mod N={type t=int;mod A={val x=true;};};"
                + "mod O={type t=int;mod A={};};mod P={type t=int;mod A=fun(X:{})X;};", 5);
        b.matches("M", 'S', true).matches("N", 'S', false).matches("O", 'S', false).matches("P", 'S', false);
    }

    /** "A FUNCTOR F MATCHES a FUNCTOR G, if the argument of G MATCHES that of F, with its PARAMETERS as HIDDEN ones" */
    private static void argumentsOfFunctors() {
        Bench b = new Bench().good("sig S=fun(X:{type t=int;val x:t;}){};mod A=fun(X:{type t;val x:t;}){};mod B=fun(X:{val x:int;}){};"
                + "mod C=fun(X:{val x:bool;}){};mod D=fun(X:{val x:int;val y:int;}){};mod E={};", 6);
        b.matches("A", 'S', true).matches("B", 'S', true).matches("C", 'S', false).matches("D", 'S', false).matches("E", 'S', false);
        // those of G are not HIDDEN
        b.good("sig S=fun(X:{type t;}){};mod A=fun(X:{type t;}){};mod B=fun(X:{type t=int;}){};", 3).matches("A", 'S', true).matches("B", 'S', false);
    }

    /** "and, with what these stand for in their place, the result of F MATCHES that of G, with those MADE as HIDDEN ones" */
    private static void resultsOfFunctors() {
        Bench b = new Bench().good("sig S=fun(X:{type t=int;}){type u=int;};sig T=fun(X:{type t;}){type u;};sig U=fun(X:{type t;}){type u=X.t;};"
                + "mod A=fun(X:{type t;}){type u=X.t;};mod B=fun(X:{type t;}){type u=bool;};mod C=fun(X:{type t;}){};", 6);
        b.matches("A", 'S', true).matches("A", 'T', true).matches("A", 'U', true);
        b.matches("B", 'S', false).matches("B", 'T', true).matches("B", 'U', false);
        b.matches("C", 'S', false).matches("C", 'T', false).matches("C", 'U', false);
    }

    /** "MODULES: { BINDINGS } a STRUCTURE; a PATH what it is" */
    private static void rowsAndPaths() {
        Bench b = new Bench().good("mod A={type t=int;val x=1;}:>{type t;val x:t;};mod B=A;mod C={mod A=A;};mod D=C.A;val y=if true then A.x else D.x;", 5);
        b.look(2, "B", 2).type("B.t", 1, "#0").type("D.t", 1, "#0").count(2, 1);
        b.good("mod F=fun(X:{})X;mod G=F;", 2).look(2, "G", -1);
    }

    /** "M :> SIGN must MATCH, and offers what SIGN means" */
    private static void mustMatch() {
        Bench b = new Bench().good("mod A={val x=1;val y=true;}:>{val y:bool;};", 1).look(2, "A", 1).look(0, "A.x", "NoSuchElementException");
        b.wrong("mod A={val x=1;}^:>{val y:bool;};");
        b.wrong("mod A={val x=1;val y=true;}:>{val y:bool;}^:>{val x:int;};");
    }

    /** "(its HIDDEN SECRETS are then what nobody else knows)" */
    private static void nobodyElseKnows() {
        String a = "mod A={type t=int;val x=1;val f=\\x:int.x;}:>{type t;val x:t;val f:t->int;};";
        Bench b = new Bench().good(a + "val y=A.f A.x;", 2).run(9, 1, 5).result("y", 1);
        b.wrong(a + "val y=A.x^+1;");
        b.wrong(a + "val y=A.f ^1;");
        b.wrong(a + "mod B=A:>{type t;val x:t;};val y=A.f ^B.x;");
    }

    /** "fun ( X : SIGN ) M is a FUNCTOR: PARAMETERS are the HIDDEN ones, X is known in M" */
    private static void parametersAreTheHiddenOnes() {
        Bench b = new Bench().good("mod F=fun(X:{type t;val x:t;}){type u=X.t*X.t;val y=(X.x,X.x);};mod A={type t=int;val x=1;};mod B=F(A);", 3).look(2, "F", -1);
        b.type("B.u", 2, "(int*int)").value("B.y", 2, "(int*int)").count(2, 1);
        b.wrong("mod F=fun(X:{type t;val x:t;}){val y=X.x^+1;};");
        b.wrong("mod F=fun(X:{})X;mod A=^X;");
    }

    /** "MADE are, by numbers, the SECRETS that came up in M and are free in its OFFER" */
    private static void madeAreThoseFree() {
        // v came up first, though w stands first; the SECRET of C is not free, since C is not offered
        Bench b = new Bench().good("mod I={type t=int;};mod F=fun(X:{}){mod A=I:>{type t;};mod B=I:>{type t;};mod C=I:>{type t;};type w=B.t;type v=A.t;"
                + "mod A={};mod B={};mod C={};};mod M=F(I);mod N=F(I);", 4).count(2, 7);
        b.type("M.v", 1, "#3").type("M.w", 1, "#4").type("N.v", 1, "#5").type("N.w", 1, "#6");
        // one that came up before M is not MADE
        b.good("mod I={type t=int;}:>{type t;};mod F=fun(X:{})I;mod M=F(I);", 3).count(2, 1).type("M.t", 1, "#0");
    }

    /** "(FUNCTORS bind their PARAMETERS and those MADE)" */
    private static void functorsBind() {
        // what G binds is not free in the OFFER of F, and so F(E) makes nothing; G(E) does
        Bench b = new Bench().good("mod E={type t=int;};mod F=fun(X:{})fun(Y:{type t;})Y:>{type t;};mod G=F(E);mod A=G(E);mod B=G(E);", 5).count(2, 4);
        b.type("A.t", 1, "#2").type("B.t", 1, "#3");
    }

    /** "F ( A ): F a FUNCTOR, A must MATCH its argument; it offers the result, with what PARAMETERS stand for in their place" */
    private static void applications() {
        String f = "mod F=fun(X:{type t;val x:t;}){val p=(X.x,1);};mod A={type t=bool;val x=true;val y=1;};";
        Bench b = new Bench().good(f + "mod B=F(A);", 3).look(2, "B", 1).value("B.p", 2, "(bool*int)");
        b.wrong(f + "mod B=A^(A);");
        b.wrong(f + "mod B=F^(F);");
        b.wrong(f + "mod C={type t=bool;val x=1;};mod B=F^(C);");
    }

    /** "and new SECRETS for those MADE, in order" */
    private static void newSecretsForThoseMade() {
        String f = "mod F=fun(X:{}){type t=int;type u=bool;val x=1;}:>{type t;type u;val x:t;};mod E={};mod A=F(E);mod B=F(E);";
        Bench b = new Bench().good(f, 4).type("A.t", 1, "#2").type("A.u", 1, "#3").value("A.x", 1, "#2").type("B.t", 1, "#4").type("B.u", 1, "#5").count(2, 6);
        b.wrong(f + "val y=^if true then A.x else B.x;");
    }

    /** "NUMERALS are INT, true and false BOOL" */
    private static void numeralsAndTruths() {
        new Bench().good("val x=7;val y=true;val z=false;", 3).value("x", 1, "int").value("y", 1, "bool").value("z", 1, "bool");
    }

    /** "\ x : TYPE . EXPR is an ARROW, x being known in EXPR" */
    private static void functions() {
        Bench b = new Bench().good("val f=\\x:int*bool.(snd x,fst x);", 1).value("f", 4, "((int*bool)->(bool*int))");
        b.wrong("val f=\\x:int.x;val y=^x;");
        b.wrong("val f=\\x:int.^y;");
        b.wrong("val f=(\\x:int.x)(^x);");
    }

    /** "a call wants an ARROW and what it is from" */
    private static void callsWantAnArrow() {
        Bench b = new Bench().good("val f=\\x:int.x<1;val y=f 1;", 2).value("y", 1, "bool");
        b.wrong("val f=\\x:int.x<1;val y=f ^true;");
        b.wrong("val f=1;val y=f ^1;");
        b.wrong("val f=(1,1);val y=f ^1;");
    }

    /** "if a BOOL and two of one TYPE" */
    private static void ifWantsABool() {
        Bench b = new Bench().good("val x=if 1<2 then(1,true)else(2,false);", 1).value("x", 2, "(int*bool)");
        b.wrong("val x=^if 1 then 1 else 2;");
        b.wrong("val x=^if true then 1 else false;");
    }

    /** "+ - INTS; < INTS, == INTS, both BOOL" */
    private static void sumsAndComparisonsWantInts() {
        Bench b = new Bench().good("val a=1+2;val b=1-2;val c=1<2;val d=1==2;", 4);
        b.value("a", 1, "int").value("b", 1, "int").value("c", 1, "bool").value("d", 1, "bool");
        for (String sign : new String[] {"+", "-", "<", "=="}) {
            b.wrong("val x=1^" + sign + "true;");
            b.wrong("val x=true^" + sign + "1;");
            b.wrong("val x=true^" + sign + "true;");
            b.wrong("val x=(1,2)^" + sign + "(1,2);");
        }
    }

    /** "fst, snd a PAIR" */
    private static void fstAndSndWantAPair() {
        Bench b = new Bench().good("val p=(1,true);val x=fst p;val y=snd p;", 3).value("x", 1, "int").value("y", 1, "bool");
        for (String taker : new String[] {"fst", "snd"}) {
            b.wrong("val x=^" + taker + " 1;");
            b.wrong("val x=^" + taker + " true;");
            b.wrong("val x=^" + taker + "(\\x:int.x);");
        }
    }
}
