/**
 * Section Terms, sentence by sentence: THE TEXT, its TOKENS, the grammar and how deep things lie. Each method
 * says which words decide its answers; the mark ^ stands before the place of a fault that is due.
 */
public final class TermsTextTest {
    public static void main(String[] args) {
        atMost240Characters();
        characters32To126();
        blanksBetweenOrNot();
        numeralsOfOneToFourDigits();
        wordsAreAllLetters();
        namesOfOneLetter();
        eachSign();
        longerSigns();
        programs();
        bindings();
        modules();
        allSealsBehindFun();
        plains();
        paths();
        signs();
        specs();
        types();
        products();
        atoms();
        exprs();
        sums();
        calls();
        parts();
        smallAndGreatNames();
        bracesAreTokens();
        groupToTheLeft();
        bindingsOfTheProgramAreNotDeep();
        oneDeeper();
        deeperForFstAndSnd();
        nineDeepIsAFault();
        Bench.end();
    }

    private static String text(Bench b, long w) {
        return Bench.answer(() -> b.forge.text(w));
    }

    /** "THE TEXT is a row of at most 240 characters" */
    private static void atMost240Characters() {
        Bench b = new Bench().give("val x=1;".repeat(30)).count(0, 240);
        Bench.due("the 241st character", text(b, ' '), "IllegalStateException");
        Bench.due("elaborate of 240 characters", Bench.answer(b.forge::elaborate), "30");
    }

    /** "(32 to 126)" */
    private static void characters32To126() {
        for (int c = 1; c <= 255; c++) {
            Bench.due("text(" + c + ")", text(new Bench(), c), c >= 32 && c <= 126 ? "1" : "IllegalArgumentException");
        }
    }

    /** "TOKENS, with blanks between or not" */
    private static void blanksBetweenOrNot() {
        Bench b = new Bench();
        b.good("val f=\\x:int*int.fst x+1;mod A={}:>{};", 2);
        b.good(" val  f = \\ x : int * int . fst x + 1 ; mod A = { } :> { } ; ", 2);
        // a blank can not be within one
        b.noProgram("^va l x=1;");
        b.noProgram("mod A={}^: >{};");
        b.good("val x=12;val y=fst(1,2);", 2);
        b.wrong("val x=1 ^2;");
    }

    /** "NUMERALS of one to four digits (all digits that follow each other)" */
    private static void numeralsOfOneToFourDigits() {
        Bench b = new Bench();
        b.good("val a=0;val b=12;val c=345;val d=6789;val e=0007;", 5).run(5, 1, 5);
        b.result("a", 0).result("b", 12).result("c", 345).result("d", 6789).result("e", 7);
        b.noProgram("val a=^12345;");
        b.noProgram("val a=^00000;");
        b.noProgram("val a=^");
    }

    /** "words, all letters that follow each other: val type mod sig fun int bool true false if then else fst snd" */
    private static void wordsAreAllLetters() {
        Bench b = new Bench();
        b.good("val x=if true then fst(1,2)else snd(1,2);val y=false;type t=int->bool;mod F=fun(X:{})X;sig S={};", 5);
        b.noProgram("^valx=1;");
        b.noProgram("^Val x=1;");
        b.noProgram("val x=^fstx;");
        b.noProgram("val x=if true ^thena else 1;");
        b.noProgram("type t=^integer;");
        b.noProgram("type t=^in;");
        // a digit ends a word, and letters end a NUMERAL
        b.good("val x=if true then 1else 2;val f=\\y:int.y;val z=f1;", 3);
    }

    /** "NAMES: one small letter (of VALUES and TYPES), one great letter (of MODULES and SIGNATURES)" */
    private static void namesOfOneLetter() {
        Bench b = new Bench();
        b.good("val a=1;val z=1;type a=int;type z=int;mod A={};mod Z={};sig A={};sig Z={};", 8);
        b.noProgram("val ^ab=1;");
        b.noProgram("mod ^AB={};");
        b.noProgram("val ^A=1;");
        b.noProgram("type ^T=int;");
        b.noProgram("mod ^a={};");
        b.noProgram("sig ^s={};");
    }

    /** "the signs { } ( ) = == ; : :> . , -> * + - < and the backslash" */
    private static void eachSign() {
        Bench b = new Bench();
        b.good("mod A={}:>{};val x=fst(1+2-3,\\x:int*int->bool.1<2);val y=x==1;mod B=A;", 4);
        String signs = "{}()=;:.,*+-<\\";
        for (char c = 33; c <= 126; c++) {
            boolean letterOrDigit = c >= '0' && c <= '9' || c >= 'a' && c <= 'z' || c >= 'A' && c <= 'Z';
            if (!letterOrDigit && signs.indexOf(c) < 0) {
                b.noProgram("val x=1^" + c + "1;");
            }
        }
    }

    /** "(longer ones where they can be)" */
    private static void longerSigns() {
        Bench b = new Bench();
        b.noProgram("val x^==1;");
        b.noProgram("sig S={val x^:>int;};");
        b.noProgram("val x=1^->1;");
        b.good("val x=1==1;mod A={}:>{};type t=int->int;", 3);
        b.noProgram("val x=1^= =1;");
        b.noProgram("type t=int^- >int;");
    }

    /** "PROGRAM = { BINDING }" */
    private static void programs() {
        Bench b = new Bench();
        b.good("", 0).good("val x=1;", 1).good("val x=1;val y=2;val z=3;", 3);
        b.noProgram("^1;");
        b.noProgram("val x=1;^}");
    }

    /** "BINDING = val x = EXPR ; | type t = TYPE ; | mod X = MODULE ; | sig X = SIGN ;" */
    private static void bindings() {
        Bench b = new Bench();
        b.good("val x=1;type t=int;mod X={};sig X={};", 4);
        b.noProgram("val x=^int;");
        b.noProgram("type t=^1;");
        b.noProgram("mod X=^1;");
        b.noProgram("sig X=^1;");
        b.noProgram("val x^:int;");
        b.noProgram("val x=1^");
        b.noProgram("type t=int^,");
        b.noProgram("^fun(X:{})X;");
    }

    /** "MODULE = PLAIN { :> SIGN }" */
    private static void modules() {
        Bench b = new Bench();
        b.good("mod A={val x=1;val y=2;val z=3;};", 1).look(2, "A", 3);
        b.good("mod A={val x=1;val y=2;val z=3;}:>{val x:int;val y:int;};", 1).look(2, "A", 2);
        b.good("mod A={val x=1;val y=2;val z=3;}:>{val x:int;val y:int;}:>{val x:int;};", 1).look(2, "A", 1);
        b.noProgram("mod A=^:>{};");
        b.noProgram("mod A={}:>^;");
    }

    /** "(what stands behind the ) of fun ( X : SIGN ) is one MODULE, with all :> that follow)" */
    private static void allSealsBehindFun() {
        Bench b = new Bench();
        // sealing is that of the result: X is known there, and F stays a FUNCTOR
        b.good("mod F=fun(X:{type t;})X:>{type t=X.t;}:>{};", 1).look(2, "F", -1);
        b.wrong("mod F=fun(X:{})X^:>fun(X:{}){};");
        b.good("mod F=fun(X:{})fun(Y:{})Y:>{};", 1).look(2, "F", -1);
    }

    /** "PLAIN = { { BINDING } } | fun ( X : SIGN ) MODULE | PATH [ ( PATH ) ]" */
    private static void plains() {
        Bench b = new Bench();
        b.good("mod A={};mod B={val x=1;val y=2;};mod F=fun(X:{})X;mod C=B;mod D=F(B);mod M={mod F=F;};mod E=M.F(M);", 7);
        b.noProgram("mod D=F(B)^(B);");
        b.noProgram("mod D=F(^{});");
        b.noProgram("mod D=^(B);");
        b.noProgram("mod A={val x=1;^;");
    }

    /** "PATH = X { . X }" */
    private static void paths() {
        Bench b = new Bench();
        b.good("mod A={mod B={mod C={val x=1;};};};mod D=A;mod E=A.B;mod F=A.B.C;", 4).look(0, "F.x", 1);
        b.noProgram("mod D=A.^;");
        b.noProgram("mod D=A.^b;");
        b.noProgram("mod D=A ^B;");
    }

    /** "SIGN = { { SPEC } } | X | fun ( X : SIGN ) SIGN" */
    private static void signs() {
        Bench b = new Bench();
        b.good("sig A={};sig B={type t;val x:t;};sig C=B;sig D=fun(X:B)C;", 4);
        b.noProgram("sig C=A^.B;");
        b.noProgram("sig C=^(A);");
        b.noProgram("sig C=B^:>A;");
        b.noProgram("sig D=fun(X:B)^;");
    }

    /** "SPEC = val x : TYPE ; | type t ; | type t = TYPE ; | mod X : SIGN ;" */
    private static void specs() {
        Bench b = new Bench();
        b.good("sig S={val x:int;type t;type u=int;mod X:{};};", 1).count(2, 1);
        b.noProgram("sig S={val x^=1;};");
        b.noProgram("sig S={val x^;};");
        b.noProgram("sig S={type t^:int;};");
        b.noProgram("sig S={mod X^={};};");
        b.noProgram("sig S={mod X^;};");
        b.noProgram("sig S={^sig T={};};");
    }

    /** "TYPE = PRODUCT [ -> TYPE ]" */
    private static void types() {
        Bench b = new Bench();
        b.good("type a=int*bool;type b=int*bool->int;type c=int->bool->int;", 3);
        b.type("b", 3, "((int*bool)->int)").type("c", 3, "(int->(bool->int))");
        b.noProgram("type a=int->^;");
        b.noProgram("type a=^->int;");
    }

    /** "PRODUCT = ATOM { * ATOM }" */
    private static void products() {
        Bench b = new Bench().good("type a=int;type b=int*bool;type c=int->int*bool;", 3);
        b.type("a", 1, "int").type("b", 2, "(int*bool)").type("c", 3, "(int->(int*bool))");
        b.noProgram("type a=int*^;");
    }

    /** "ATOM = int | bool | [ PATH . ] t | ( TYPE )" */
    private static void atoms() {
        Bench b = new Bench().good("mod A={mod B={type t=bool*int;};};type a=int;type b=bool;type c=a;type d=A.B.t;type e=(int->int)->int;", 6);
        b.type("a", 1, "int").type("b", 1, "bool").type("c", 1, "int").type("d", 2, "(bool*int)").type("e", 3, "((int->int)->int)");
        b.noProgram("type a=A^;");
        b.noProgram("type a=A.B^*int;");
        b.noProgram("type a=(int^,int);");
    }

    /** "EXPR = \ x : TYPE . EXPR | if EXPR then EXPR else EXPR | SUM [ ( < | == ) SUM ]" */
    private static void exprs() {
        Bench b = new Bench();
        b.good("val f=\\x:int.if x<2 then x+1 else x-1;val a=f 1;val b=f 2;val c=1+1==2;val d=2<1+1;val e=5;", 6).run(9, 1, 8);
        b.result("a", 2).result("b", 1).result("c", 1).result("d", 0).result("e", 5);
        // all that follows belongs to the FUNCTION, and to what stands behind else
        b.good("val f=\\x:int.x+1;val a=if true then 1 else 2+3;", 2).run(2, 1, 2).result("a", 1).value("f", 2, "(int->int)");
        b.noProgram("val a=1<2^<3;");
        b.noProgram("val a=1==2^==3;");
        b.noProgram("val a=1+^if true then 1 else 2;");
        b.noProgram("val a=1+^\\x:int.x;");
        b.noProgram("val a=if true then 1^;");
    }

    /** "SUM = CALL { ( + | - ) CALL }" */
    private static void sums() {
        Bench b = new Bench();
        b.good("val f=\\x:int.x+x;val a=f 3+f 4-f 1;val b=7;", 3).run(9, 1, 6).result("a", 12).result("b", 7);
        b.noProgram("val a=1+^;");
        b.noProgram("val a=^-1;");
    }

    /** "CALL = PART { PART }" */
    private static void calls() {
        Bench b = new Bench();
        b.good("val f=\\x:int.\\y:int.x-y;val a=f 9 4;val b=f(f 9 4)1;val c=f;", 4).run(12, 1, 10).result("a", 5).result("b", 4);
        b.noProgram("val a=f ^\\x:int.x;");
        b.noProgram("val a=f ^if true then 1 else 2;");
    }

    /** "PART = NUMERAL | true | false | [ PATH . ] x | fst PART | snd PART | ( EXPR ) | ( EXPR , EXPR )" */
    private static void parts() {
        Bench b = new Bench();
        b.good("mod A={mod B={val x=6;};};val a=7;val b=true;val c=false;val d=a;val e=A.B.x;val f=fst(1,2);val g=snd(1,2);val h=(3);val p=(4,5);", 10);
        b.run(20, 1, 12).result("a", 7).result("b", 1).result("c", 0).result("d", 7).result("e", 6).result("f", 1).result("g", 2).result("h", 3);
        b.value("p", 2, "(int*int)");
        // fst and snd take the one PART behind them
        b.good("val p=(\\x:int.x+1,2);val a=fst p 4;val b=snd p+1;val q=((1,8),3);val c=snd fst q;", 5).run(9, 1, 6).result("a", 5).result("b", 3).result("c", 8);
        b.noProgram("val a=A^;");
        b.noProgram("val a=A.B^;");
        b.noProgram("val a=(1,2^,3);");
        b.noProgram("val a=fst^;");
    }

    /** "(x, t small, X great NAMES" */
    private static void smallAndGreatNames() {
        Bench b = new Bench();
        b.noProgram("val f=\\^X:int.1;");
        b.noProgram("mod F=fun(^x:{})A;");
        b.noProgram("sig S=fun(^x:{}){};");
        b.noProgram("sig S={val ^X:int;};");
        b.noProgram("sig S={type ^T;};");
        b.noProgram("sig S={mod ^x:{};};");
        b.noProgram("mod A=^b;");
        b.noProgram("mod A=B(^c);");
        b.noProgram("mod A={}:>^s;");
        b.noProgram("type t=int*A^;");
        b.noProgram("val x=A.B^+1;");
    }

    /** "the { and } around BINDINGS and SPECS are TOKENS, those outermost of a rule of repetition are not" */
    private static void bracesAreTokens() {
        Bench b = new Bench();
        b.noProgram("^{val x=1;}");
        b.noProgram("mod A=^val x=1;;");
        b.noProgram("sig S=^type t;;");
        b.noProgram("mod A={}^{:>{}};");
        b.good("mod A={val x=1;};sig S={type t;};", 2);
    }

    /** "* , + , - and calls group to the left" */
    private static void groupToTheLeft() {
        Bench b = new Bench().good("type t=int*bool*int;val a=9-3-2;val b=9-3+2;val f=\\x:int.\\y:bool.x;val c=f 1 true;", 5).run(9, 1, 6);
        b.type("t", 3, "((int*bool)*int)").result("a", 4).result("b", 8).result("c", 1);
        b.wrong("val g=\\x:int.x;val d=g ^g 1;");
    }

    /** "(those of BINDINGS of the PROGRAM are 0 deep)" */
    private static void bindingsOfTheProgramAreNotDeep() {
        Bench b = new Bench();
        b.good("val x=((((((((1))))))));type t=((((((((int))))))));", 2);
        b.noProgram("val x=(((((((((^1)))))))));");
        b.noProgram("type t=(((((((((^int)))))))));");
        b.good("mod A=fun(X:{})fun(X:{})fun(X:{})fun(X:{})fun(X:{})fun(X:{})fun(X:{})fun(X:{})X;", 1);
        b.noProgram("mod A=fun(X:{})fun(X:{})fun(X:{})fun(X:{})fun(X:{})fun(X:{})fun(X:{})fun(X:{})fun(X:^{})X;");
        b.good("sig A=fun(X:{})fun(X:{})fun(X:{})fun(X:{})fun(X:{})fun(X:{})fun(X:{})fun(X:{}){};", 1);
        b.noProgram("sig A=fun(X:{})fun(X:{})fun(X:{})fun(X:{})fun(X:{})fun(X:{})fun(X:{})fun(X:{})fun(X:^{}){};");
    }

    /** "A MODULE, SIGN, TYPE or EXPR lies 1 deeper than the innermost one of these that it is a part of" */
    private static void oneDeeper() {
        Bench b = new Bench();
        // a TYPE in an EXPR in a MODULE in a MODULE, and TYPES in a SIGN in a SIGN of a MODULE: 8 deep and 9 deep
        b.read("mod A={mod B={val f=\\x:int->int->int->int->int->int.1;};};");
        b.noProgram("mod A={mod B={val f=\\x:int->int->int->int->int->int->^int.1;};};");
        b.read("mod A={}:>{mod B:{val x:((((int->int))));};};");
        b.noProgram("mod A={}:>{mod B:{val x:((((int->(^int)))));};};");
        b.read("mod F=fun(X:{mod B:{val x:((((int->int))));};})X;");
        b.noProgram("mod F=fun(X:{mod B:{val x:((((int->(^int)))));};})X;");
        // each EXPR within an EXPR: how it begins, with the mark before what is 1 deeper, and how it ends
        String[][] exprs = {{"(^", ")"}, {"(^", ",1)"}, {"(^1,", ")"}, {"\\x:^int.", ""}, {"if ^", " then 1 else 1"},
            {"if ^true then ", " else 1"}, {"if ^true then 1 else ", ""}};
        for (String[] expr : exprs) {
            String begin = expr[0].replace("^", "");
            b.read("val x=" + begin.repeat(8) + "1" + expr[1].repeat(8) + ";");
            b.noProgram("val x=" + begin.repeat(8) + expr[0] + "1");
        }
        // side by side is not deeper
        b.good("val x=1+(2)+(3)+(4)+(5)+(6)+(7)+(8)+(9)+(1)+(2);mod A={}:>{}:>{}:>{}:>{}:>{}:>{}:>{}:>{}:>{};", 2);
    }

    /** "and 1 deeper still for each fst and snd before it in that; a PART is as deep as the EXPR it stands in, and 1 deeper for each .." */
    private static void deeperForFstAndSnd() {
        Bench b = new Bench();
        b.read("val x=fst fst fst fst snd snd snd snd 1;");
        b.noProgram("val x=fst fst fst fst snd snd snd snd fst ^1;");
        b.read("val x=fst fst fst fst snd snd snd(1);");
        b.noProgram("val x=fst fst fst fst snd snd snd snd(^1);");
        b.read("val x=((((((((1))))))));");
        b.noProgram("val x=((((((((fst ^1))))))));");
        b.noProgram("val x=fst((((((((^1))))))));");
    }

    /** "What is 9 deep is a fault, at its first TOKEN." */
    private static void nineDeepIsAFault() {
        Bench b = new Bench();
        b.noProgram("val x=(((((((( ( ^(1)+2)))))))));");
        b.noProgram("type t=int->int->int->int->int->int->int->int->int-> ^int*int;");
        b.noProgram("sig A={mod A:{mod A:{mod A:{mod A:{mod A:{mod A:{mod A:{mod A:{mod A: ^fun(X:{}){};};};};};};};};};};");
        b.noProgram("mod A={mod A={mod A={mod A={mod A={mod A={mod A={mod A={mod A={mod A= ^B;};};};};};};};};};");
    }
}
